def wp_k_Server : List Cond := .code yX10_init cX10_init 2 none :: (([.methodLink RX10 3 Lib.objectInit, .instanceMethod Lib.objectInit, .code Lib.objectInit ⟨#[0xb1]⟩ 1 none, .arrayClass .int, .fieldLink RX10 11 "LowEnergy$Server" "types" "[I", .fieldLink RX10 15 "LowEnergy$Server" "rights" "[I", .classLink RX10 18 RX9, .fieldLink RX10 20 "LowEnergy$Server" "values" "[LLowEnergy$Row;", .fieldLink RX10 24 "LowEnergy$Server" "ownMtu" "I", .fieldLink RX10 28 "LowEnergy$Server" "linkMtu" "I", .fieldLink RX10 31 "LowEnergy$Server" "parts" "[LLowEnergy$Row;", .fieldLink RX10 34 "LowEnergy$Server" "sizes" "[I", .instantiable RX9 2, .initialized RX9, .methodLink RX10 37 yX9_init, .instanceMethod yX9_init, .code yX9_init cX9_init 2 none, .methodLink RX9 3 Lib.objectInit, .methodLink RX9 9 Lib.Math.max.name, .static Lib.Math.max.name, .initialized "java/lang/Math", .code Lib.Math.max.name Lib.Math.max.code 2 (some .int), .fieldLink RX9 15 "LowEnergy$Row" "bytes" "[I"] : List Cond) ++ (wsX100 ++ (wsX90 ++ ([]))))
theorem hi_k_Server_X10 : ∀ x ∈ u_ws RX10 TX10 10, x ∈ wp_k_Server := fun _ h => List.mem_cons_of_mem _ (List.mem_append_right _ (List.mem_append_left _ h))
theorem hi_k_Server_X9 : ∀ x ∈ u_ws RX9 TX9 2, x ∈ wp_k_Server := fun _ h => List.mem_cons_of_mem _ (List.mem_append_right _ (List.mem_append_right _ (List.mem_append_left _ h)))
set_option maxRecDepth 100000 in
theorem gd_k_Server_k_Row_37 : GoodIn wp_k_Server (wp_k_Row) := goodIn_ca (goodIn_r _ [17, 18, 2, 3, 19, 20, 21, 22, 4, 23] rfl rfl) (goodIn_app (goodIn_cls hi_k_Server_X9 gw_X9) (goodIn_nil))
set_option maxHeartbeats 4000000 in
set_option maxRecDepth 100000 in
theorem k_Server (l : Launch) (D : va_G) (K : Nat → ClassId) {τ : Nat → Option Ty} {dom : List Nat} {σ : Nat → va_E} (Z : Sk τ dom) (G : Good K τ σ) (h : Nat) : MG l yX10_init wp_k_Server ({ frames := 2, cells := 57, slots := 1322, locals := 35 }) D (tysA K) [.ref h] ((h, .inr (10, [.null, .null, .null, .int (iI 0), .int (iI 0), .int (iI 0), .null, .int (iI 0), .int (iI 0), .null])) :: fd dom σ) (Qv D (fun u : List Nat × (Nat → va_E) × (Nat → Option Ty) => Sk u.2.2 u.1 ∧ Good K u.2.2 u.2.1 ∧ u.2.2 h = some (40, 0, 0) ∧ Sub τ u.2.2) (fun u => fd u.1 u.2.1)) 57 1322 := by
  refine mg_of (cc := cX10_init) (maxL := 2) (ret := none) (by decide +kernel) rfl (Nat.le_of_ble_eq_true rfl) ?_
  intro p e s m below meth c A B hr hlk hnam
  show V _ _ _ _ _ _ _ _ _ _ _ _ _ _ _ ([(h, .inr (10, [.null, .null, .null, .int (iI 0), .int (iI 0), .int (iI 0), .null, .int (iI 0), .int (iI 0), .null]))] ++ fd dom σ) [(0, .ref h)] _ _
  refine v_aload_n B dX10_init_0 rfl rfl ?_
  refine v_objInit B (List.mem_of_getElem? (i := 1) rfl) (List.mem_of_getElem? (i := 2) rfl) (List.mem_of_getElem? (i := 3) rfl) dX10_init_1 (by decide +kernel) (Nat.le_of_ble_eq_true rfl) ?_
  refine v_aload_n B dX10_init_4 rfl rfl ?_
  refine v_bipush B (v := iI 20) dX10_init_5 (by decide +kernel) ?_
  refine v_newa_int B (cA := K 0) (t0 := 0) (N' := 20) (List.mem_of_getElem? (i := 4) rfl) rfl (by decide +kernel) (by decide +kernel) (by decide +kernel) (by decide +kernel) (by decide +kernel) dX10_init_7 (fun q1 => ?_)
  show V _ _ _ _ _ _ _ _ _ _ _ _ _ _ (1, 20) (([(h, .inr (10, [.null, .null, .null, .int (iI 0), .int (iI 0), .int (iI 0), .null, .int (iI 0), .int (iI 0), .null]))] ++ fd dom σ) ++ [(q1, .inl (K 0, 20, .inl (fun _ => 0)))]) _ _ [.ref q1, .ref h]
  refine v_perm (pm2 [(h, .inr (10, [.null, .null, .null, .int (iI 0), .int (iI 0), .int (iI 0), .null, .int (iI 0), .int (iI 0), .null]))] (fd dom σ) (q1, .inl (K 0, 20, .inl (fun _ => 0)))) ?_
  refine v_absorb (E := [(h, .inr (10, [.null, .null, .null, .int (iI 0), .int (iI 0), .int (iI 0), .null, .int (iI 0), .int (iI 0), .null]))]) (q := q1) (e0 := .inl (K 0, 20, .inl (fun _ => 0))) (t := (3, 26, 20)) Z G (fun _ _ _ => ⟨_, rfl, by decide⟩) (fun dom2 σ3 τ4 Z5 G6 t7 m8 => ?_)
  show V _ _ _ _ _ _ _ _ _ _ _ _ _ _ (1, 20) ([(h, .inr (10, [.null, .null, .null, .int (iI 0), .int (iI 0), .int (iI 0), .null, .int (iI 0), .int (iI 0), .null]))] ++ fd dom2 σ3) _ _ [.ref q1, .ref h]
  refine v_putF B (k0 := 0) (C := RX10) (T := TX10) (N := 10) (ci := 10) hi_k_Server_X10 rfl rfl 0 (by decide +kernel) tyX10 tyX10_ok nmX10 (List.mem_of_getElem? (i := 5) rfl) rfl hnam rfl (ty := .array .int) (tyX10_ok 0 (by decide +kernel)) rfl rfl (Nat.le_of_ble_eq_true rfl) (w' := [(h, .inr (10, [.ref q1, .null, .null, .int (iI 0), .int (iI 0), .int (iI 0), .null, .int (iI 0), .int (iI 0), .null]))] ++ fd dom2 σ3) rfl dX10_init_9 ?_
  refine v_aload_n B dX10_init_12 rfl rfl ?_
  refine v_bipush B (v := iI 20) dX10_init_13 (by decide +kernel) ?_
  refine v_newa_int B (cA := K 0) (t0 := 0) (N' := 20) (List.mem_of_getElem? (i := 4) rfl) rfl (by decide +kernel) (by decide +kernel) (by decide +kernel) (by decide +kernel) (by decide +kernel) dX10_init_15 (fun q9 => ?_)
  show V _ _ _ _ _ _ _ _ _ _ _ _ _ _ (2, 40) (([(h, .inr (10, [.ref q1, .null, .null, .int (iI 0), .int (iI 0), .int (iI 0), .null, .int (iI 0), .int (iI 0), .null]))] ++ fd dom2 σ3) ++ [(q9, .inl (K 0, 20, .inl (fun _ => 0)))]) _ _ [.ref q9, .ref h]
  refine v_perm (pm2 [(h, .inr (10, [.ref q1, .null, .null, .int (iI 0), .int (iI 0), .int (iI 0), .null, .int (iI 0), .int (iI 0), .null]))] (fd dom2 σ3) (q9, .inl (K 0, 20, .inl (fun _ => 0)))) ?_
  refine v_absorb (E := [(h, .inr (10, [.ref q1, .null, .null, .int (iI 0), .int (iI 0), .int (iI 0), .null, .int (iI 0), .int (iI 0), .null]))]) (q := q9) (e0 := .inl (K 0, 20, .inl (fun _ => 0))) (t := (3, 27, 20)) Z5 G6 (fun _ _ _ => ⟨_, rfl, by decide⟩) (fun dom10 σ11 τ12 Z13 G14 t15 m16 => ?_)
  show V _ _ _ _ _ _ _ _ _ _ _ _ _ _ (2, 40) ([(h, .inr (10, [.ref q1, .null, .null, .int (iI 0), .int (iI 0), .int (iI 0), .null, .int (iI 0), .int (iI 0), .null]))] ++ fd dom10 σ11) _ _ [.ref q9, .ref h]
  refine v_putF B (k0 := 0) (C := RX10) (T := TX10) (N := 10) (ci := 10) hi_k_Server_X10 rfl rfl 1 (by decide +kernel) tyX10 tyX10_ok nmX10 (List.mem_of_getElem? (i := 6) rfl) rfl hnam rfl (ty := .array .int) (tyX10_ok 1 (by decide +kernel)) rfl rfl (Nat.le_of_ble_eq_true rfl) (w' := [(h, .inr (10, [.ref q1, .ref q9, .null, .int (iI 0), .int (iI 0), .int (iI 0), .null, .int (iI 0), .int (iI 0), .null]))] ++ fd dom10 σ11) rfl dX10_init_17 ?_
  refine v_aload_n B dX10_init_20 rfl rfl ?_
  refine v_bipush B (v := iI 20) dX10_init_21 (by decide +kernel) ?_
  refine v_newq B (C := RX9) (cA := K 4) (t0 := 4) (N' := 20) (List.mem_of_getElem? (i := 7) rfl) B.2.2.2.2.2.1.2.2.1 rfl (by decide +kernel) (by decide +kernel) (by decide +kernel) (by decide +kernel) (by decide +kernel) dX10_init_23 (fun q17 => ?_)
  show V _ _ _ _ _ _ _ _ _ _ _ _ _ _ (3, 60) (([(h, .inr (10, [.ref q1, .ref q9, .null, .int (iI 0), .int (iI 0), .int (iI 0), .null, .int (iI 0), .int (iI 0), .null]))] ++ fd dom10 σ11) ++ [(q17, .inl (K 4, 20, .inr (.inr (.inr (.inr (fun _ => none))))))]) _ _ [.ref q17, .ref h]
  refine v_perm (pm5 [(h, .inr (10, [.ref q1, .ref q9, .null, .int (iI 0), .int (iI 0), .int (iI 0), .null, .int (iI 0), .int (iI 0), .null]))] (fd dom10 σ11) (q17, .inl (K 4, 20, .inr (.inr (.inr (.inr (fun _ => none))))))) ?_
  show V _ _ _ _ _ _ _ _ _ _ _ _ _ _ (3, 60) ([(h, .inr (10, [.ref q1, .ref q9, .null, .int (iI 0), .int (iI 0), .int (iI 0), .null, .int (iI 0), .int (iI 0), .null])), (q17, .inl (K 4, 20, .inr (.inr (.inr (.inr (fun _ => none))))))] ++ fd dom10 σ11) _ _ [.ref q17, .ref h]
  have H18 : ∀ j : Nat, j < 0 → ∃ a : Nat, (fun _ : Nat => (none : Option Nat)) j = some a ∧ τ12 a = some (1, 13, 0) := fun _ h => by omega
  refine v_putF B (k0 := 0) (C := RX10) (T := TX10) (N := 10) (ci := 10) hi_k_Server_X10 rfl rfl 2 (by decide +kernel) tyX10 tyX10_ok nmX10 (List.mem_of_getElem? (i := 8) rfl) rfl hnam rfl (ty := .array (.object "LowEnergy$Row")) (tyX10_ok 2 (by decide +kernel)) rfl rfl (Nat.le_of_ble_eq_true rfl) (w' := [(h, .inr (10, [.ref q1, .ref q9, .ref q17, .int (iI 0), .int (iI 0), .int (iI 0), .null, .int (iI 0), .int (iI 0), .null])), (q17, .inl (K 4, 20, .inr (.inr (.inr (.inr (fun _ => none))))))] ++ fd dom10 σ11) rfl dX10_init_26 ?_
  refine v_aload_n B dX10_init_29 rfl rfl ?_
  refine v_bipush B (v := iI 23) dX10_init_30 (by decide +kernel) ?_
  refine v_put B (k0 := 0) (C := RX10) (T := TX10) (N := 10) (ci := 10) hi_k_Server_X10 rfl rfl 4 (by decide +kernel) tyX10 tyX10_ok nmX10 (List.mem_of_getElem? (i := 9) rfl) rfl (ty := .int) (tyX10_ok 4 (by decide +kernel)) rfl rfl (Nat.le_of_ble_eq_true rfl) (w' := [(h, .inr (10, [.ref q1, .ref q9, .ref q17, .int (iI 0), .int (iI 23), .int (iI 0), .null, .int (iI 0), .int (iI 0), .null])), (q17, .inl (K 4, 20, .inr (.inr (.inr (.inr (fun _ => none))))))] ++ fd dom10 σ11) rfl dX10_init_32 ?_
  refine v_aload_n B dX10_init_35 rfl rfl ?_
  refine v_bipush B (v := iI 23) dX10_init_36 (by decide +kernel) ?_
  refine v_put B (k0 := 0) (C := RX10) (T := TX10) (N := 10) (ci := 10) hi_k_Server_X10 rfl rfl 5 (by decide +kernel) tyX10 tyX10_ok nmX10 (List.mem_of_getElem? (i := 10) rfl) rfl (ty := .int) (tyX10_ok 5 (by decide +kernel)) rfl rfl (Nat.le_of_ble_eq_true rfl) (w' := [(h, .inr (10, [.ref q1, .ref q9, .ref q17, .int (iI 0), .int (iI 23), .int (iI 23), .null, .int (iI 0), .int (iI 0), .null])), (q17, .inl (K 4, 20, .inr (.inr (.inr (.inr (fun _ => none))))))] ++ fd dom10 σ11) rfl dX10_init_38 ?_
  refine v_aload_n B dX10_init_41 rfl rfl ?_
  refine v_bipush B (v := iI 6) dX10_init_42 (by decide +kernel) ?_
  refine v_newq B (C := RX9) (cA := K 4) (t0 := 4) (N' := 6) (List.mem_of_getElem? (i := 7) rfl) B.2.2.2.2.2.1.2.2.1 rfl (by decide +kernel) (by decide +kernel) (by decide +kernel) (by decide +kernel) (by decide +kernel) dX10_init_44 (fun q19 => ?_)
  show V _ _ _ _ _ _ _ _ _ _ _ _ _ _ (4, 66) (([(h, .inr (10, [.ref q1, .ref q9, .ref q17, .int (iI 0), .int (iI 23), .int (iI 23), .null, .int (iI 0), .int (iI 0), .null])), (q17, .inl (K 4, 20, .inr (.inr (.inr (.inr (fun _ => none))))))] ++ fd dom10 σ11) ++ [(q19, .inl (K 4, 6, .inr (.inr (.inr (.inr (fun _ => none))))))]) _ _ [.ref q19, .ref h]
  refine v_perm (pm5 [(h, .inr (10, [.ref q1, .ref q9, .ref q17, .int (iI 0), .int (iI 23), .int (iI 23), .null, .int (iI 0), .int (iI 0), .null])), (q17, .inl (K 4, 20, .inr (.inr (.inr (.inr (fun _ => none))))))] (fd dom10 σ11) (q19, .inl (K 4, 6, .inr (.inr (.inr (.inr (fun _ => none))))))) ?_
  show V _ _ _ _ _ _ _ _ _ _ _ _ _ _ (4, 66) ([(h, .inr (10, [.ref q1, .ref q9, .ref q17, .int (iI 0), .int (iI 23), .int (iI 23), .null, .int (iI 0), .int (iI 0), .null])), (q17, .inl (K 4, 20, .inr (.inr (.inr (.inr (fun _ => none)))))), (q19, .inl (K 4, 6, .inr (.inr (.inr (.inr (fun _ => none))))))] ++ fd dom10 σ11) _ _ [.ref q19, .ref h]
  have H20 : ∀ j : Nat, j < 0 → ∃ a : Nat, (fun _ : Nat => (none : Option Nat)) j = some a ∧ τ12 a = some (1, 14, 0) := fun _ h => by omega
  refine v_putF B (k0 := 0) (C := RX10) (T := TX10) (N := 10) (ci := 10) hi_k_Server_X10 rfl rfl 6 (by decide +kernel) tyX10 tyX10_ok nmX10 (List.mem_of_getElem? (i := 11) rfl) rfl hnam rfl (ty := .array (.object "LowEnergy$Row")) (tyX10_ok 6 (by decide +kernel)) rfl rfl (Nat.le_of_ble_eq_true rfl) (w' := [(h, .inr (10, [.ref q1, .ref q9, .ref q17, .int (iI 0), .int (iI 23), .int (iI 23), .ref q19, .int (iI 0), .int (iI 0), .null])), (q17, .inl (K 4, 20, .inr (.inr (.inr (.inr (fun _ => none)))))), (q19, .inl (K 4, 6, .inr (.inr (.inr (.inr (fun _ => none))))))] ++ fd dom10 σ11) rfl dX10_init_47 ?_
  refine v_aload_n B dX10_init_50 rfl rfl ?_
  refine v_bipush B (v := iI 20) dX10_init_51 (by decide +kernel) ?_
  refine v_newa_int B (cA := K 0) (t0 := 0) (N' := 20) (List.mem_of_getElem? (i := 4) rfl) rfl (by decide +kernel) (by decide +kernel) (by decide +kernel) (by decide +kernel) (by decide +kernel) dX10_init_53 (fun q21 => ?_)
  show V _ _ _ _ _ _ _ _ _ _ _ _ _ _ (5, 86) (([(h, .inr (10, [.ref q1, .ref q9, .ref q17, .int (iI 0), .int (iI 23), .int (iI 23), .ref q19, .int (iI 0), .int (iI 0), .null])), (q17, .inl (K 4, 20, .inr (.inr (.inr (.inr (fun _ => none)))))), (q19, .inl (K 4, 6, .inr (.inr (.inr (.inr (fun _ => none))))))] ++ fd dom10 σ11) ++ [(q21, .inl (K 0, 20, .inl (fun _ => 0)))]) _ _ [.ref q21, .ref h]
  refine v_perm (pm2 [(h, .inr (10, [.ref q1, .ref q9, .ref q17, .int (iI 0), .int (iI 23), .int (iI 23), .ref q19, .int (iI 0), .int (iI 0), .null])), (q17, .inl (K 4, 20, .inr (.inr (.inr (.inr (fun _ => none)))))), (q19, .inl (K 4, 6, .inr (.inr (.inr (.inr (fun _ => none))))))] (fd dom10 σ11) (q21, .inl (K 0, 20, .inl (fun _ => 0)))) ?_
  refine v_absorb (E := [(h, .inr (10, [.ref q1, .ref q9, .ref q17, .int (iI 0), .int (iI 23), .int (iI 23), .ref q19, .int (iI 0), .int (iI 0), .null])), (q17, .inl (K 4, 20, .inr (.inr (.inr (.inr (fun _ => none)))))), (q19, .inl (K 4, 6, .inr (.inr (.inr (.inr (fun _ => none))))))]) (q := q21) (e0 := .inl (K 0, 20, .inl (fun _ => 0))) (t := (3, 28, 20)) Z13 G14 (fun _ _ _ => ⟨_, rfl, by decide⟩) (fun dom22 σ23 τ24 Z25 G26 t27 m28 => ?_)
  show V _ _ _ _ _ _ _ _ _ _ _ _ _ _ (5, 86) ([(h, .inr (10, [.ref q1, .ref q9, .ref q17, .int (iI 0), .int (iI 23), .int (iI 23), .ref q19, .int (iI 0), .int (iI 0), .null])), (q17, .inl (K 4, 20, .inr (.inr (.inr (.inr (fun _ => none)))))), (q19, .inl (K 4, 6, .inr (.inr (.inr (.inr (fun _ => none))))))] ++ fd dom22 σ23) _ _ [.ref q21, .ref h]
  refine v_putF B (k0 := 0) (C := RX10) (T := TX10) (N := 10) (ci := 10) hi_k_Server_X10 rfl rfl 9 (by decide +kernel) tyX10 tyX10_ok nmX10 (List.mem_of_getElem? (i := 12) rfl) rfl hnam rfl (ty := .array .int) (tyX10_ok 9 (by decide +kernel)) rfl rfl (Nat.le_of_ble_eq_true rfl) (w' := [(h, .inr (10, [.ref q1, .ref q9, .ref q17, .int (iI 0), .int (iI 23), .int (iI 23), .ref q19, .int (iI 0), .int (iI 0), .ref q21])), (q17, .inl (K 4, 20, .inr (.inr (.inr (.inr (fun _ => none)))))), (q19, .inl (K 4, 6, .inr (.inr (.inr (.inr (fun _ => none))))))] ++ fd dom22 σ23) rfl dX10_init_55 ?_
  refine v_iconst B (v := iI 0) dX10_init_58 rfl ?_
  refine v_istore_n B (lv' := [(1, .int (iI 0)), (0, .ref h)]) dX10_init_59 rfl (by decide +kernel) rfl ?_
  refine v_iload_n B dX10_init_60 rfl rfl ?_
  refine v_aload_n B dX10_init_61 rfl rfl ?_
  refine v_get B (k0 := 0) (C := RX10) (T := TX10) (N := 10) (ci := 10) hi_k_Server_X10 rfl rfl 2 (by decide +kernel) (List.mem_of_getElem? (i := 8) rfl) rfl dX10_init_62 ?_
  refine v_alen B (k0 := 1) (t0 := 4) (v := iI 20) rfl rfl (show Int32.ofNat 20 = iI 20 by decide +kernel) dX10_init_65 ?_
  refine v_icmp_ge B (tgt := 90) dX10_init_66 (by decide +kernel) (fun q => absurd q (by decide +kernel)) (fun _ => ?_)
  refine v_aload_n B dX10_init_69 rfl rfl ?_
  refine v_get B (k0 := 0) (C := RX10) (T := TX10) (N := 10) (ci := 10) hi_k_Server_X10 rfl rfl 2 (by decide +kernel) (List.mem_of_getElem? (i := 8) rfl) rfl dX10_init_70 ?_
  refine v_iload_n B dX10_init_73 rfl rfl ?_
  refine v_new B (C := RX9) (T := TX9) (N := 2) (ci := 9) (fs := [.null, .int (iI 0)]) hi_k_Server_X9 tyX9 tyX9_ok (List.mem_of_getElem? (i := 7) rfl) (List.mem_of_getElem? (i := 13) rfl) (List.mem_of_getElem? (i := 14) rfl) rfl (by decide +kernel) (by decide +kernel) (by decide +kernel) dX10_init_74 (fun q29 => ?_)
  show V _ _ _ _ _ _ _ _ _ _ _ _ _ _ (6, 88) (([(h, .inr (10, [.ref q1, .ref q9, .ref q17, .int (iI 0), .int (iI 23), .int (iI 23), .ref q19, .int (iI 0), .int (iI 0), .ref q21])), (q17, .inl (K 4, 20, .inr (.inr (.inr (.inr (fun _ => none)))))), (q19, .inl (K 4, 6, .inr (.inr (.inr (.inr (fun _ => none))))))] ++ fd dom22 σ23) ++ [(q29, .inr (9, [.null, .int (iI 0)]))]) _ _ [.ref q29, .int (iI 0), .ref q17]
  refine v_perm (pm1 [(h, .inr (10, [.ref q1, .ref q9, .ref q17, .int (iI 0), .int (iI 23), .int (iI 23), .ref q19, .int (iI 0), .int (iI 0), .ref q21])), (q17, .inl (K 4, 20, .inr (.inr (.inr (.inr (fun _ => none)))))), (q19, .inl (K 4, 6, .inr (.inr (.inr (.inr (fun _ => none))))))] (fd dom22 σ23) (q29, .inr (9, [.null, .int (iI 0)]))) ?_
  refine v_dup B dX10_init_77 rfl ?_
  refine v_bipush B (v := iI 40) dX10_init_78 (by decide +kernel) ?_
  refine v_callIv B (b := q29) (n := 1) (As := [.int (iI 40)]) (rest := [.ref q29, .int (iI 0), .ref q17]) (wc := (q29, .inr (9, [.null, .int (iI 0)])) :: fd dom22 σ23) (wr := [(h, .inr (10, [.ref q1, .ref q9, .ref q17, .int (iI 0), .int (iI 23), .int (iI 23), .ref q19, .int (iI 0), .int (iI 0), .ref q21])), (q17, .inl (K 4, 20, .inr (.inr (.inr (.inr (fun _ => none)))))), (q19, .inl (K 4, 6, .inr (.inr (.inr (.inr (fun _ => none))))))]) (k_Row l D K Z25 G26 q29 13 40 (iI 40) (by decide +kernel)) gd_k_Server_k_Row_37 rfl rfl rfl (by decide +kernel) ⟨by decide +kernel, by decide +kernel⟩ (List.mem_of_getElem? (i := 14) rfl) (List.mem_of_getElem? (i := 15) rfl) (List.mem_of_getElem? (i := 16) rfl) rfl (sp_app _ _) rfl rfl (Nat.le_of_ble_eq_true rfl) dX10_init_80 ⟨by decide +kernel, by decide +kernel⟩ (fun u30 hp31 => ?_)
  obtain ⟨dom32, σ33, τ34⟩ := u30
  obtain ⟨Z35, G36, t37, m38⟩ := hp31
  show V _ _ _ _ _ _ _ _ _ _ _ _ _ _ (7, 128) ([(h, .inr (10, [.ref q1, .ref q9, .ref q17, .int (iI 0), .int (iI 23), .int (iI 23), .ref q19, .int (iI 0), .int (iI 0), .ref q21])), (q17, .inl (K 4, 20, .inr (.inr (.inr (.inr (fun _ => none)))))), (q19, .inl (K 4, 6, .inr (.inr (.inr (.inr (fun _ => none))))))] ++ fd dom32 σ33) _ _ [.ref q29, .int (iI 0), .ref q17]
  refine v_aastT B Z35 (E := [(h, .inr (10, [.ref q1, .ref q9, .ref q17, .int (iI 0), .int (iI 23), .int (iI 23), .ref q19, .int (iI 0), .int (iI 0), .ref q21])), (q17, .inl (K 4, 20, .inr (.inr (.inr (.inr (fun _ => none)))))), (q19, .inl (K 4, 6, .inr (.inr (.inr (.inr (fun _ => none))))))]) (k0 := 1) (t0 := 4) (ci := 9) (rr := (RX9, TX9, 2)) (i := 0) (E' := [(h, .inr (10, [.ref q1, .ref q9, .ref q17, .int (iI 0), .int (iI 23), .int (iI 23), .ref q19, .int (iI 0), .int (iI 0), .ref q21])), (q17, .inl (K 4, 20, .inr (.inr (.inr (.inr (va_up (fun _ => none) 0 (some q29))))))), (q19, .inl (K 4, 6, .inr (.inr (.inr (.inr (fun _ => none))))))]) rfl rfl t37 (cls_Row G36 t37) rfl (vpi (by decide +kernel)) (by decide +kernel) rfl dX10_init_83 ?_
  have H40 := rows_step (i := 0) (r := q29) H18 (Sub.tr m28 m38) t37
  generalize va_up (fun _ => none) 0 (some q29) = f39 at H40 ⊢
  show V _ _ _ _ _ _ _ _ _ _ _ _ _ _ (7, 128) ([(h, .inr (10, [.ref q1, .ref q9, .ref q17, .int (iI 0), .int (iI 23), .int (iI 23), .ref q19, .int (iI 0), .int (iI 0), .ref q21])), (q17, .inl (K 4, 20, .inr (.inr (.inr (.inr f39))))), (q19, .inl (K 4, 6, .inr (.inr (.inr (.inr (fun _ => none))))))] ++ fd dom32 σ33) _ _ []
  refine v_iinc B (k := 0) (v := iI 1) (lv' := [(1, .int (iI 1)), (0, .ref h)]) dX10_init_84 rfl (by decide +kernel) (by decide +kernel) rfl ?_
  refine v_goto B (tgt := 60) dX10_init_87 (by decide +kernel) ?_
  refine v_iload_n B dX10_init_60 rfl rfl ?_
  refine v_aload_n B dX10_init_61 rfl rfl ?_
  refine v_get B (k0 := 0) (C := RX10) (T := TX10) (N := 10) (ci := 10) hi_k_Server_X10 rfl rfl 2 (by decide +kernel) (List.mem_of_getElem? (i := 8) rfl) rfl dX10_init_62 ?_
  refine v_alen B (k0 := 1) (t0 := 4) (v := iI 20) rfl rfl (show Int32.ofNat 20 = iI 20 by decide +kernel) dX10_init_65 ?_
  refine v_icmp_ge B (tgt := 90) dX10_init_66 (by decide +kernel) (fun q => absurd q (by decide +kernel)) (fun _ => ?_)
  refine v_aload_n B dX10_init_69 rfl rfl ?_
  refine v_get B (k0 := 0) (C := RX10) (T := TX10) (N := 10) (ci := 10) hi_k_Server_X10 rfl rfl 2 (by decide +kernel) (List.mem_of_getElem? (i := 8) rfl) rfl dX10_init_70 ?_
  refine v_iload_n B dX10_init_73 rfl rfl ?_
  refine v_new B (C := RX9) (T := TX9) (N := 2) (ci := 9) (fs := [.null, .int (iI 0)]) hi_k_Server_X9 tyX9 tyX9_ok (List.mem_of_getElem? (i := 7) rfl) (List.mem_of_getElem? (i := 13) rfl) (List.mem_of_getElem? (i := 14) rfl) rfl (by decide +kernel) (by decide +kernel) (by decide +kernel) dX10_init_74 (fun q41 => ?_)
  show V _ _ _ _ _ _ _ _ _ _ _ _ _ _ (8, 130) (([(h, .inr (10, [.ref q1, .ref q9, .ref q17, .int (iI 0), .int (iI 23), .int (iI 23), .ref q19, .int (iI 0), .int (iI 0), .ref q21])), (q17, .inl (K 4, 20, .inr (.inr (.inr (.inr f39))))), (q19, .inl (K 4, 6, .inr (.inr (.inr (.inr (fun _ => none))))))] ++ fd dom32 σ33) ++ [(q41, .inr (9, [.null, .int (iI 0)]))]) _ _ [.ref q41, .int (iI 1), .ref q17]
  refine v_perm (pm1 [(h, .inr (10, [.ref q1, .ref q9, .ref q17, .int (iI 0), .int (iI 23), .int (iI 23), .ref q19, .int (iI 0), .int (iI 0), .ref q21])), (q17, .inl (K 4, 20, .inr (.inr (.inr (.inr f39))))), (q19, .inl (K 4, 6, .inr (.inr (.inr (.inr (fun _ => none))))))] (fd dom32 σ33) (q41, .inr (9, [.null, .int (iI 0)]))) ?_
  refine v_dup B dX10_init_77 rfl ?_
  refine v_bipush B (v := iI 40) dX10_init_78 (by decide +kernel) ?_
  refine v_callIv B (b := q41) (n := 1) (As := [.int (iI 40)]) (rest := [.ref q41, .int (iI 1), .ref q17]) (wc := (q41, .inr (9, [.null, .int (iI 0)])) :: fd dom32 σ33) (wr := [(h, .inr (10, [.ref q1, .ref q9, .ref q17, .int (iI 0), .int (iI 23), .int (iI 23), .ref q19, .int (iI 0), .int (iI 0), .ref q21])), (q17, .inl (K 4, 20, .inr (.inr (.inr (.inr f39))))), (q19, .inl (K 4, 6, .inr (.inr (.inr (.inr (fun _ => none))))))]) (k_Row l D K Z35 G36 q41 13 40 (iI 40) (by decide +kernel)) gd_k_Server_k_Row_37 rfl rfl rfl (by decide +kernel) ⟨by decide +kernel, by decide +kernel⟩ (List.mem_of_getElem? (i := 14) rfl) (List.mem_of_getElem? (i := 15) rfl) (List.mem_of_getElem? (i := 16) rfl) rfl (sp_app _ _) rfl rfl (Nat.le_of_ble_eq_true rfl) dX10_init_80 ⟨by decide +kernel, by decide +kernel⟩ (fun u42 hp43 => ?_)
  obtain ⟨dom44, σ45, τ46⟩ := u42
  obtain ⟨Z47, G48, t49, m50⟩ := hp43
  show V _ _ _ _ _ _ _ _ _ _ _ _ _ _ (9, 170) ([(h, .inr (10, [.ref q1, .ref q9, .ref q17, .int (iI 0), .int (iI 23), .int (iI 23), .ref q19, .int (iI 0), .int (iI 0), .ref q21])), (q17, .inl (K 4, 20, .inr (.inr (.inr (.inr f39))))), (q19, .inl (K 4, 6, .inr (.inr (.inr (.inr (fun _ => none))))))] ++ fd dom44 σ45) _ _ [.ref q41, .int (iI 1), .ref q17]
  refine v_aastT B Z47 (E := [(h, .inr (10, [.ref q1, .ref q9, .ref q17, .int (iI 0), .int (iI 23), .int (iI 23), .ref q19, .int (iI 0), .int (iI 0), .ref q21])), (q17, .inl (K 4, 20, .inr (.inr (.inr (.inr f39))))), (q19, .inl (K 4, 6, .inr (.inr (.inr (.inr (fun _ => none))))))]) (k0 := 1) (t0 := 4) (ci := 9) (rr := (RX9, TX9, 2)) (i := 1) (E' := [(h, .inr (10, [.ref q1, .ref q9, .ref q17, .int (iI 0), .int (iI 23), .int (iI 23), .ref q19, .int (iI 0), .int (iI 0), .ref q21])), (q17, .inl (K 4, 20, .inr (.inr (.inr (.inr (va_up f39 1 (some q41))))))), (q19, .inl (K 4, 6, .inr (.inr (.inr (.inr (fun _ => none))))))]) rfl rfl t49 (cls_Row G48 t49) rfl (vpi (by decide +kernel)) (by decide +kernel) rfl dX10_init_83 ?_
  have H52 := rows_step (i := 1) (r := q41) H40 m50 t49
  generalize va_up f39 1 (some q41) = f51 at H52 ⊢
  show V _ _ _ _ _ _ _ _ _ _ _ _ _ _ (9, 170) ([(h, .inr (10, [.ref q1, .ref q9, .ref q17, .int (iI 0), .int (iI 23), .int (iI 23), .ref q19, .int (iI 0), .int (iI 0), .ref q21])), (q17, .inl (K 4, 20, .inr (.inr (.inr (.inr f51))))), (q19, .inl (K 4, 6, .inr (.inr (.inr (.inr (fun _ => none))))))] ++ fd dom44 σ45) _ _ []
  refine v_iinc B (k := 0) (v := iI 2) (lv' := [(1, .int (iI 2)), (0, .ref h)]) dX10_init_84 rfl (by decide +kernel) (by decide +kernel) rfl ?_
  refine v_goto B (tgt := 60) dX10_init_87 (by decide +kernel) ?_
  refine v_iload_n B dX10_init_60 rfl rfl ?_
  refine v_aload_n B dX10_init_61 rfl rfl ?_
  refine v_get B (k0 := 0) (C := RX10) (T := TX10) (N := 10) (ci := 10) hi_k_Server_X10 rfl rfl 2 (by decide +kernel) (List.mem_of_getElem? (i := 8) rfl) rfl dX10_init_62 ?_
  refine v_alen B (k0 := 1) (t0 := 4) (v := iI 20) rfl rfl (show Int32.ofNat 20 = iI 20 by decide +kernel) dX10_init_65 ?_
  refine v_icmp_ge B (tgt := 90) dX10_init_66 (by decide +kernel) (fun q => absurd q (by decide +kernel)) (fun _ => ?_)
  refine v_aload_n B dX10_init_69 rfl rfl ?_
  refine v_get B (k0 := 0) (C := RX10) (T := TX10) (N := 10) (ci := 10) hi_k_Server_X10 rfl rfl 2 (by decide +kernel) (List.mem_of_getElem? (i := 8) rfl) rfl dX10_init_70 ?_
  refine v_iload_n B dX10_init_73 rfl rfl ?_
  refine v_new B (C := RX9) (T := TX9) (N := 2) (ci := 9) (fs := [.null, .int (iI 0)]) hi_k_Server_X9 tyX9 tyX9_ok (List.mem_of_getElem? (i := 7) rfl) (List.mem_of_getElem? (i := 13) rfl) (List.mem_of_getElem? (i := 14) rfl) rfl (by decide +kernel) (by decide +kernel) (by decide +kernel) dX10_init_74 (fun q53 => ?_)
  show V _ _ _ _ _ _ _ _ _ _ _ _ _ _ (10, 172) (([(h, .inr (10, [.ref q1, .ref q9, .ref q17, .int (iI 0), .int (iI 23), .int (iI 23), .ref q19, .int (iI 0), .int (iI 0), .ref q21])), (q17, .inl (K 4, 20, .inr (.inr (.inr (.inr f51))))), (q19, .inl (K 4, 6, .inr (.inr (.inr (.inr (fun _ => none))))))] ++ fd dom44 σ45) ++ [(q53, .inr (9, [.null, .int (iI 0)]))]) _ _ [.ref q53, .int (iI 2), .ref q17]
  refine v_perm (pm1 [(h, .inr (10, [.ref q1, .ref q9, .ref q17, .int (iI 0), .int (iI 23), .int (iI 23), .ref q19, .int (iI 0), .int (iI 0), .ref q21])), (q17, .inl (K 4, 20, .inr (.inr (.inr (.inr f51))))), (q19, .inl (K 4, 6, .inr (.inr (.inr (.inr (fun _ => none))))))] (fd dom44 σ45) (q53, .inr (9, [.null, .int (iI 0)]))) ?_
  refine v_dup B dX10_init_77 rfl ?_
  refine v_bipush B (v := iI 40) dX10_init_78 (by decide +kernel) ?_
  refine v_callIv B (b := q53) (n := 1) (As := [.int (iI 40)]) (rest := [.ref q53, .int (iI 2), .ref q17]) (wc := (q53, .inr (9, [.null, .int (iI 0)])) :: fd dom44 σ45) (wr := [(h, .inr (10, [.ref q1, .ref q9, .ref q17, .int (iI 0), .int (iI 23), .int (iI 23), .ref q19, .int (iI 0), .int (iI 0), .ref q21])), (q17, .inl (K 4, 20, .inr (.inr (.inr (.inr f51))))), (q19, .inl (K 4, 6, .inr (.inr (.inr (.inr (fun _ => none))))))]) (k_Row l D K Z47 G48 q53 13 40 (iI 40) (by decide +kernel)) gd_k_Server_k_Row_37 rfl rfl rfl (by decide +kernel) ⟨by decide +kernel, by decide +kernel⟩ (List.mem_of_getElem? (i := 14) rfl) (List.mem_of_getElem? (i := 15) rfl) (List.mem_of_getElem? (i := 16) rfl) rfl (sp_app _ _) rfl rfl (Nat.le_of_ble_eq_true rfl) dX10_init_80 ⟨by decide +kernel, by decide +kernel⟩ (fun u54 hp55 => ?_)
  obtain ⟨dom56, σ57, τ58⟩ := u54
  obtain ⟨Z59, G60, t61, m62⟩ := hp55
  show V _ _ _ _ _ _ _ _ _ _ _ _ _ _ (11, 212) ([(h, .inr (10, [.ref q1, .ref q9, .ref q17, .int (iI 0), .int (iI 23), .int (iI 23), .ref q19, .int (iI 0), .int (iI 0), .ref q21])), (q17, .inl (K 4, 20, .inr (.inr (.inr (.inr f51))))), (q19, .inl (K 4, 6, .inr (.inr (.inr (.inr (fun _ => none))))))] ++ fd dom56 σ57) _ _ [.ref q53, .int (iI 2), .ref q17]
  refine v_aastT B Z59 (E := [(h, .inr (10, [.ref q1, .ref q9, .ref q17, .int (iI 0), .int (iI 23), .int (iI 23), .ref q19, .int (iI 0), .int (iI 0), .ref q21])), (q17, .inl (K 4, 20, .inr (.inr (.inr (.inr f51))))), (q19, .inl (K 4, 6, .inr (.inr (.inr (.inr (fun _ => none))))))]) (k0 := 1) (t0 := 4) (ci := 9) (rr := (RX9, TX9, 2)) (i := 2) (E' := [(h, .inr (10, [.ref q1, .ref q9, .ref q17, .int (iI 0), .int (iI 23), .int (iI 23), .ref q19, .int (iI 0), .int (iI 0), .ref q21])), (q17, .inl (K 4, 20, .inr (.inr (.inr (.inr (va_up f51 2 (some q53))))))), (q19, .inl (K 4, 6, .inr (.inr (.inr (.inr (fun _ => none))))))]) rfl rfl t61 (cls_Row G60 t61) rfl (vpi (by decide +kernel)) (by decide +kernel) rfl dX10_init_83 ?_
  have H64 := rows_step (i := 2) (r := q53) H52 m62 t61
  generalize va_up f51 2 (some q53) = f63 at H64 ⊢
  show V _ _ _ _ _ _ _ _ _ _ _ _ _ _ (11, 212) ([(h, .inr (10, [.ref q1, .ref q9, .ref q17, .int (iI 0), .int (iI 23), .int (iI 23), .ref q19, .int (iI 0), .int (iI 0), .ref q21])), (q17, .inl (K 4, 20, .inr (.inr (.inr (.inr f63))))), (q19, .inl (K 4, 6, .inr (.inr (.inr (.inr (fun _ => none))))))] ++ fd dom56 σ57) _ _ []
  refine v_iinc B (k := 0) (v := iI 3) (lv' := [(1, .int (iI 3)), (0, .ref h)]) dX10_init_84 rfl (by decide +kernel) (by decide +kernel) rfl ?_
  refine v_goto B (tgt := 60) dX10_init_87 (by decide +kernel) ?_
  refine v_iload_n B dX10_init_60 rfl rfl ?_
  refine v_aload_n B dX10_init_61 rfl rfl ?_
  refine v_get B (k0 := 0) (C := RX10) (T := TX10) (N := 10) (ci := 10) hi_k_Server_X10 rfl rfl 2 (by decide +kernel) (List.mem_of_getElem? (i := 8) rfl) rfl dX10_init_62 ?_
  refine v_alen B (k0 := 1) (t0 := 4) (v := iI 20) rfl rfl (show Int32.ofNat 20 = iI 20 by decide +kernel) dX10_init_65 ?_
  refine v_icmp_ge B (tgt := 90) dX10_init_66 (by decide +kernel) (fun q => absurd q (by decide +kernel)) (fun _ => ?_)
  refine v_aload_n B dX10_init_69 rfl rfl ?_
  refine v_get B (k0 := 0) (C := RX10) (T := TX10) (N := 10) (ci := 10) hi_k_Server_X10 rfl rfl 2 (by decide +kernel) (List.mem_of_getElem? (i := 8) rfl) rfl dX10_init_70 ?_
  refine v_iload_n B dX10_init_73 rfl rfl ?_
  refine v_new B (C := RX9) (T := TX9) (N := 2) (ci := 9) (fs := [.null, .int (iI 0)]) hi_k_Server_X9 tyX9 tyX9_ok (List.mem_of_getElem? (i := 7) rfl) (List.mem_of_getElem? (i := 13) rfl) (List.mem_of_getElem? (i := 14) rfl) rfl (by decide +kernel) (by decide +kernel) (by decide +kernel) dX10_init_74 (fun q65 => ?_)
  show V _ _ _ _ _ _ _ _ _ _ _ _ _ _ (12, 214) (([(h, .inr (10, [.ref q1, .ref q9, .ref q17, .int (iI 0), .int (iI 23), .int (iI 23), .ref q19, .int (iI 0), .int (iI 0), .ref q21])), (q17, .inl (K 4, 20, .inr (.inr (.inr (.inr f63))))), (q19, .inl (K 4, 6, .inr (.inr (.inr (.inr (fun _ => none))))))] ++ fd dom56 σ57) ++ [(q65, .inr (9, [.null, .int (iI 0)]))]) _ _ [.ref q65, .int (iI 3), .ref q17]
  refine v_perm (pm1 [(h, .inr (10, [.ref q1, .ref q9, .ref q17, .int (iI 0), .int (iI 23), .int (iI 23), .ref q19, .int (iI 0), .int (iI 0), .ref q21])), (q17, .inl (K 4, 20, .inr (.inr (.inr (.inr f63))))), (q19, .inl (K 4, 6, .inr (.inr (.inr (.inr (fun _ => none))))))] (fd dom56 σ57) (q65, .inr (9, [.null, .int (iI 0)]))) ?_
  refine v_dup B dX10_init_77 rfl ?_
  refine v_bipush B (v := iI 40) dX10_init_78 (by decide +kernel) ?_
  refine v_callIv B (b := q65) (n := 1) (As := [.int (iI 40)]) (rest := [.ref q65, .int (iI 3), .ref q17]) (wc := (q65, .inr (9, [.null, .int (iI 0)])) :: fd dom56 σ57) (wr := [(h, .inr (10, [.ref q1, .ref q9, .ref q17, .int (iI 0), .int (iI 23), .int (iI 23), .ref q19, .int (iI 0), .int (iI 0), .ref q21])), (q17, .inl (K 4, 20, .inr (.inr (.inr (.inr f63))))), (q19, .inl (K 4, 6, .inr (.inr (.inr (.inr (fun _ => none))))))]) (k_Row l D K Z59 G60 q65 13 40 (iI 40) (by decide +kernel)) gd_k_Server_k_Row_37 rfl rfl rfl (by decide +kernel) ⟨by decide +kernel, by decide +kernel⟩ (List.mem_of_getElem? (i := 14) rfl) (List.mem_of_getElem? (i := 15) rfl) (List.mem_of_getElem? (i := 16) rfl) rfl (sp_app _ _) rfl rfl (Nat.le_of_ble_eq_true rfl) dX10_init_80 ⟨by decide +kernel, by decide +kernel⟩ (fun u66 hp67 => ?_)
  obtain ⟨dom68, σ69, τ70⟩ := u66
  obtain ⟨Z71, G72, t73, m74⟩ := hp67
  show V _ _ _ _ _ _ _ _ _ _ _ _ _ _ (13, 254) ([(h, .inr (10, [.ref q1, .ref q9, .ref q17, .int (iI 0), .int (iI 23), .int (iI 23), .ref q19, .int (iI 0), .int (iI 0), .ref q21])), (q17, .inl (K 4, 20, .inr (.inr (.inr (.inr f63))))), (q19, .inl (K 4, 6, .inr (.inr (.inr (.inr (fun _ => none))))))] ++ fd dom68 σ69) _ _ [.ref q65, .int (iI 3), .ref q17]
  refine v_aastT B Z71 (E := [(h, .inr (10, [.ref q1, .ref q9, .ref q17, .int (iI 0), .int (iI 23), .int (iI 23), .ref q19, .int (iI 0), .int (iI 0), .ref q21])), (q17, .inl (K 4, 20, .inr (.inr (.inr (.inr f63))))), (q19, .inl (K 4, 6, .inr (.inr (.inr (.inr (fun _ => none))))))]) (k0 := 1) (t0 := 4) (ci := 9) (rr := (RX9, TX9, 2)) (i := 3) (E' := [(h, .inr (10, [.ref q1, .ref q9, .ref q17, .int (iI 0), .int (iI 23), .int (iI 23), .ref q19, .int (iI 0), .int (iI 0), .ref q21])), (q17, .inl (K 4, 20, .inr (.inr (.inr (.inr (va_up f63 3 (some q65))))))), (q19, .inl (K 4, 6, .inr (.inr (.inr (.inr (fun _ => none))))))]) rfl rfl t73 (cls_Row G72 t73) rfl (vpi (by decide +kernel)) (by decide +kernel) rfl dX10_init_83 ?_
  have H76 := rows_step (i := 3) (r := q65) H64 m74 t73
  generalize va_up f63 3 (some q65) = f75 at H76 ⊢
  show V _ _ _ _ _ _ _ _ _ _ _ _ _ _ (13, 254) ([(h, .inr (10, [.ref q1, .ref q9, .ref q17, .int (iI 0), .int (iI 23), .int (iI 23), .ref q19, .int (iI 0), .int (iI 0), .ref q21])), (q17, .inl (K 4, 20, .inr (.inr (.inr (.inr f75))))), (q19, .inl (K 4, 6, .inr (.inr (.inr (.inr (fun _ => none))))))] ++ fd dom68 σ69) _ _ []
  refine v_iinc B (k := 0) (v := iI 4) (lv' := [(1, .int (iI 4)), (0, .ref h)]) dX10_init_84 rfl (by decide +kernel) (by decide +kernel) rfl ?_
  refine v_goto B (tgt := 60) dX10_init_87 (by decide +kernel) ?_
  refine v_iload_n B dX10_init_60 rfl rfl ?_
  refine v_aload_n B dX10_init_61 rfl rfl ?_
  refine v_get B (k0 := 0) (C := RX10) (T := TX10) (N := 10) (ci := 10) hi_k_Server_X10 rfl rfl 2 (by decide +kernel) (List.mem_of_getElem? (i := 8) rfl) rfl dX10_init_62 ?_
  refine v_alen B (k0 := 1) (t0 := 4) (v := iI 20) rfl rfl (show Int32.ofNat 20 = iI 20 by decide +kernel) dX10_init_65 ?_
  refine v_icmp_ge B (tgt := 90) dX10_init_66 (by decide +kernel) (fun q => absurd q (by decide +kernel)) (fun _ => ?_)
  refine v_aload_n B dX10_init_69 rfl rfl ?_
  refine v_get B (k0 := 0) (C := RX10) (T := TX10) (N := 10) (ci := 10) hi_k_Server_X10 rfl rfl 2 (by decide +kernel) (List.mem_of_getElem? (i := 8) rfl) rfl dX10_init_70 ?_
  refine v_iload_n B dX10_init_73 rfl rfl ?_
  refine v_new B (C := RX9) (T := TX9) (N := 2) (ci := 9) (fs := [.null, .int (iI 0)]) hi_k_Server_X9 tyX9 tyX9_ok (List.mem_of_getElem? (i := 7) rfl) (List.mem_of_getElem? (i := 13) rfl) (List.mem_of_getElem? (i := 14) rfl) rfl (by decide +kernel) (by decide +kernel) (by decide +kernel) dX10_init_74 (fun q77 => ?_)
  show V _ _ _ _ _ _ _ _ _ _ _ _ _ _ (14, 256) (([(h, .inr (10, [.ref q1, .ref q9, .ref q17, .int (iI 0), .int (iI 23), .int (iI 23), .ref q19, .int (iI 0), .int (iI 0), .ref q21])), (q17, .inl (K 4, 20, .inr (.inr (.inr (.inr f75))))), (q19, .inl (K 4, 6, .inr (.inr (.inr (.inr (fun _ => none))))))] ++ fd dom68 σ69) ++ [(q77, .inr (9, [.null, .int (iI 0)]))]) _ _ [.ref q77, .int (iI 4), .ref q17]
  refine v_perm (pm1 [(h, .inr (10, [.ref q1, .ref q9, .ref q17, .int (iI 0), .int (iI 23), .int (iI 23), .ref q19, .int (iI 0), .int (iI 0), .ref q21])), (q17, .inl (K 4, 20, .inr (.inr (.inr (.inr f75))))), (q19, .inl (K 4, 6, .inr (.inr (.inr (.inr (fun _ => none))))))] (fd dom68 σ69) (q77, .inr (9, [.null, .int (iI 0)]))) ?_
  refine v_dup B dX10_init_77 rfl ?_
  refine v_bipush B (v := iI 40) dX10_init_78 (by decide +kernel) ?_
  refine v_callIv B (b := q77) (n := 1) (As := [.int (iI 40)]) (rest := [.ref q77, .int (iI 4), .ref q17]) (wc := (q77, .inr (9, [.null, .int (iI 0)])) :: fd dom68 σ69) (wr := [(h, .inr (10, [.ref q1, .ref q9, .ref q17, .int (iI 0), .int (iI 23), .int (iI 23), .ref q19, .int (iI 0), .int (iI 0), .ref q21])), (q17, .inl (K 4, 20, .inr (.inr (.inr (.inr f75))))), (q19, .inl (K 4, 6, .inr (.inr (.inr (.inr (fun _ => none))))))]) (k_Row l D K Z71 G72 q77 13 40 (iI 40) (by decide +kernel)) gd_k_Server_k_Row_37 rfl rfl rfl (by decide +kernel) ⟨by decide +kernel, by decide +kernel⟩ (List.mem_of_getElem? (i := 14) rfl) (List.mem_of_getElem? (i := 15) rfl) (List.mem_of_getElem? (i := 16) rfl) rfl (sp_app _ _) rfl rfl (Nat.le_of_ble_eq_true rfl) dX10_init_80 ⟨by decide +kernel, by decide +kernel⟩ (fun u78 hp79 => ?_)
  obtain ⟨dom80, σ81, τ82⟩ := u78
  obtain ⟨Z83, G84, t85, m86⟩ := hp79
  show V _ _ _ _ _ _ _ _ _ _ _ _ _ _ (15, 296) ([(h, .inr (10, [.ref q1, .ref q9, .ref q17, .int (iI 0), .int (iI 23), .int (iI 23), .ref q19, .int (iI 0), .int (iI 0), .ref q21])), (q17, .inl (K 4, 20, .inr (.inr (.inr (.inr f75))))), (q19, .inl (K 4, 6, .inr (.inr (.inr (.inr (fun _ => none))))))] ++ fd dom80 σ81) _ _ [.ref q77, .int (iI 4), .ref q17]
  refine v_aastT B Z83 (E := [(h, .inr (10, [.ref q1, .ref q9, .ref q17, .int (iI 0), .int (iI 23), .int (iI 23), .ref q19, .int (iI 0), .int (iI 0), .ref q21])), (q17, .inl (K 4, 20, .inr (.inr (.inr (.inr f75))))), (q19, .inl (K 4, 6, .inr (.inr (.inr (.inr (fun _ => none))))))]) (k0 := 1) (t0 := 4) (ci := 9) (rr := (RX9, TX9, 2)) (i := 4) (E' := [(h, .inr (10, [.ref q1, .ref q9, .ref q17, .int (iI 0), .int (iI 23), .int (iI 23), .ref q19, .int (iI 0), .int (iI 0), .ref q21])), (q17, .inl (K 4, 20, .inr (.inr (.inr (.inr (va_up f75 4 (some q77))))))), (q19, .inl (K 4, 6, .inr (.inr (.inr (.inr (fun _ => none))))))]) rfl rfl t85 (cls_Row G84 t85) rfl (vpi (by decide +kernel)) (by decide +kernel) rfl dX10_init_83 ?_
  have H88 := rows_step (i := 4) (r := q77) H76 m86 t85
  generalize va_up f75 4 (some q77) = f87 at H88 ⊢
  show V _ _ _ _ _ _ _ _ _ _ _ _ _ _ (15, 296) ([(h, .inr (10, [.ref q1, .ref q9, .ref q17, .int (iI 0), .int (iI 23), .int (iI 23), .ref q19, .int (iI 0), .int (iI 0), .ref q21])), (q17, .inl (K 4, 20, .inr (.inr (.inr (.inr f87))))), (q19, .inl (K 4, 6, .inr (.inr (.inr (.inr (fun _ => none))))))] ++ fd dom80 σ81) _ _ []
  refine v_iinc B (k := 0) (v := iI 5) (lv' := [(1, .int (iI 5)), (0, .ref h)]) dX10_init_84 rfl (by decide +kernel) (by decide +kernel) rfl ?_
  refine v_goto B (tgt := 60) dX10_init_87 (by decide +kernel) ?_
  refine v_iload_n B dX10_init_60 rfl rfl ?_
  refine v_aload_n B dX10_init_61 rfl rfl ?_
  refine v_get B (k0 := 0) (C := RX10) (T := TX10) (N := 10) (ci := 10) hi_k_Server_X10 rfl rfl 2 (by decide +kernel) (List.mem_of_getElem? (i := 8) rfl) rfl dX10_init_62 ?_
  refine v_alen B (k0 := 1) (t0 := 4) (v := iI 20) rfl rfl (show Int32.ofNat 20 = iI 20 by decide +kernel) dX10_init_65 ?_
  refine v_icmp_ge B (tgt := 90) dX10_init_66 (by decide +kernel) (fun q => absurd q (by decide +kernel)) (fun _ => ?_)
  refine v_aload_n B dX10_init_69 rfl rfl ?_
  refine v_get B (k0 := 0) (C := RX10) (T := TX10) (N := 10) (ci := 10) hi_k_Server_X10 rfl rfl 2 (by decide +kernel) (List.mem_of_getElem? (i := 8) rfl) rfl dX10_init_70 ?_
  refine v_iload_n B dX10_init_73 rfl rfl ?_
  refine v_new B (C := RX9) (T := TX9) (N := 2) (ci := 9) (fs := [.null, .int (iI 0)]) hi_k_Server_X9 tyX9 tyX9_ok (List.mem_of_getElem? (i := 7) rfl) (List.mem_of_getElem? (i := 13) rfl) (List.mem_of_getElem? (i := 14) rfl) rfl (by decide +kernel) (by decide +kernel) (by decide +kernel) dX10_init_74 (fun q89 => ?_)
  show V _ _ _ _ _ _ _ _ _ _ _ _ _ _ (16, 298) (([(h, .inr (10, [.ref q1, .ref q9, .ref q17, .int (iI 0), .int (iI 23), .int (iI 23), .ref q19, .int (iI 0), .int (iI 0), .ref q21])), (q17, .inl (K 4, 20, .inr (.inr (.inr (.inr f87))))), (q19, .inl (K 4, 6, .inr (.inr (.inr (.inr (fun _ => none))))))] ++ fd dom80 σ81) ++ [(q89, .inr (9, [.null, .int (iI 0)]))]) _ _ [.ref q89, .int (iI 5), .ref q17]
  refine v_perm (pm1 [(h, .inr (10, [.ref q1, .ref q9, .ref q17, .int (iI 0), .int (iI 23), .int (iI 23), .ref q19, .int (iI 0), .int (iI 0), .ref q21])), (q17, .inl (K 4, 20, .inr (.inr (.inr (.inr f87))))), (q19, .inl (K 4, 6, .inr (.inr (.inr (.inr (fun _ => none))))))] (fd dom80 σ81) (q89, .inr (9, [.null, .int (iI 0)]))) ?_
  refine v_dup B dX10_init_77 rfl ?_
  refine v_bipush B (v := iI 40) dX10_init_78 (by decide +kernel) ?_
  refine v_callIv B (b := q89) (n := 1) (As := [.int (iI 40)]) (rest := [.ref q89, .int (iI 5), .ref q17]) (wc := (q89, .inr (9, [.null, .int (iI 0)])) :: fd dom80 σ81) (wr := [(h, .inr (10, [.ref q1, .ref q9, .ref q17, .int (iI 0), .int (iI 23), .int (iI 23), .ref q19, .int (iI 0), .int (iI 0), .ref q21])), (q17, .inl (K 4, 20, .inr (.inr (.inr (.inr f87))))), (q19, .inl (K 4, 6, .inr (.inr (.inr (.inr (fun _ => none))))))]) (k_Row l D K Z83 G84 q89 13 40 (iI 40) (by decide +kernel)) gd_k_Server_k_Row_37 rfl rfl rfl (by decide +kernel) ⟨by decide +kernel, by decide +kernel⟩ (List.mem_of_getElem? (i := 14) rfl) (List.mem_of_getElem? (i := 15) rfl) (List.mem_of_getElem? (i := 16) rfl) rfl (sp_app _ _) rfl rfl (Nat.le_of_ble_eq_true rfl) dX10_init_80 ⟨by decide +kernel, by decide +kernel⟩ (fun u90 hp91 => ?_)
  obtain ⟨dom92, σ93, τ94⟩ := u90
  obtain ⟨Z95, G96, t97, m98⟩ := hp91
  show V _ _ _ _ _ _ _ _ _ _ _ _ _ _ (17, 338) ([(h, .inr (10, [.ref q1, .ref q9, .ref q17, .int (iI 0), .int (iI 23), .int (iI 23), .ref q19, .int (iI 0), .int (iI 0), .ref q21])), (q17, .inl (K 4, 20, .inr (.inr (.inr (.inr f87))))), (q19, .inl (K 4, 6, .inr (.inr (.inr (.inr (fun _ => none))))))] ++ fd dom92 σ93) _ _ [.ref q89, .int (iI 5), .ref q17]
  refine v_aastT B Z95 (E := [(h, .inr (10, [.ref q1, .ref q9, .ref q17, .int (iI 0), .int (iI 23), .int (iI 23), .ref q19, .int (iI 0), .int (iI 0), .ref q21])), (q17, .inl (K 4, 20, .inr (.inr (.inr (.inr f87))))), (q19, .inl (K 4, 6, .inr (.inr (.inr (.inr (fun _ => none))))))]) (k0 := 1) (t0 := 4) (ci := 9) (rr := (RX9, TX9, 2)) (i := 5) (E' := [(h, .inr (10, [.ref q1, .ref q9, .ref q17, .int (iI 0), .int (iI 23), .int (iI 23), .ref q19, .int (iI 0), .int (iI 0), .ref q21])), (q17, .inl (K 4, 20, .inr (.inr (.inr (.inr (va_up f87 5 (some q89))))))), (q19, .inl (K 4, 6, .inr (.inr (.inr (.inr (fun _ => none))))))]) rfl rfl t97 (cls_Row G96 t97) rfl (vpi (by decide +kernel)) (by decide +kernel) rfl dX10_init_83 ?_
  have H100 := rows_step (i := 5) (r := q89) H88 m98 t97
  generalize va_up f87 5 (some q89) = f99 at H100 ⊢
  show V _ _ _ _ _ _ _ _ _ _ _ _ _ _ (17, 338) ([(h, .inr (10, [.ref q1, .ref q9, .ref q17, .int (iI 0), .int (iI 23), .int (iI 23), .ref q19, .int (iI 0), .int (iI 0), .ref q21])), (q17, .inl (K 4, 20, .inr (.inr (.inr (.inr f99))))), (q19, .inl (K 4, 6, .inr (.inr (.inr (.inr (fun _ => none))))))] ++ fd dom92 σ93) _ _ []
  refine v_iinc B (k := 0) (v := iI 6) (lv' := [(1, .int (iI 6)), (0, .ref h)]) dX10_init_84 rfl (by decide +kernel) (by decide +kernel) rfl ?_
  refine v_goto B (tgt := 60) dX10_init_87 (by decide +kernel) ?_
  refine v_iload_n B dX10_init_60 rfl rfl ?_
  refine v_aload_n B dX10_init_61 rfl rfl ?_
  refine v_get B (k0 := 0) (C := RX10) (T := TX10) (N := 10) (ci := 10) hi_k_Server_X10 rfl rfl 2 (by decide +kernel) (List.mem_of_getElem? (i := 8) rfl) rfl dX10_init_62 ?_
  refine v_alen B (k0 := 1) (t0 := 4) (v := iI 20) rfl rfl (show Int32.ofNat 20 = iI 20 by decide +kernel) dX10_init_65 ?_
  refine v_icmp_ge B (tgt := 90) dX10_init_66 (by decide +kernel) (fun q => absurd q (by decide +kernel)) (fun _ => ?_)
  refine v_aload_n B dX10_init_69 rfl rfl ?_
  refine v_get B (k0 := 0) (C := RX10) (T := TX10) (N := 10) (ci := 10) hi_k_Server_X10 rfl rfl 2 (by decide +kernel) (List.mem_of_getElem? (i := 8) rfl) rfl dX10_init_70 ?_
  refine v_iload_n B dX10_init_73 rfl rfl ?_
  refine v_new B (C := RX9) (T := TX9) (N := 2) (ci := 9) (fs := [.null, .int (iI 0)]) hi_k_Server_X9 tyX9 tyX9_ok (List.mem_of_getElem? (i := 7) rfl) (List.mem_of_getElem? (i := 13) rfl) (List.mem_of_getElem? (i := 14) rfl) rfl (by decide +kernel) (by decide +kernel) (by decide +kernel) dX10_init_74 (fun q101 => ?_)
  show V _ _ _ _ _ _ _ _ _ _ _ _ _ _ (18, 340) (([(h, .inr (10, [.ref q1, .ref q9, .ref q17, .int (iI 0), .int (iI 23), .int (iI 23), .ref q19, .int (iI 0), .int (iI 0), .ref q21])), (q17, .inl (K 4, 20, .inr (.inr (.inr (.inr f99))))), (q19, .inl (K 4, 6, .inr (.inr (.inr (.inr (fun _ => none))))))] ++ fd dom92 σ93) ++ [(q101, .inr (9, [.null, .int (iI 0)]))]) _ _ [.ref q101, .int (iI 6), .ref q17]
  refine v_perm (pm1 [(h, .inr (10, [.ref q1, .ref q9, .ref q17, .int (iI 0), .int (iI 23), .int (iI 23), .ref q19, .int (iI 0), .int (iI 0), .ref q21])), (q17, .inl (K 4, 20, .inr (.inr (.inr (.inr f99))))), (q19, .inl (K 4, 6, .inr (.inr (.inr (.inr (fun _ => none))))))] (fd dom92 σ93) (q101, .inr (9, [.null, .int (iI 0)]))) ?_
  refine v_dup B dX10_init_77 rfl ?_
  refine v_bipush B (v := iI 40) dX10_init_78 (by decide +kernel) ?_
  refine v_callIv B (b := q101) (n := 1) (As := [.int (iI 40)]) (rest := [.ref q101, .int (iI 6), .ref q17]) (wc := (q101, .inr (9, [.null, .int (iI 0)])) :: fd dom92 σ93) (wr := [(h, .inr (10, [.ref q1, .ref q9, .ref q17, .int (iI 0), .int (iI 23), .int (iI 23), .ref q19, .int (iI 0), .int (iI 0), .ref q21])), (q17, .inl (K 4, 20, .inr (.inr (.inr (.inr f99))))), (q19, .inl (K 4, 6, .inr (.inr (.inr (.inr (fun _ => none))))))]) (k_Row l D K Z95 G96 q101 13 40 (iI 40) (by decide +kernel)) gd_k_Server_k_Row_37 rfl rfl rfl (by decide +kernel) ⟨by decide +kernel, by decide +kernel⟩ (List.mem_of_getElem? (i := 14) rfl) (List.mem_of_getElem? (i := 15) rfl) (List.mem_of_getElem? (i := 16) rfl) rfl (sp_app _ _) rfl rfl (Nat.le_of_ble_eq_true rfl) dX10_init_80 ⟨by decide +kernel, by decide +kernel⟩ (fun u102 hp103 => ?_)
  obtain ⟨dom104, σ105, τ106⟩ := u102
  obtain ⟨Z107, G108, t109, m110⟩ := hp103
  show V _ _ _ _ _ _ _ _ _ _ _ _ _ _ (19, 380) ([(h, .inr (10, [.ref q1, .ref q9, .ref q17, .int (iI 0), .int (iI 23), .int (iI 23), .ref q19, .int (iI 0), .int (iI 0), .ref q21])), (q17, .inl (K 4, 20, .inr (.inr (.inr (.inr f99))))), (q19, .inl (K 4, 6, .inr (.inr (.inr (.inr (fun _ => none))))))] ++ fd dom104 σ105) _ _ [.ref q101, .int (iI 6), .ref q17]
  refine v_aastT B Z107 (E := [(h, .inr (10, [.ref q1, .ref q9, .ref q17, .int (iI 0), .int (iI 23), .int (iI 23), .ref q19, .int (iI 0), .int (iI 0), .ref q21])), (q17, .inl (K 4, 20, .inr (.inr (.inr (.inr f99))))), (q19, .inl (K 4, 6, .inr (.inr (.inr (.inr (fun _ => none))))))]) (k0 := 1) (t0 := 4) (ci := 9) (rr := (RX9, TX9, 2)) (i := 6) (E' := [(h, .inr (10, [.ref q1, .ref q9, .ref q17, .int (iI 0), .int (iI 23), .int (iI 23), .ref q19, .int (iI 0), .int (iI 0), .ref q21])), (q17, .inl (K 4, 20, .inr (.inr (.inr (.inr (va_up f99 6 (some q101))))))), (q19, .inl (K 4, 6, .inr (.inr (.inr (.inr (fun _ => none))))))]) rfl rfl t109 (cls_Row G108 t109) rfl (vpi (by decide +kernel)) (by decide +kernel) rfl dX10_init_83 ?_
  have H112 := rows_step (i := 6) (r := q101) H100 m110 t109
  generalize va_up f99 6 (some q101) = f111 at H112 ⊢
  show V _ _ _ _ _ _ _ _ _ _ _ _ _ _ (19, 380) ([(h, .inr (10, [.ref q1, .ref q9, .ref q17, .int (iI 0), .int (iI 23), .int (iI 23), .ref q19, .int (iI 0), .int (iI 0), .ref q21])), (q17, .inl (K 4, 20, .inr (.inr (.inr (.inr f111))))), (q19, .inl (K 4, 6, .inr (.inr (.inr (.inr (fun _ => none))))))] ++ fd dom104 σ105) _ _ []
  refine v_iinc B (k := 0) (v := iI 7) (lv' := [(1, .int (iI 7)), (0, .ref h)]) dX10_init_84 rfl (by decide +kernel) (by decide +kernel) rfl ?_
  refine v_goto B (tgt := 60) dX10_init_87 (by decide +kernel) ?_
  refine v_iload_n B dX10_init_60 rfl rfl ?_
  refine v_aload_n B dX10_init_61 rfl rfl ?_
  refine v_get B (k0 := 0) (C := RX10) (T := TX10) (N := 10) (ci := 10) hi_k_Server_X10 rfl rfl 2 (by decide +kernel) (List.mem_of_getElem? (i := 8) rfl) rfl dX10_init_62 ?_
  refine v_alen B (k0 := 1) (t0 := 4) (v := iI 20) rfl rfl (show Int32.ofNat 20 = iI 20 by decide +kernel) dX10_init_65 ?_
  refine v_icmp_ge B (tgt := 90) dX10_init_66 (by decide +kernel) (fun q => absurd q (by decide +kernel)) (fun _ => ?_)
  refine v_aload_n B dX10_init_69 rfl rfl ?_
  refine v_get B (k0 := 0) (C := RX10) (T := TX10) (N := 10) (ci := 10) hi_k_Server_X10 rfl rfl 2 (by decide +kernel) (List.mem_of_getElem? (i := 8) rfl) rfl dX10_init_70 ?_
  refine v_iload_n B dX10_init_73 rfl rfl ?_
  refine v_new B (C := RX9) (T := TX9) (N := 2) (ci := 9) (fs := [.null, .int (iI 0)]) hi_k_Server_X9 tyX9 tyX9_ok (List.mem_of_getElem? (i := 7) rfl) (List.mem_of_getElem? (i := 13) rfl) (List.mem_of_getElem? (i := 14) rfl) rfl (by decide +kernel) (by decide +kernel) (by decide +kernel) dX10_init_74 (fun q113 => ?_)
  show V _ _ _ _ _ _ _ _ _ _ _ _ _ _ (20, 382) (([(h, .inr (10, [.ref q1, .ref q9, .ref q17, .int (iI 0), .int (iI 23), .int (iI 23), .ref q19, .int (iI 0), .int (iI 0), .ref q21])), (q17, .inl (K 4, 20, .inr (.inr (.inr (.inr f111))))), (q19, .inl (K 4, 6, .inr (.inr (.inr (.inr (fun _ => none))))))] ++ fd dom104 σ105) ++ [(q113, .inr (9, [.null, .int (iI 0)]))]) _ _ [.ref q113, .int (iI 7), .ref q17]
  refine v_perm (pm1 [(h, .inr (10, [.ref q1, .ref q9, .ref q17, .int (iI 0), .int (iI 23), .int (iI 23), .ref q19, .int (iI 0), .int (iI 0), .ref q21])), (q17, .inl (K 4, 20, .inr (.inr (.inr (.inr f111))))), (q19, .inl (K 4, 6, .inr (.inr (.inr (.inr (fun _ => none))))))] (fd dom104 σ105) (q113, .inr (9, [.null, .int (iI 0)]))) ?_
  refine v_dup B dX10_init_77 rfl ?_
  refine v_bipush B (v := iI 40) dX10_init_78 (by decide +kernel) ?_
  refine v_callIv B (b := q113) (n := 1) (As := [.int (iI 40)]) (rest := [.ref q113, .int (iI 7), .ref q17]) (wc := (q113, .inr (9, [.null, .int (iI 0)])) :: fd dom104 σ105) (wr := [(h, .inr (10, [.ref q1, .ref q9, .ref q17, .int (iI 0), .int (iI 23), .int (iI 23), .ref q19, .int (iI 0), .int (iI 0), .ref q21])), (q17, .inl (K 4, 20, .inr (.inr (.inr (.inr f111))))), (q19, .inl (K 4, 6, .inr (.inr (.inr (.inr (fun _ => none))))))]) (k_Row l D K Z107 G108 q113 13 40 (iI 40) (by decide +kernel)) gd_k_Server_k_Row_37 rfl rfl rfl (by decide +kernel) ⟨by decide +kernel, by decide +kernel⟩ (List.mem_of_getElem? (i := 14) rfl) (List.mem_of_getElem? (i := 15) rfl) (List.mem_of_getElem? (i := 16) rfl) rfl (sp_app _ _) rfl rfl (Nat.le_of_ble_eq_true rfl) dX10_init_80 ⟨by decide +kernel, by decide +kernel⟩ (fun u114 hp115 => ?_)
  obtain ⟨dom116, σ117, τ118⟩ := u114
  obtain ⟨Z119, G120, t121, m122⟩ := hp115
  show V _ _ _ _ _ _ _ _ _ _ _ _ _ _ (21, 422) ([(h, .inr (10, [.ref q1, .ref q9, .ref q17, .int (iI 0), .int (iI 23), .int (iI 23), .ref q19, .int (iI 0), .int (iI 0), .ref q21])), (q17, .inl (K 4, 20, .inr (.inr (.inr (.inr f111))))), (q19, .inl (K 4, 6, .inr (.inr (.inr (.inr (fun _ => none))))))] ++ fd dom116 σ117) _ _ [.ref q113, .int (iI 7), .ref q17]
  refine v_aastT B Z119 (E := [(h, .inr (10, [.ref q1, .ref q9, .ref q17, .int (iI 0), .int (iI 23), .int (iI 23), .ref q19, .int (iI 0), .int (iI 0), .ref q21])), (q17, .inl (K 4, 20, .inr (.inr (.inr (.inr f111))))), (q19, .inl (K 4, 6, .inr (.inr (.inr (.inr (fun _ => none))))))]) (k0 := 1) (t0 := 4) (ci := 9) (rr := (RX9, TX9, 2)) (i := 7) (E' := [(h, .inr (10, [.ref q1, .ref q9, .ref q17, .int (iI 0), .int (iI 23), .int (iI 23), .ref q19, .int (iI 0), .int (iI 0), .ref q21])), (q17, .inl (K 4, 20, .inr (.inr (.inr (.inr (va_up f111 7 (some q113))))))), (q19, .inl (K 4, 6, .inr (.inr (.inr (.inr (fun _ => none))))))]) rfl rfl t121 (cls_Row G120 t121) rfl (vpi (by decide +kernel)) (by decide +kernel) rfl dX10_init_83 ?_
  have H124 := rows_step (i := 7) (r := q113) H112 m122 t121
  generalize va_up f111 7 (some q113) = f123 at H124 ⊢
  show V _ _ _ _ _ _ _ _ _ _ _ _ _ _ (21, 422) ([(h, .inr (10, [.ref q1, .ref q9, .ref q17, .int (iI 0), .int (iI 23), .int (iI 23), .ref q19, .int (iI 0), .int (iI 0), .ref q21])), (q17, .inl (K 4, 20, .inr (.inr (.inr (.inr f123))))), (q19, .inl (K 4, 6, .inr (.inr (.inr (.inr (fun _ => none))))))] ++ fd dom116 σ117) _ _ []
  refine v_iinc B (k := 0) (v := iI 8) (lv' := [(1, .int (iI 8)), (0, .ref h)]) dX10_init_84 rfl (by decide +kernel) (by decide +kernel) rfl ?_
  refine v_goto B (tgt := 60) dX10_init_87 (by decide +kernel) ?_
  refine v_iload_n B dX10_init_60 rfl rfl ?_
  refine v_aload_n B dX10_init_61 rfl rfl ?_
  refine v_get B (k0 := 0) (C := RX10) (T := TX10) (N := 10) (ci := 10) hi_k_Server_X10 rfl rfl 2 (by decide +kernel) (List.mem_of_getElem? (i := 8) rfl) rfl dX10_init_62 ?_
  refine v_alen B (k0 := 1) (t0 := 4) (v := iI 20) rfl rfl (show Int32.ofNat 20 = iI 20 by decide +kernel) dX10_init_65 ?_
  refine v_icmp_ge B (tgt := 90) dX10_init_66 (by decide +kernel) (fun q => absurd q (by decide +kernel)) (fun _ => ?_)
  refine v_aload_n B dX10_init_69 rfl rfl ?_
  refine v_get B (k0 := 0) (C := RX10) (T := TX10) (N := 10) (ci := 10) hi_k_Server_X10 rfl rfl 2 (by decide +kernel) (List.mem_of_getElem? (i := 8) rfl) rfl dX10_init_70 ?_
  refine v_iload_n B dX10_init_73 rfl rfl ?_
  refine v_new B (C := RX9) (T := TX9) (N := 2) (ci := 9) (fs := [.null, .int (iI 0)]) hi_k_Server_X9 tyX9 tyX9_ok (List.mem_of_getElem? (i := 7) rfl) (List.mem_of_getElem? (i := 13) rfl) (List.mem_of_getElem? (i := 14) rfl) rfl (by decide +kernel) (by decide +kernel) (by decide +kernel) dX10_init_74 (fun q125 => ?_)
  show V _ _ _ _ _ _ _ _ _ _ _ _ _ _ (22, 424) (([(h, .inr (10, [.ref q1, .ref q9, .ref q17, .int (iI 0), .int (iI 23), .int (iI 23), .ref q19, .int (iI 0), .int (iI 0), .ref q21])), (q17, .inl (K 4, 20, .inr (.inr (.inr (.inr f123))))), (q19, .inl (K 4, 6, .inr (.inr (.inr (.inr (fun _ => none))))))] ++ fd dom116 σ117) ++ [(q125, .inr (9, [.null, .int (iI 0)]))]) _ _ [.ref q125, .int (iI 8), .ref q17]
  refine v_perm (pm1 [(h, .inr (10, [.ref q1, .ref q9, .ref q17, .int (iI 0), .int (iI 23), .int (iI 23), .ref q19, .int (iI 0), .int (iI 0), .ref q21])), (q17, .inl (K 4, 20, .inr (.inr (.inr (.inr f123))))), (q19, .inl (K 4, 6, .inr (.inr (.inr (.inr (fun _ => none))))))] (fd dom116 σ117) (q125, .inr (9, [.null, .int (iI 0)]))) ?_
  refine v_dup B dX10_init_77 rfl ?_
  refine v_bipush B (v := iI 40) dX10_init_78 (by decide +kernel) ?_
  refine v_callIv B (b := q125) (n := 1) (As := [.int (iI 40)]) (rest := [.ref q125, .int (iI 8), .ref q17]) (wc := (q125, .inr (9, [.null, .int (iI 0)])) :: fd dom116 σ117) (wr := [(h, .inr (10, [.ref q1, .ref q9, .ref q17, .int (iI 0), .int (iI 23), .int (iI 23), .ref q19, .int (iI 0), .int (iI 0), .ref q21])), (q17, .inl (K 4, 20, .inr (.inr (.inr (.inr f123))))), (q19, .inl (K 4, 6, .inr (.inr (.inr (.inr (fun _ => none))))))]) (k_Row l D K Z119 G120 q125 13 40 (iI 40) (by decide +kernel)) gd_k_Server_k_Row_37 rfl rfl rfl (by decide +kernel) ⟨by decide +kernel, by decide +kernel⟩ (List.mem_of_getElem? (i := 14) rfl) (List.mem_of_getElem? (i := 15) rfl) (List.mem_of_getElem? (i := 16) rfl) rfl (sp_app _ _) rfl rfl (Nat.le_of_ble_eq_true rfl) dX10_init_80 ⟨by decide +kernel, by decide +kernel⟩ (fun u126 hp127 => ?_)
  obtain ⟨dom128, σ129, τ130⟩ := u126
  obtain ⟨Z131, G132, t133, m134⟩ := hp127
  show V _ _ _ _ _ _ _ _ _ _ _ _ _ _ (23, 464) ([(h, .inr (10, [.ref q1, .ref q9, .ref q17, .int (iI 0), .int (iI 23), .int (iI 23), .ref q19, .int (iI 0), .int (iI 0), .ref q21])), (q17, .inl (K 4, 20, .inr (.inr (.inr (.inr f123))))), (q19, .inl (K 4, 6, .inr (.inr (.inr (.inr (fun _ => none))))))] ++ fd dom128 σ129) _ _ [.ref q125, .int (iI 8), .ref q17]
  refine v_aastT B Z131 (E := [(h, .inr (10, [.ref q1, .ref q9, .ref q17, .int (iI 0), .int (iI 23), .int (iI 23), .ref q19, .int (iI 0), .int (iI 0), .ref q21])), (q17, .inl (K 4, 20, .inr (.inr (.inr (.inr f123))))), (q19, .inl (K 4, 6, .inr (.inr (.inr (.inr (fun _ => none))))))]) (k0 := 1) (t0 := 4) (ci := 9) (rr := (RX9, TX9, 2)) (i := 8) (E' := [(h, .inr (10, [.ref q1, .ref q9, .ref q17, .int (iI 0), .int (iI 23), .int (iI 23), .ref q19, .int (iI 0), .int (iI 0), .ref q21])), (q17, .inl (K 4, 20, .inr (.inr (.inr (.inr (va_up f123 8 (some q125))))))), (q19, .inl (K 4, 6, .inr (.inr (.inr (.inr (fun _ => none))))))]) rfl rfl t133 (cls_Row G132 t133) rfl (vpi (by decide +kernel)) (by decide +kernel) rfl dX10_init_83 ?_
  have H136 := rows_step (i := 8) (r := q125) H124 m134 t133
  generalize va_up f123 8 (some q125) = f135 at H136 ⊢
  show V _ _ _ _ _ _ _ _ _ _ _ _ _ _ (23, 464) ([(h, .inr (10, [.ref q1, .ref q9, .ref q17, .int (iI 0), .int (iI 23), .int (iI 23), .ref q19, .int (iI 0), .int (iI 0), .ref q21])), (q17, .inl (K 4, 20, .inr (.inr (.inr (.inr f135))))), (q19, .inl (K 4, 6, .inr (.inr (.inr (.inr (fun _ => none))))))] ++ fd dom128 σ129) _ _ []
  refine v_iinc B (k := 0) (v := iI 9) (lv' := [(1, .int (iI 9)), (0, .ref h)]) dX10_init_84 rfl (by decide +kernel) (by decide +kernel) rfl ?_
  refine v_goto B (tgt := 60) dX10_init_87 (by decide +kernel) ?_
  refine v_iload_n B dX10_init_60 rfl rfl ?_
  refine v_aload_n B dX10_init_61 rfl rfl ?_
  refine v_get B (k0 := 0) (C := RX10) (T := TX10) (N := 10) (ci := 10) hi_k_Server_X10 rfl rfl 2 (by decide +kernel) (List.mem_of_getElem? (i := 8) rfl) rfl dX10_init_62 ?_
  refine v_alen B (k0 := 1) (t0 := 4) (v := iI 20) rfl rfl (show Int32.ofNat 20 = iI 20 by decide +kernel) dX10_init_65 ?_
  refine v_icmp_ge B (tgt := 90) dX10_init_66 (by decide +kernel) (fun q => absurd q (by decide +kernel)) (fun _ => ?_)
  refine v_aload_n B dX10_init_69 rfl rfl ?_
  refine v_get B (k0 := 0) (C := RX10) (T := TX10) (N := 10) (ci := 10) hi_k_Server_X10 rfl rfl 2 (by decide +kernel) (List.mem_of_getElem? (i := 8) rfl) rfl dX10_init_70 ?_
  refine v_iload_n B dX10_init_73 rfl rfl ?_
  refine v_new B (C := RX9) (T := TX9) (N := 2) (ci := 9) (fs := [.null, .int (iI 0)]) hi_k_Server_X9 tyX9 tyX9_ok (List.mem_of_getElem? (i := 7) rfl) (List.mem_of_getElem? (i := 13) rfl) (List.mem_of_getElem? (i := 14) rfl) rfl (by decide +kernel) (by decide +kernel) (by decide +kernel) dX10_init_74 (fun q137 => ?_)
  show V _ _ _ _ _ _ _ _ _ _ _ _ _ _ (24, 466) (([(h, .inr (10, [.ref q1, .ref q9, .ref q17, .int (iI 0), .int (iI 23), .int (iI 23), .ref q19, .int (iI 0), .int (iI 0), .ref q21])), (q17, .inl (K 4, 20, .inr (.inr (.inr (.inr f135))))), (q19, .inl (K 4, 6, .inr (.inr (.inr (.inr (fun _ => none))))))] ++ fd dom128 σ129) ++ [(q137, .inr (9, [.null, .int (iI 0)]))]) _ _ [.ref q137, .int (iI 9), .ref q17]
  refine v_perm (pm1 [(h, .inr (10, [.ref q1, .ref q9, .ref q17, .int (iI 0), .int (iI 23), .int (iI 23), .ref q19, .int (iI 0), .int (iI 0), .ref q21])), (q17, .inl (K 4, 20, .inr (.inr (.inr (.inr f135))))), (q19, .inl (K 4, 6, .inr (.inr (.inr (.inr (fun _ => none))))))] (fd dom128 σ129) (q137, .inr (9, [.null, .int (iI 0)]))) ?_
  refine v_dup B dX10_init_77 rfl ?_
  refine v_bipush B (v := iI 40) dX10_init_78 (by decide +kernel) ?_
  refine v_callIv B (b := q137) (n := 1) (As := [.int (iI 40)]) (rest := [.ref q137, .int (iI 9), .ref q17]) (wc := (q137, .inr (9, [.null, .int (iI 0)])) :: fd dom128 σ129) (wr := [(h, .inr (10, [.ref q1, .ref q9, .ref q17, .int (iI 0), .int (iI 23), .int (iI 23), .ref q19, .int (iI 0), .int (iI 0), .ref q21])), (q17, .inl (K 4, 20, .inr (.inr (.inr (.inr f135))))), (q19, .inl (K 4, 6, .inr (.inr (.inr (.inr (fun _ => none))))))]) (k_Row l D K Z131 G132 q137 13 40 (iI 40) (by decide +kernel)) gd_k_Server_k_Row_37 rfl rfl rfl (by decide +kernel) ⟨by decide +kernel, by decide +kernel⟩ (List.mem_of_getElem? (i := 14) rfl) (List.mem_of_getElem? (i := 15) rfl) (List.mem_of_getElem? (i := 16) rfl) rfl (sp_app _ _) rfl rfl (Nat.le_of_ble_eq_true rfl) dX10_init_80 ⟨by decide +kernel, by decide +kernel⟩ (fun u138 hp139 => ?_)
  obtain ⟨dom140, σ141, τ142⟩ := u138
  obtain ⟨Z143, G144, t145, m146⟩ := hp139
  show V _ _ _ _ _ _ _ _ _ _ _ _ _ _ (25, 506) ([(h, .inr (10, [.ref q1, .ref q9, .ref q17, .int (iI 0), .int (iI 23), .int (iI 23), .ref q19, .int (iI 0), .int (iI 0), .ref q21])), (q17, .inl (K 4, 20, .inr (.inr (.inr (.inr f135))))), (q19, .inl (K 4, 6, .inr (.inr (.inr (.inr (fun _ => none))))))] ++ fd dom140 σ141) _ _ [.ref q137, .int (iI 9), .ref q17]
  refine v_aastT B Z143 (E := [(h, .inr (10, [.ref q1, .ref q9, .ref q17, .int (iI 0), .int (iI 23), .int (iI 23), .ref q19, .int (iI 0), .int (iI 0), .ref q21])), (q17, .inl (K 4, 20, .inr (.inr (.inr (.inr f135))))), (q19, .inl (K 4, 6, .inr (.inr (.inr (.inr (fun _ => none))))))]) (k0 := 1) (t0 := 4) (ci := 9) (rr := (RX9, TX9, 2)) (i := 9) (E' := [(h, .inr (10, [.ref q1, .ref q9, .ref q17, .int (iI 0), .int (iI 23), .int (iI 23), .ref q19, .int (iI 0), .int (iI 0), .ref q21])), (q17, .inl (K 4, 20, .inr (.inr (.inr (.inr (va_up f135 9 (some q137))))))), (q19, .inl (K 4, 6, .inr (.inr (.inr (.inr (fun _ => none))))))]) rfl rfl t145 (cls_Row G144 t145) rfl (vpi (by decide +kernel)) (by decide +kernel) rfl dX10_init_83 ?_
  have H148 := rows_step (i := 9) (r := q137) H136 m146 t145
  generalize va_up f135 9 (some q137) = f147 at H148 ⊢
  show V _ _ _ _ _ _ _ _ _ _ _ _ _ _ (25, 506) ([(h, .inr (10, [.ref q1, .ref q9, .ref q17, .int (iI 0), .int (iI 23), .int (iI 23), .ref q19, .int (iI 0), .int (iI 0), .ref q21])), (q17, .inl (K 4, 20, .inr (.inr (.inr (.inr f147))))), (q19, .inl (K 4, 6, .inr (.inr (.inr (.inr (fun _ => none))))))] ++ fd dom140 σ141) _ _ []
  refine v_iinc B (k := 0) (v := iI 10) (lv' := [(1, .int (iI 10)), (0, .ref h)]) dX10_init_84 rfl (by decide +kernel) (by decide +kernel) rfl ?_
  refine v_goto B (tgt := 60) dX10_init_87 (by decide +kernel) ?_
  refine v_iload_n B dX10_init_60 rfl rfl ?_
  refine v_aload_n B dX10_init_61 rfl rfl ?_
  refine v_get B (k0 := 0) (C := RX10) (T := TX10) (N := 10) (ci := 10) hi_k_Server_X10 rfl rfl 2 (by decide +kernel) (List.mem_of_getElem? (i := 8) rfl) rfl dX10_init_62 ?_
  refine v_alen B (k0 := 1) (t0 := 4) (v := iI 20) rfl rfl (show Int32.ofNat 20 = iI 20 by decide +kernel) dX10_init_65 ?_
  refine v_icmp_ge B (tgt := 90) dX10_init_66 (by decide +kernel) (fun q => absurd q (by decide +kernel)) (fun _ => ?_)
  refine v_aload_n B dX10_init_69 rfl rfl ?_
  refine v_get B (k0 := 0) (C := RX10) (T := TX10) (N := 10) (ci := 10) hi_k_Server_X10 rfl rfl 2 (by decide +kernel) (List.mem_of_getElem? (i := 8) rfl) rfl dX10_init_70 ?_
  refine v_iload_n B dX10_init_73 rfl rfl ?_
  refine v_new B (C := RX9) (T := TX9) (N := 2) (ci := 9) (fs := [.null, .int (iI 0)]) hi_k_Server_X9 tyX9 tyX9_ok (List.mem_of_getElem? (i := 7) rfl) (List.mem_of_getElem? (i := 13) rfl) (List.mem_of_getElem? (i := 14) rfl) rfl (by decide +kernel) (by decide +kernel) (by decide +kernel) dX10_init_74 (fun q149 => ?_)
  show V _ _ _ _ _ _ _ _ _ _ _ _ _ _ (26, 508) (([(h, .inr (10, [.ref q1, .ref q9, .ref q17, .int (iI 0), .int (iI 23), .int (iI 23), .ref q19, .int (iI 0), .int (iI 0), .ref q21])), (q17, .inl (K 4, 20, .inr (.inr (.inr (.inr f147))))), (q19, .inl (K 4, 6, .inr (.inr (.inr (.inr (fun _ => none))))))] ++ fd dom140 σ141) ++ [(q149, .inr (9, [.null, .int (iI 0)]))]) _ _ [.ref q149, .int (iI 10), .ref q17]
  refine v_perm (pm1 [(h, .inr (10, [.ref q1, .ref q9, .ref q17, .int (iI 0), .int (iI 23), .int (iI 23), .ref q19, .int (iI 0), .int (iI 0), .ref q21])), (q17, .inl (K 4, 20, .inr (.inr (.inr (.inr f147))))), (q19, .inl (K 4, 6, .inr (.inr (.inr (.inr (fun _ => none))))))] (fd dom140 σ141) (q149, .inr (9, [.null, .int (iI 0)]))) ?_
  refine v_dup B dX10_init_77 rfl ?_
  refine v_bipush B (v := iI 40) dX10_init_78 (by decide +kernel) ?_
  refine v_callIv B (b := q149) (n := 1) (As := [.int (iI 40)]) (rest := [.ref q149, .int (iI 10), .ref q17]) (wc := (q149, .inr (9, [.null, .int (iI 0)])) :: fd dom140 σ141) (wr := [(h, .inr (10, [.ref q1, .ref q9, .ref q17, .int (iI 0), .int (iI 23), .int (iI 23), .ref q19, .int (iI 0), .int (iI 0), .ref q21])), (q17, .inl (K 4, 20, .inr (.inr (.inr (.inr f147))))), (q19, .inl (K 4, 6, .inr (.inr (.inr (.inr (fun _ => none))))))]) (k_Row l D K Z143 G144 q149 13 40 (iI 40) (by decide +kernel)) gd_k_Server_k_Row_37 rfl rfl rfl (by decide +kernel) ⟨by decide +kernel, by decide +kernel⟩ (List.mem_of_getElem? (i := 14) rfl) (List.mem_of_getElem? (i := 15) rfl) (List.mem_of_getElem? (i := 16) rfl) rfl (sp_app _ _) rfl rfl (Nat.le_of_ble_eq_true rfl) dX10_init_80 ⟨by decide +kernel, by decide +kernel⟩ (fun u150 hp151 => ?_)
  obtain ⟨dom152, σ153, τ154⟩ := u150
  obtain ⟨Z155, G156, t157, m158⟩ := hp151
  show V _ _ _ _ _ _ _ _ _ _ _ _ _ _ (27, 548) ([(h, .inr (10, [.ref q1, .ref q9, .ref q17, .int (iI 0), .int (iI 23), .int (iI 23), .ref q19, .int (iI 0), .int (iI 0), .ref q21])), (q17, .inl (K 4, 20, .inr (.inr (.inr (.inr f147))))), (q19, .inl (K 4, 6, .inr (.inr (.inr (.inr (fun _ => none))))))] ++ fd dom152 σ153) _ _ [.ref q149, .int (iI 10), .ref q17]
  refine v_aastT B Z155 (E := [(h, .inr (10, [.ref q1, .ref q9, .ref q17, .int (iI 0), .int (iI 23), .int (iI 23), .ref q19, .int (iI 0), .int (iI 0), .ref q21])), (q17, .inl (K 4, 20, .inr (.inr (.inr (.inr f147))))), (q19, .inl (K 4, 6, .inr (.inr (.inr (.inr (fun _ => none))))))]) (k0 := 1) (t0 := 4) (ci := 9) (rr := (RX9, TX9, 2)) (i := 10) (E' := [(h, .inr (10, [.ref q1, .ref q9, .ref q17, .int (iI 0), .int (iI 23), .int (iI 23), .ref q19, .int (iI 0), .int (iI 0), .ref q21])), (q17, .inl (K 4, 20, .inr (.inr (.inr (.inr (va_up f147 10 (some q149))))))), (q19, .inl (K 4, 6, .inr (.inr (.inr (.inr (fun _ => none))))))]) rfl rfl t157 (cls_Row G156 t157) rfl (vpi (by decide +kernel)) (by decide +kernel) rfl dX10_init_83 ?_
  have H160 := rows_step (i := 10) (r := q149) H148 m158 t157
  generalize va_up f147 10 (some q149) = f159 at H160 ⊢
  show V _ _ _ _ _ _ _ _ _ _ _ _ _ _ (27, 548) ([(h, .inr (10, [.ref q1, .ref q9, .ref q17, .int (iI 0), .int (iI 23), .int (iI 23), .ref q19, .int (iI 0), .int (iI 0), .ref q21])), (q17, .inl (K 4, 20, .inr (.inr (.inr (.inr f159))))), (q19, .inl (K 4, 6, .inr (.inr (.inr (.inr (fun _ => none))))))] ++ fd dom152 σ153) _ _ []
  refine v_iinc B (k := 0) (v := iI 11) (lv' := [(1, .int (iI 11)), (0, .ref h)]) dX10_init_84 rfl (by decide +kernel) (by decide +kernel) rfl ?_
  refine v_goto B (tgt := 60) dX10_init_87 (by decide +kernel) ?_
  refine v_iload_n B dX10_init_60 rfl rfl ?_
  refine v_aload_n B dX10_init_61 rfl rfl ?_
  refine v_get B (k0 := 0) (C := RX10) (T := TX10) (N := 10) (ci := 10) hi_k_Server_X10 rfl rfl 2 (by decide +kernel) (List.mem_of_getElem? (i := 8) rfl) rfl dX10_init_62 ?_
  refine v_alen B (k0 := 1) (t0 := 4) (v := iI 20) rfl rfl (show Int32.ofNat 20 = iI 20 by decide +kernel) dX10_init_65 ?_
  refine v_icmp_ge B (tgt := 90) dX10_init_66 (by decide +kernel) (fun q => absurd q (by decide +kernel)) (fun _ => ?_)
  refine v_aload_n B dX10_init_69 rfl rfl ?_
  refine v_get B (k0 := 0) (C := RX10) (T := TX10) (N := 10) (ci := 10) hi_k_Server_X10 rfl rfl 2 (by decide +kernel) (List.mem_of_getElem? (i := 8) rfl) rfl dX10_init_70 ?_
  refine v_iload_n B dX10_init_73 rfl rfl ?_
  refine v_new B (C := RX9) (T := TX9) (N := 2) (ci := 9) (fs := [.null, .int (iI 0)]) hi_k_Server_X9 tyX9 tyX9_ok (List.mem_of_getElem? (i := 7) rfl) (List.mem_of_getElem? (i := 13) rfl) (List.mem_of_getElem? (i := 14) rfl) rfl (by decide +kernel) (by decide +kernel) (by decide +kernel) dX10_init_74 (fun q161 => ?_)
  show V _ _ _ _ _ _ _ _ _ _ _ _ _ _ (28, 550) (([(h, .inr (10, [.ref q1, .ref q9, .ref q17, .int (iI 0), .int (iI 23), .int (iI 23), .ref q19, .int (iI 0), .int (iI 0), .ref q21])), (q17, .inl (K 4, 20, .inr (.inr (.inr (.inr f159))))), (q19, .inl (K 4, 6, .inr (.inr (.inr (.inr (fun _ => none))))))] ++ fd dom152 σ153) ++ [(q161, .inr (9, [.null, .int (iI 0)]))]) _ _ [.ref q161, .int (iI 11), .ref q17]
  refine v_perm (pm1 [(h, .inr (10, [.ref q1, .ref q9, .ref q17, .int (iI 0), .int (iI 23), .int (iI 23), .ref q19, .int (iI 0), .int (iI 0), .ref q21])), (q17, .inl (K 4, 20, .inr (.inr (.inr (.inr f159))))), (q19, .inl (K 4, 6, .inr (.inr (.inr (.inr (fun _ => none))))))] (fd dom152 σ153) (q161, .inr (9, [.null, .int (iI 0)]))) ?_
  refine v_dup B dX10_init_77 rfl ?_
  refine v_bipush B (v := iI 40) dX10_init_78 (by decide +kernel) ?_
  refine v_callIv B (b := q161) (n := 1) (As := [.int (iI 40)]) (rest := [.ref q161, .int (iI 11), .ref q17]) (wc := (q161, .inr (9, [.null, .int (iI 0)])) :: fd dom152 σ153) (wr := [(h, .inr (10, [.ref q1, .ref q9, .ref q17, .int (iI 0), .int (iI 23), .int (iI 23), .ref q19, .int (iI 0), .int (iI 0), .ref q21])), (q17, .inl (K 4, 20, .inr (.inr (.inr (.inr f159))))), (q19, .inl (K 4, 6, .inr (.inr (.inr (.inr (fun _ => none))))))]) (k_Row l D K Z155 G156 q161 13 40 (iI 40) (by decide +kernel)) gd_k_Server_k_Row_37 rfl rfl rfl (by decide +kernel) ⟨by decide +kernel, by decide +kernel⟩ (List.mem_of_getElem? (i := 14) rfl) (List.mem_of_getElem? (i := 15) rfl) (List.mem_of_getElem? (i := 16) rfl) rfl (sp_app _ _) rfl rfl (Nat.le_of_ble_eq_true rfl) dX10_init_80 ⟨by decide +kernel, by decide +kernel⟩ (fun u162 hp163 => ?_)
  obtain ⟨dom164, σ165, τ166⟩ := u162
  obtain ⟨Z167, G168, t169, m170⟩ := hp163
  show V _ _ _ _ _ _ _ _ _ _ _ _ _ _ (29, 590) ([(h, .inr (10, [.ref q1, .ref q9, .ref q17, .int (iI 0), .int (iI 23), .int (iI 23), .ref q19, .int (iI 0), .int (iI 0), .ref q21])), (q17, .inl (K 4, 20, .inr (.inr (.inr (.inr f159))))), (q19, .inl (K 4, 6, .inr (.inr (.inr (.inr (fun _ => none))))))] ++ fd dom164 σ165) _ _ [.ref q161, .int (iI 11), .ref q17]
  refine v_aastT B Z167 (E := [(h, .inr (10, [.ref q1, .ref q9, .ref q17, .int (iI 0), .int (iI 23), .int (iI 23), .ref q19, .int (iI 0), .int (iI 0), .ref q21])), (q17, .inl (K 4, 20, .inr (.inr (.inr (.inr f159))))), (q19, .inl (K 4, 6, .inr (.inr (.inr (.inr (fun _ => none))))))]) (k0 := 1) (t0 := 4) (ci := 9) (rr := (RX9, TX9, 2)) (i := 11) (E' := [(h, .inr (10, [.ref q1, .ref q9, .ref q17, .int (iI 0), .int (iI 23), .int (iI 23), .ref q19, .int (iI 0), .int (iI 0), .ref q21])), (q17, .inl (K 4, 20, .inr (.inr (.inr (.inr (va_up f159 11 (some q161))))))), (q19, .inl (K 4, 6, .inr (.inr (.inr (.inr (fun _ => none))))))]) rfl rfl t169 (cls_Row G168 t169) rfl (vpi (by decide +kernel)) (by decide +kernel) rfl dX10_init_83 ?_
  have H172 := rows_step (i := 11) (r := q161) H160 m170 t169
  generalize va_up f159 11 (some q161) = f171 at H172 ⊢
  show V _ _ _ _ _ _ _ _ _ _ _ _ _ _ (29, 590) ([(h, .inr (10, [.ref q1, .ref q9, .ref q17, .int (iI 0), .int (iI 23), .int (iI 23), .ref q19, .int (iI 0), .int (iI 0), .ref q21])), (q17, .inl (K 4, 20, .inr (.inr (.inr (.inr f171))))), (q19, .inl (K 4, 6, .inr (.inr (.inr (.inr (fun _ => none))))))] ++ fd dom164 σ165) _ _ []
  refine v_iinc B (k := 0) (v := iI 12) (lv' := [(1, .int (iI 12)), (0, .ref h)]) dX10_init_84 rfl (by decide +kernel) (by decide +kernel) rfl ?_
  refine v_goto B (tgt := 60) dX10_init_87 (by decide +kernel) ?_
  refine v_iload_n B dX10_init_60 rfl rfl ?_
  refine v_aload_n B dX10_init_61 rfl rfl ?_
  refine v_get B (k0 := 0) (C := RX10) (T := TX10) (N := 10) (ci := 10) hi_k_Server_X10 rfl rfl 2 (by decide +kernel) (List.mem_of_getElem? (i := 8) rfl) rfl dX10_init_62 ?_
  refine v_alen B (k0 := 1) (t0 := 4) (v := iI 20) rfl rfl (show Int32.ofNat 20 = iI 20 by decide +kernel) dX10_init_65 ?_
  refine v_icmp_ge B (tgt := 90) dX10_init_66 (by decide +kernel) (fun q => absurd q (by decide +kernel)) (fun _ => ?_)
  refine v_aload_n B dX10_init_69 rfl rfl ?_
  refine v_get B (k0 := 0) (C := RX10) (T := TX10) (N := 10) (ci := 10) hi_k_Server_X10 rfl rfl 2 (by decide +kernel) (List.mem_of_getElem? (i := 8) rfl) rfl dX10_init_70 ?_
  refine v_iload_n B dX10_init_73 rfl rfl ?_
  refine v_new B (C := RX9) (T := TX9) (N := 2) (ci := 9) (fs := [.null, .int (iI 0)]) hi_k_Server_X9 tyX9 tyX9_ok (List.mem_of_getElem? (i := 7) rfl) (List.mem_of_getElem? (i := 13) rfl) (List.mem_of_getElem? (i := 14) rfl) rfl (by decide +kernel) (by decide +kernel) (by decide +kernel) dX10_init_74 (fun q173 => ?_)
  show V _ _ _ _ _ _ _ _ _ _ _ _ _ _ (30, 592) (([(h, .inr (10, [.ref q1, .ref q9, .ref q17, .int (iI 0), .int (iI 23), .int (iI 23), .ref q19, .int (iI 0), .int (iI 0), .ref q21])), (q17, .inl (K 4, 20, .inr (.inr (.inr (.inr f171))))), (q19, .inl (K 4, 6, .inr (.inr (.inr (.inr (fun _ => none))))))] ++ fd dom164 σ165) ++ [(q173, .inr (9, [.null, .int (iI 0)]))]) _ _ [.ref q173, .int (iI 12), .ref q17]
  refine v_perm (pm1 [(h, .inr (10, [.ref q1, .ref q9, .ref q17, .int (iI 0), .int (iI 23), .int (iI 23), .ref q19, .int (iI 0), .int (iI 0), .ref q21])), (q17, .inl (K 4, 20, .inr (.inr (.inr (.inr f171))))), (q19, .inl (K 4, 6, .inr (.inr (.inr (.inr (fun _ => none))))))] (fd dom164 σ165) (q173, .inr (9, [.null, .int (iI 0)]))) ?_
  refine v_dup B dX10_init_77 rfl ?_
  refine v_bipush B (v := iI 40) dX10_init_78 (by decide +kernel) ?_
  refine v_callIv B (b := q173) (n := 1) (As := [.int (iI 40)]) (rest := [.ref q173, .int (iI 12), .ref q17]) (wc := (q173, .inr (9, [.null, .int (iI 0)])) :: fd dom164 σ165) (wr := [(h, .inr (10, [.ref q1, .ref q9, .ref q17, .int (iI 0), .int (iI 23), .int (iI 23), .ref q19, .int (iI 0), .int (iI 0), .ref q21])), (q17, .inl (K 4, 20, .inr (.inr (.inr (.inr f171))))), (q19, .inl (K 4, 6, .inr (.inr (.inr (.inr (fun _ => none))))))]) (k_Row l D K Z167 G168 q173 13 40 (iI 40) (by decide +kernel)) gd_k_Server_k_Row_37 rfl rfl rfl (by decide +kernel) ⟨by decide +kernel, by decide +kernel⟩ (List.mem_of_getElem? (i := 14) rfl) (List.mem_of_getElem? (i := 15) rfl) (List.mem_of_getElem? (i := 16) rfl) rfl (sp_app _ _) rfl rfl (Nat.le_of_ble_eq_true rfl) dX10_init_80 ⟨by decide +kernel, by decide +kernel⟩ (fun u174 hp175 => ?_)
  obtain ⟨dom176, σ177, τ178⟩ := u174
  obtain ⟨Z179, G180, t181, m182⟩ := hp175
  show V _ _ _ _ _ _ _ _ _ _ _ _ _ _ (31, 632) ([(h, .inr (10, [.ref q1, .ref q9, .ref q17, .int (iI 0), .int (iI 23), .int (iI 23), .ref q19, .int (iI 0), .int (iI 0), .ref q21])), (q17, .inl (K 4, 20, .inr (.inr (.inr (.inr f171))))), (q19, .inl (K 4, 6, .inr (.inr (.inr (.inr (fun _ => none))))))] ++ fd dom176 σ177) _ _ [.ref q173, .int (iI 12), .ref q17]
  refine v_aastT B Z179 (E := [(h, .inr (10, [.ref q1, .ref q9, .ref q17, .int (iI 0), .int (iI 23), .int (iI 23), .ref q19, .int (iI 0), .int (iI 0), .ref q21])), (q17, .inl (K 4, 20, .inr (.inr (.inr (.inr f171))))), (q19, .inl (K 4, 6, .inr (.inr (.inr (.inr (fun _ => none))))))]) (k0 := 1) (t0 := 4) (ci := 9) (rr := (RX9, TX9, 2)) (i := 12) (E' := [(h, .inr (10, [.ref q1, .ref q9, .ref q17, .int (iI 0), .int (iI 23), .int (iI 23), .ref q19, .int (iI 0), .int (iI 0), .ref q21])), (q17, .inl (K 4, 20, .inr (.inr (.inr (.inr (va_up f171 12 (some q173))))))), (q19, .inl (K 4, 6, .inr (.inr (.inr (.inr (fun _ => none))))))]) rfl rfl t181 (cls_Row G180 t181) rfl (vpi (by decide +kernel)) (by decide +kernel) rfl dX10_init_83 ?_
  have H184 := rows_step (i := 12) (r := q173) H172 m182 t181
  generalize va_up f171 12 (some q173) = f183 at H184 ⊢
  show V _ _ _ _ _ _ _ _ _ _ _ _ _ _ (31, 632) ([(h, .inr (10, [.ref q1, .ref q9, .ref q17, .int (iI 0), .int (iI 23), .int (iI 23), .ref q19, .int (iI 0), .int (iI 0), .ref q21])), (q17, .inl (K 4, 20, .inr (.inr (.inr (.inr f183))))), (q19, .inl (K 4, 6, .inr (.inr (.inr (.inr (fun _ => none))))))] ++ fd dom176 σ177) _ _ []
  refine v_iinc B (k := 0) (v := iI 13) (lv' := [(1, .int (iI 13)), (0, .ref h)]) dX10_init_84 rfl (by decide +kernel) (by decide +kernel) rfl ?_
  refine v_goto B (tgt := 60) dX10_init_87 (by decide +kernel) ?_
  refine v_iload_n B dX10_init_60 rfl rfl ?_
  refine v_aload_n B dX10_init_61 rfl rfl ?_
  refine v_get B (k0 := 0) (C := RX10) (T := TX10) (N := 10) (ci := 10) hi_k_Server_X10 rfl rfl 2 (by decide +kernel) (List.mem_of_getElem? (i := 8) rfl) rfl dX10_init_62 ?_
  refine v_alen B (k0 := 1) (t0 := 4) (v := iI 20) rfl rfl (show Int32.ofNat 20 = iI 20 by decide +kernel) dX10_init_65 ?_
  refine v_icmp_ge B (tgt := 90) dX10_init_66 (by decide +kernel) (fun q => absurd q (by decide +kernel)) (fun _ => ?_)
  refine v_aload_n B dX10_init_69 rfl rfl ?_
  refine v_get B (k0 := 0) (C := RX10) (T := TX10) (N := 10) (ci := 10) hi_k_Server_X10 rfl rfl 2 (by decide +kernel) (List.mem_of_getElem? (i := 8) rfl) rfl dX10_init_70 ?_
  refine v_iload_n B dX10_init_73 rfl rfl ?_
  refine v_new B (C := RX9) (T := TX9) (N := 2) (ci := 9) (fs := [.null, .int (iI 0)]) hi_k_Server_X9 tyX9 tyX9_ok (List.mem_of_getElem? (i := 7) rfl) (List.mem_of_getElem? (i := 13) rfl) (List.mem_of_getElem? (i := 14) rfl) rfl (by decide +kernel) (by decide +kernel) (by decide +kernel) dX10_init_74 (fun q185 => ?_)
  show V _ _ _ _ _ _ _ _ _ _ _ _ _ _ (32, 634) (([(h, .inr (10, [.ref q1, .ref q9, .ref q17, .int (iI 0), .int (iI 23), .int (iI 23), .ref q19, .int (iI 0), .int (iI 0), .ref q21])), (q17, .inl (K 4, 20, .inr (.inr (.inr (.inr f183))))), (q19, .inl (K 4, 6, .inr (.inr (.inr (.inr (fun _ => none))))))] ++ fd dom176 σ177) ++ [(q185, .inr (9, [.null, .int (iI 0)]))]) _ _ [.ref q185, .int (iI 13), .ref q17]
  refine v_perm (pm1 [(h, .inr (10, [.ref q1, .ref q9, .ref q17, .int (iI 0), .int (iI 23), .int (iI 23), .ref q19, .int (iI 0), .int (iI 0), .ref q21])), (q17, .inl (K 4, 20, .inr (.inr (.inr (.inr f183))))), (q19, .inl (K 4, 6, .inr (.inr (.inr (.inr (fun _ => none))))))] (fd dom176 σ177) (q185, .inr (9, [.null, .int (iI 0)]))) ?_
  refine v_dup B dX10_init_77 rfl ?_
  refine v_bipush B (v := iI 40) dX10_init_78 (by decide +kernel) ?_
  refine v_callIv B (b := q185) (n := 1) (As := [.int (iI 40)]) (rest := [.ref q185, .int (iI 13), .ref q17]) (wc := (q185, .inr (9, [.null, .int (iI 0)])) :: fd dom176 σ177) (wr := [(h, .inr (10, [.ref q1, .ref q9, .ref q17, .int (iI 0), .int (iI 23), .int (iI 23), .ref q19, .int (iI 0), .int (iI 0), .ref q21])), (q17, .inl (K 4, 20, .inr (.inr (.inr (.inr f183))))), (q19, .inl (K 4, 6, .inr (.inr (.inr (.inr (fun _ => none))))))]) (k_Row l D K Z179 G180 q185 13 40 (iI 40) (by decide +kernel)) gd_k_Server_k_Row_37 rfl rfl rfl (by decide +kernel) ⟨by decide +kernel, by decide +kernel⟩ (List.mem_of_getElem? (i := 14) rfl) (List.mem_of_getElem? (i := 15) rfl) (List.mem_of_getElem? (i := 16) rfl) rfl (sp_app _ _) rfl rfl (Nat.le_of_ble_eq_true rfl) dX10_init_80 ⟨by decide +kernel, by decide +kernel⟩ (fun u186 hp187 => ?_)
  obtain ⟨dom188, σ189, τ190⟩ := u186
  obtain ⟨Z191, G192, t193, m194⟩ := hp187
  show V _ _ _ _ _ _ _ _ _ _ _ _ _ _ (33, 674) ([(h, .inr (10, [.ref q1, .ref q9, .ref q17, .int (iI 0), .int (iI 23), .int (iI 23), .ref q19, .int (iI 0), .int (iI 0), .ref q21])), (q17, .inl (K 4, 20, .inr (.inr (.inr (.inr f183))))), (q19, .inl (K 4, 6, .inr (.inr (.inr (.inr (fun _ => none))))))] ++ fd dom188 σ189) _ _ [.ref q185, .int (iI 13), .ref q17]
  refine v_aastT B Z191 (E := [(h, .inr (10, [.ref q1, .ref q9, .ref q17, .int (iI 0), .int (iI 23), .int (iI 23), .ref q19, .int (iI 0), .int (iI 0), .ref q21])), (q17, .inl (K 4, 20, .inr (.inr (.inr (.inr f183))))), (q19, .inl (K 4, 6, .inr (.inr (.inr (.inr (fun _ => none))))))]) (k0 := 1) (t0 := 4) (ci := 9) (rr := (RX9, TX9, 2)) (i := 13) (E' := [(h, .inr (10, [.ref q1, .ref q9, .ref q17, .int (iI 0), .int (iI 23), .int (iI 23), .ref q19, .int (iI 0), .int (iI 0), .ref q21])), (q17, .inl (K 4, 20, .inr (.inr (.inr (.inr (va_up f183 13 (some q185))))))), (q19, .inl (K 4, 6, .inr (.inr (.inr (.inr (fun _ => none))))))]) rfl rfl t193 (cls_Row G192 t193) rfl (vpi (by decide +kernel)) (by decide +kernel) rfl dX10_init_83 ?_
  have H196 := rows_step (i := 13) (r := q185) H184 m194 t193
  generalize va_up f183 13 (some q185) = f195 at H196 ⊢
  show V _ _ _ _ _ _ _ _ _ _ _ _ _ _ (33, 674) ([(h, .inr (10, [.ref q1, .ref q9, .ref q17, .int (iI 0), .int (iI 23), .int (iI 23), .ref q19, .int (iI 0), .int (iI 0), .ref q21])), (q17, .inl (K 4, 20, .inr (.inr (.inr (.inr f195))))), (q19, .inl (K 4, 6, .inr (.inr (.inr (.inr (fun _ => none))))))] ++ fd dom188 σ189) _ _ []
  refine v_iinc B (k := 0) (v := iI 14) (lv' := [(1, .int (iI 14)), (0, .ref h)]) dX10_init_84 rfl (by decide +kernel) (by decide +kernel) rfl ?_
  refine v_goto B (tgt := 60) dX10_init_87 (by decide +kernel) ?_
  refine v_iload_n B dX10_init_60 rfl rfl ?_
  refine v_aload_n B dX10_init_61 rfl rfl ?_
  refine v_get B (k0 := 0) (C := RX10) (T := TX10) (N := 10) (ci := 10) hi_k_Server_X10 rfl rfl 2 (by decide +kernel) (List.mem_of_getElem? (i := 8) rfl) rfl dX10_init_62 ?_
  refine v_alen B (k0 := 1) (t0 := 4) (v := iI 20) rfl rfl (show Int32.ofNat 20 = iI 20 by decide +kernel) dX10_init_65 ?_
  refine v_icmp_ge B (tgt := 90) dX10_init_66 (by decide +kernel) (fun q => absurd q (by decide +kernel)) (fun _ => ?_)
  refine v_aload_n B dX10_init_69 rfl rfl ?_
  refine v_get B (k0 := 0) (C := RX10) (T := TX10) (N := 10) (ci := 10) hi_k_Server_X10 rfl rfl 2 (by decide +kernel) (List.mem_of_getElem? (i := 8) rfl) rfl dX10_init_70 ?_
  refine v_iload_n B dX10_init_73 rfl rfl ?_
  refine v_new B (C := RX9) (T := TX9) (N := 2) (ci := 9) (fs := [.null, .int (iI 0)]) hi_k_Server_X9 tyX9 tyX9_ok (List.mem_of_getElem? (i := 7) rfl) (List.mem_of_getElem? (i := 13) rfl) (List.mem_of_getElem? (i := 14) rfl) rfl (by decide +kernel) (by decide +kernel) (by decide +kernel) dX10_init_74 (fun q197 => ?_)
  show V _ _ _ _ _ _ _ _ _ _ _ _ _ _ (34, 676) (([(h, .inr (10, [.ref q1, .ref q9, .ref q17, .int (iI 0), .int (iI 23), .int (iI 23), .ref q19, .int (iI 0), .int (iI 0), .ref q21])), (q17, .inl (K 4, 20, .inr (.inr (.inr (.inr f195))))), (q19, .inl (K 4, 6, .inr (.inr (.inr (.inr (fun _ => none))))))] ++ fd dom188 σ189) ++ [(q197, .inr (9, [.null, .int (iI 0)]))]) _ _ [.ref q197, .int (iI 14), .ref q17]
  refine v_perm (pm1 [(h, .inr (10, [.ref q1, .ref q9, .ref q17, .int (iI 0), .int (iI 23), .int (iI 23), .ref q19, .int (iI 0), .int (iI 0), .ref q21])), (q17, .inl (K 4, 20, .inr (.inr (.inr (.inr f195))))), (q19, .inl (K 4, 6, .inr (.inr (.inr (.inr (fun _ => none))))))] (fd dom188 σ189) (q197, .inr (9, [.null, .int (iI 0)]))) ?_
  refine v_dup B dX10_init_77 rfl ?_
  refine v_bipush B (v := iI 40) dX10_init_78 (by decide +kernel) ?_
  refine v_callIv B (b := q197) (n := 1) (As := [.int (iI 40)]) (rest := [.ref q197, .int (iI 14), .ref q17]) (wc := (q197, .inr (9, [.null, .int (iI 0)])) :: fd dom188 σ189) (wr := [(h, .inr (10, [.ref q1, .ref q9, .ref q17, .int (iI 0), .int (iI 23), .int (iI 23), .ref q19, .int (iI 0), .int (iI 0), .ref q21])), (q17, .inl (K 4, 20, .inr (.inr (.inr (.inr f195))))), (q19, .inl (K 4, 6, .inr (.inr (.inr (.inr (fun _ => none))))))]) (k_Row l D K Z191 G192 q197 13 40 (iI 40) (by decide +kernel)) gd_k_Server_k_Row_37 rfl rfl rfl (by decide +kernel) ⟨by decide +kernel, by decide +kernel⟩ (List.mem_of_getElem? (i := 14) rfl) (List.mem_of_getElem? (i := 15) rfl) (List.mem_of_getElem? (i := 16) rfl) rfl (sp_app _ _) rfl rfl (Nat.le_of_ble_eq_true rfl) dX10_init_80 ⟨by decide +kernel, by decide +kernel⟩ (fun u198 hp199 => ?_)
  obtain ⟨dom200, σ201, τ202⟩ := u198
  obtain ⟨Z203, G204, t205, m206⟩ := hp199
  show V _ _ _ _ _ _ _ _ _ _ _ _ _ _ (35, 716) ([(h, .inr (10, [.ref q1, .ref q9, .ref q17, .int (iI 0), .int (iI 23), .int (iI 23), .ref q19, .int (iI 0), .int (iI 0), .ref q21])), (q17, .inl (K 4, 20, .inr (.inr (.inr (.inr f195))))), (q19, .inl (K 4, 6, .inr (.inr (.inr (.inr (fun _ => none))))))] ++ fd dom200 σ201) _ _ [.ref q197, .int (iI 14), .ref q17]
  refine v_aastT B Z203 (E := [(h, .inr (10, [.ref q1, .ref q9, .ref q17, .int (iI 0), .int (iI 23), .int (iI 23), .ref q19, .int (iI 0), .int (iI 0), .ref q21])), (q17, .inl (K 4, 20, .inr (.inr (.inr (.inr f195))))), (q19, .inl (K 4, 6, .inr (.inr (.inr (.inr (fun _ => none))))))]) (k0 := 1) (t0 := 4) (ci := 9) (rr := (RX9, TX9, 2)) (i := 14) (E' := [(h, .inr (10, [.ref q1, .ref q9, .ref q17, .int (iI 0), .int (iI 23), .int (iI 23), .ref q19, .int (iI 0), .int (iI 0), .ref q21])), (q17, .inl (K 4, 20, .inr (.inr (.inr (.inr (va_up f195 14 (some q197))))))), (q19, .inl (K 4, 6, .inr (.inr (.inr (.inr (fun _ => none))))))]) rfl rfl t205 (cls_Row G204 t205) rfl (vpi (by decide +kernel)) (by decide +kernel) rfl dX10_init_83 ?_
  have H208 := rows_step (i := 14) (r := q197) H196 m206 t205
  generalize va_up f195 14 (some q197) = f207 at H208 ⊢
  show V _ _ _ _ _ _ _ _ _ _ _ _ _ _ (35, 716) ([(h, .inr (10, [.ref q1, .ref q9, .ref q17, .int (iI 0), .int (iI 23), .int (iI 23), .ref q19, .int (iI 0), .int (iI 0), .ref q21])), (q17, .inl (K 4, 20, .inr (.inr (.inr (.inr f207))))), (q19, .inl (K 4, 6, .inr (.inr (.inr (.inr (fun _ => none))))))] ++ fd dom200 σ201) _ _ []
  refine v_iinc B (k := 0) (v := iI 15) (lv' := [(1, .int (iI 15)), (0, .ref h)]) dX10_init_84 rfl (by decide +kernel) (by decide +kernel) rfl ?_
  refine v_goto B (tgt := 60) dX10_init_87 (by decide +kernel) ?_
  refine v_iload_n B dX10_init_60 rfl rfl ?_
  refine v_aload_n B dX10_init_61 rfl rfl ?_
  refine v_get B (k0 := 0) (C := RX10) (T := TX10) (N := 10) (ci := 10) hi_k_Server_X10 rfl rfl 2 (by decide +kernel) (List.mem_of_getElem? (i := 8) rfl) rfl dX10_init_62 ?_
  refine v_alen B (k0 := 1) (t0 := 4) (v := iI 20) rfl rfl (show Int32.ofNat 20 = iI 20 by decide +kernel) dX10_init_65 ?_
  refine v_icmp_ge B (tgt := 90) dX10_init_66 (by decide +kernel) (fun q => absurd q (by decide +kernel)) (fun _ => ?_)
  refine v_aload_n B dX10_init_69 rfl rfl ?_
  refine v_get B (k0 := 0) (C := RX10) (T := TX10) (N := 10) (ci := 10) hi_k_Server_X10 rfl rfl 2 (by decide +kernel) (List.mem_of_getElem? (i := 8) rfl) rfl dX10_init_70 ?_
  refine v_iload_n B dX10_init_73 rfl rfl ?_
  refine v_new B (C := RX9) (T := TX9) (N := 2) (ci := 9) (fs := [.null, .int (iI 0)]) hi_k_Server_X9 tyX9 tyX9_ok (List.mem_of_getElem? (i := 7) rfl) (List.mem_of_getElem? (i := 13) rfl) (List.mem_of_getElem? (i := 14) rfl) rfl (by decide +kernel) (by decide +kernel) (by decide +kernel) dX10_init_74 (fun q209 => ?_)
  show V _ _ _ _ _ _ _ _ _ _ _ _ _ _ (36, 718) (([(h, .inr (10, [.ref q1, .ref q9, .ref q17, .int (iI 0), .int (iI 23), .int (iI 23), .ref q19, .int (iI 0), .int (iI 0), .ref q21])), (q17, .inl (K 4, 20, .inr (.inr (.inr (.inr f207))))), (q19, .inl (K 4, 6, .inr (.inr (.inr (.inr (fun _ => none))))))] ++ fd dom200 σ201) ++ [(q209, .inr (9, [.null, .int (iI 0)]))]) _ _ [.ref q209, .int (iI 15), .ref q17]
  refine v_perm (pm1 [(h, .inr (10, [.ref q1, .ref q9, .ref q17, .int (iI 0), .int (iI 23), .int (iI 23), .ref q19, .int (iI 0), .int (iI 0), .ref q21])), (q17, .inl (K 4, 20, .inr (.inr (.inr (.inr f207))))), (q19, .inl (K 4, 6, .inr (.inr (.inr (.inr (fun _ => none))))))] (fd dom200 σ201) (q209, .inr (9, [.null, .int (iI 0)]))) ?_
  refine v_dup B dX10_init_77 rfl ?_
  refine v_bipush B (v := iI 40) dX10_init_78 (by decide +kernel) ?_
  refine v_callIv B (b := q209) (n := 1) (As := [.int (iI 40)]) (rest := [.ref q209, .int (iI 15), .ref q17]) (wc := (q209, .inr (9, [.null, .int (iI 0)])) :: fd dom200 σ201) (wr := [(h, .inr (10, [.ref q1, .ref q9, .ref q17, .int (iI 0), .int (iI 23), .int (iI 23), .ref q19, .int (iI 0), .int (iI 0), .ref q21])), (q17, .inl (K 4, 20, .inr (.inr (.inr (.inr f207))))), (q19, .inl (K 4, 6, .inr (.inr (.inr (.inr (fun _ => none))))))]) (k_Row l D K Z203 G204 q209 13 40 (iI 40) (by decide +kernel)) gd_k_Server_k_Row_37 rfl rfl rfl (by decide +kernel) ⟨by decide +kernel, by decide +kernel⟩ (List.mem_of_getElem? (i := 14) rfl) (List.mem_of_getElem? (i := 15) rfl) (List.mem_of_getElem? (i := 16) rfl) rfl (sp_app _ _) rfl rfl (Nat.le_of_ble_eq_true rfl) dX10_init_80 ⟨by decide +kernel, by decide +kernel⟩ (fun u210 hp211 => ?_)
  obtain ⟨dom212, σ213, τ214⟩ := u210
  obtain ⟨Z215, G216, t217, m218⟩ := hp211
  show V _ _ _ _ _ _ _ _ _ _ _ _ _ _ (37, 758) ([(h, .inr (10, [.ref q1, .ref q9, .ref q17, .int (iI 0), .int (iI 23), .int (iI 23), .ref q19, .int (iI 0), .int (iI 0), .ref q21])), (q17, .inl (K 4, 20, .inr (.inr (.inr (.inr f207))))), (q19, .inl (K 4, 6, .inr (.inr (.inr (.inr (fun _ => none))))))] ++ fd dom212 σ213) _ _ [.ref q209, .int (iI 15), .ref q17]
  refine v_aastT B Z215 (E := [(h, .inr (10, [.ref q1, .ref q9, .ref q17, .int (iI 0), .int (iI 23), .int (iI 23), .ref q19, .int (iI 0), .int (iI 0), .ref q21])), (q17, .inl (K 4, 20, .inr (.inr (.inr (.inr f207))))), (q19, .inl (K 4, 6, .inr (.inr (.inr (.inr (fun _ => none))))))]) (k0 := 1) (t0 := 4) (ci := 9) (rr := (RX9, TX9, 2)) (i := 15) (E' := [(h, .inr (10, [.ref q1, .ref q9, .ref q17, .int (iI 0), .int (iI 23), .int (iI 23), .ref q19, .int (iI 0), .int (iI 0), .ref q21])), (q17, .inl (K 4, 20, .inr (.inr (.inr (.inr (va_up f207 15 (some q209))))))), (q19, .inl (K 4, 6, .inr (.inr (.inr (.inr (fun _ => none))))))]) rfl rfl t217 (cls_Row G216 t217) rfl (vpi (by decide +kernel)) (by decide +kernel) rfl dX10_init_83 ?_
  have H220 := rows_step (i := 15) (r := q209) H208 m218 t217
  generalize va_up f207 15 (some q209) = f219 at H220 ⊢
  show V _ _ _ _ _ _ _ _ _ _ _ _ _ _ (37, 758) ([(h, .inr (10, [.ref q1, .ref q9, .ref q17, .int (iI 0), .int (iI 23), .int (iI 23), .ref q19, .int (iI 0), .int (iI 0), .ref q21])), (q17, .inl (K 4, 20, .inr (.inr (.inr (.inr f219))))), (q19, .inl (K 4, 6, .inr (.inr (.inr (.inr (fun _ => none))))))] ++ fd dom212 σ213) _ _ []
  refine v_iinc B (k := 0) (v := iI 16) (lv' := [(1, .int (iI 16)), (0, .ref h)]) dX10_init_84 rfl (by decide +kernel) (by decide +kernel) rfl ?_
  refine v_goto B (tgt := 60) dX10_init_87 (by decide +kernel) ?_
  refine v_iload_n B dX10_init_60 rfl rfl ?_
  refine v_aload_n B dX10_init_61 rfl rfl ?_
  refine v_get B (k0 := 0) (C := RX10) (T := TX10) (N := 10) (ci := 10) hi_k_Server_X10 rfl rfl 2 (by decide +kernel) (List.mem_of_getElem? (i := 8) rfl) rfl dX10_init_62 ?_
  refine v_alen B (k0 := 1) (t0 := 4) (v := iI 20) rfl rfl (show Int32.ofNat 20 = iI 20 by decide +kernel) dX10_init_65 ?_
  refine v_icmp_ge B (tgt := 90) dX10_init_66 (by decide +kernel) (fun q => absurd q (by decide +kernel)) (fun _ => ?_)
  refine v_aload_n B dX10_init_69 rfl rfl ?_
  refine v_get B (k0 := 0) (C := RX10) (T := TX10) (N := 10) (ci := 10) hi_k_Server_X10 rfl rfl 2 (by decide +kernel) (List.mem_of_getElem? (i := 8) rfl) rfl dX10_init_70 ?_
  refine v_iload_n B dX10_init_73 rfl rfl ?_
  refine v_new B (C := RX9) (T := TX9) (N := 2) (ci := 9) (fs := [.null, .int (iI 0)]) hi_k_Server_X9 tyX9 tyX9_ok (List.mem_of_getElem? (i := 7) rfl) (List.mem_of_getElem? (i := 13) rfl) (List.mem_of_getElem? (i := 14) rfl) rfl (by decide +kernel) (by decide +kernel) (by decide +kernel) dX10_init_74 (fun q221 => ?_)
  show V _ _ _ _ _ _ _ _ _ _ _ _ _ _ (38, 760) (([(h, .inr (10, [.ref q1, .ref q9, .ref q17, .int (iI 0), .int (iI 23), .int (iI 23), .ref q19, .int (iI 0), .int (iI 0), .ref q21])), (q17, .inl (K 4, 20, .inr (.inr (.inr (.inr f219))))), (q19, .inl (K 4, 6, .inr (.inr (.inr (.inr (fun _ => none))))))] ++ fd dom212 σ213) ++ [(q221, .inr (9, [.null, .int (iI 0)]))]) _ _ [.ref q221, .int (iI 16), .ref q17]
  refine v_perm (pm1 [(h, .inr (10, [.ref q1, .ref q9, .ref q17, .int (iI 0), .int (iI 23), .int (iI 23), .ref q19, .int (iI 0), .int (iI 0), .ref q21])), (q17, .inl (K 4, 20, .inr (.inr (.inr (.inr f219))))), (q19, .inl (K 4, 6, .inr (.inr (.inr (.inr (fun _ => none))))))] (fd dom212 σ213) (q221, .inr (9, [.null, .int (iI 0)]))) ?_
  refine v_dup B dX10_init_77 rfl ?_
  refine v_bipush B (v := iI 40) dX10_init_78 (by decide +kernel) ?_
  refine v_callIv B (b := q221) (n := 1) (As := [.int (iI 40)]) (rest := [.ref q221, .int (iI 16), .ref q17]) (wc := (q221, .inr (9, [.null, .int (iI 0)])) :: fd dom212 σ213) (wr := [(h, .inr (10, [.ref q1, .ref q9, .ref q17, .int (iI 0), .int (iI 23), .int (iI 23), .ref q19, .int (iI 0), .int (iI 0), .ref q21])), (q17, .inl (K 4, 20, .inr (.inr (.inr (.inr f219))))), (q19, .inl (K 4, 6, .inr (.inr (.inr (.inr (fun _ => none))))))]) (k_Row l D K Z215 G216 q221 13 40 (iI 40) (by decide +kernel)) gd_k_Server_k_Row_37 rfl rfl rfl (by decide +kernel) ⟨by decide +kernel, by decide +kernel⟩ (List.mem_of_getElem? (i := 14) rfl) (List.mem_of_getElem? (i := 15) rfl) (List.mem_of_getElem? (i := 16) rfl) rfl (sp_app _ _) rfl rfl (Nat.le_of_ble_eq_true rfl) dX10_init_80 ⟨by decide +kernel, by decide +kernel⟩ (fun u222 hp223 => ?_)
  obtain ⟨dom224, σ225, τ226⟩ := u222
  obtain ⟨Z227, G228, t229, m230⟩ := hp223
  show V _ _ _ _ _ _ _ _ _ _ _ _ _ _ (39, 800) ([(h, .inr (10, [.ref q1, .ref q9, .ref q17, .int (iI 0), .int (iI 23), .int (iI 23), .ref q19, .int (iI 0), .int (iI 0), .ref q21])), (q17, .inl (K 4, 20, .inr (.inr (.inr (.inr f219))))), (q19, .inl (K 4, 6, .inr (.inr (.inr (.inr (fun _ => none))))))] ++ fd dom224 σ225) _ _ [.ref q221, .int (iI 16), .ref q17]
  refine v_aastT B Z227 (E := [(h, .inr (10, [.ref q1, .ref q9, .ref q17, .int (iI 0), .int (iI 23), .int (iI 23), .ref q19, .int (iI 0), .int (iI 0), .ref q21])), (q17, .inl (K 4, 20, .inr (.inr (.inr (.inr f219))))), (q19, .inl (K 4, 6, .inr (.inr (.inr (.inr (fun _ => none))))))]) (k0 := 1) (t0 := 4) (ci := 9) (rr := (RX9, TX9, 2)) (i := 16) (E' := [(h, .inr (10, [.ref q1, .ref q9, .ref q17, .int (iI 0), .int (iI 23), .int (iI 23), .ref q19, .int (iI 0), .int (iI 0), .ref q21])), (q17, .inl (K 4, 20, .inr (.inr (.inr (.inr (va_up f219 16 (some q221))))))), (q19, .inl (K 4, 6, .inr (.inr (.inr (.inr (fun _ => none))))))]) rfl rfl t229 (cls_Row G228 t229) rfl (vpi (by decide +kernel)) (by decide +kernel) rfl dX10_init_83 ?_
  have H232 := rows_step (i := 16) (r := q221) H220 m230 t229
  generalize va_up f219 16 (some q221) = f231 at H232 ⊢
  show V _ _ _ _ _ _ _ _ _ _ _ _ _ _ (39, 800) ([(h, .inr (10, [.ref q1, .ref q9, .ref q17, .int (iI 0), .int (iI 23), .int (iI 23), .ref q19, .int (iI 0), .int (iI 0), .ref q21])), (q17, .inl (K 4, 20, .inr (.inr (.inr (.inr f231))))), (q19, .inl (K 4, 6, .inr (.inr (.inr (.inr (fun _ => none))))))] ++ fd dom224 σ225) _ _ []
  refine v_iinc B (k := 0) (v := iI 17) (lv' := [(1, .int (iI 17)), (0, .ref h)]) dX10_init_84 rfl (by decide +kernel) (by decide +kernel) rfl ?_
  refine v_goto B (tgt := 60) dX10_init_87 (by decide +kernel) ?_
  refine v_iload_n B dX10_init_60 rfl rfl ?_
  refine v_aload_n B dX10_init_61 rfl rfl ?_
  refine v_get B (k0 := 0) (C := RX10) (T := TX10) (N := 10) (ci := 10) hi_k_Server_X10 rfl rfl 2 (by decide +kernel) (List.mem_of_getElem? (i := 8) rfl) rfl dX10_init_62 ?_
  refine v_alen B (k0 := 1) (t0 := 4) (v := iI 20) rfl rfl (show Int32.ofNat 20 = iI 20 by decide +kernel) dX10_init_65 ?_
  refine v_icmp_ge B (tgt := 90) dX10_init_66 (by decide +kernel) (fun q => absurd q (by decide +kernel)) (fun _ => ?_)
  refine v_aload_n B dX10_init_69 rfl rfl ?_
  refine v_get B (k0 := 0) (C := RX10) (T := TX10) (N := 10) (ci := 10) hi_k_Server_X10 rfl rfl 2 (by decide +kernel) (List.mem_of_getElem? (i := 8) rfl) rfl dX10_init_70 ?_
  refine v_iload_n B dX10_init_73 rfl rfl ?_
  refine v_new B (C := RX9) (T := TX9) (N := 2) (ci := 9) (fs := [.null, .int (iI 0)]) hi_k_Server_X9 tyX9 tyX9_ok (List.mem_of_getElem? (i := 7) rfl) (List.mem_of_getElem? (i := 13) rfl) (List.mem_of_getElem? (i := 14) rfl) rfl (by decide +kernel) (by decide +kernel) (by decide +kernel) dX10_init_74 (fun q233 => ?_)
  show V _ _ _ _ _ _ _ _ _ _ _ _ _ _ (40, 802) (([(h, .inr (10, [.ref q1, .ref q9, .ref q17, .int (iI 0), .int (iI 23), .int (iI 23), .ref q19, .int (iI 0), .int (iI 0), .ref q21])), (q17, .inl (K 4, 20, .inr (.inr (.inr (.inr f231))))), (q19, .inl (K 4, 6, .inr (.inr (.inr (.inr (fun _ => none))))))] ++ fd dom224 σ225) ++ [(q233, .inr (9, [.null, .int (iI 0)]))]) _ _ [.ref q233, .int (iI 17), .ref q17]
  refine v_perm (pm1 [(h, .inr (10, [.ref q1, .ref q9, .ref q17, .int (iI 0), .int (iI 23), .int (iI 23), .ref q19, .int (iI 0), .int (iI 0), .ref q21])), (q17, .inl (K 4, 20, .inr (.inr (.inr (.inr f231))))), (q19, .inl (K 4, 6, .inr (.inr (.inr (.inr (fun _ => none))))))] (fd dom224 σ225) (q233, .inr (9, [.null, .int (iI 0)]))) ?_
  refine v_dup B dX10_init_77 rfl ?_
  refine v_bipush B (v := iI 40) dX10_init_78 (by decide +kernel) ?_
  refine v_callIv B (b := q233) (n := 1) (As := [.int (iI 40)]) (rest := [.ref q233, .int (iI 17), .ref q17]) (wc := (q233, .inr (9, [.null, .int (iI 0)])) :: fd dom224 σ225) (wr := [(h, .inr (10, [.ref q1, .ref q9, .ref q17, .int (iI 0), .int (iI 23), .int (iI 23), .ref q19, .int (iI 0), .int (iI 0), .ref q21])), (q17, .inl (K 4, 20, .inr (.inr (.inr (.inr f231))))), (q19, .inl (K 4, 6, .inr (.inr (.inr (.inr (fun _ => none))))))]) (k_Row l D K Z227 G228 q233 13 40 (iI 40) (by decide +kernel)) gd_k_Server_k_Row_37 rfl rfl rfl (by decide +kernel) ⟨by decide +kernel, by decide +kernel⟩ (List.mem_of_getElem? (i := 14) rfl) (List.mem_of_getElem? (i := 15) rfl) (List.mem_of_getElem? (i := 16) rfl) rfl (sp_app _ _) rfl rfl (Nat.le_of_ble_eq_true rfl) dX10_init_80 ⟨by decide +kernel, by decide +kernel⟩ (fun u234 hp235 => ?_)
  obtain ⟨dom236, σ237, τ238⟩ := u234
  obtain ⟨Z239, G240, t241, m242⟩ := hp235
  show V _ _ _ _ _ _ _ _ _ _ _ _ _ _ (41, 842) ([(h, .inr (10, [.ref q1, .ref q9, .ref q17, .int (iI 0), .int (iI 23), .int (iI 23), .ref q19, .int (iI 0), .int (iI 0), .ref q21])), (q17, .inl (K 4, 20, .inr (.inr (.inr (.inr f231))))), (q19, .inl (K 4, 6, .inr (.inr (.inr (.inr (fun _ => none))))))] ++ fd dom236 σ237) _ _ [.ref q233, .int (iI 17), .ref q17]
  refine v_aastT B Z239 (E := [(h, .inr (10, [.ref q1, .ref q9, .ref q17, .int (iI 0), .int (iI 23), .int (iI 23), .ref q19, .int (iI 0), .int (iI 0), .ref q21])), (q17, .inl (K 4, 20, .inr (.inr (.inr (.inr f231))))), (q19, .inl (K 4, 6, .inr (.inr (.inr (.inr (fun _ => none))))))]) (k0 := 1) (t0 := 4) (ci := 9) (rr := (RX9, TX9, 2)) (i := 17) (E' := [(h, .inr (10, [.ref q1, .ref q9, .ref q17, .int (iI 0), .int (iI 23), .int (iI 23), .ref q19, .int (iI 0), .int (iI 0), .ref q21])), (q17, .inl (K 4, 20, .inr (.inr (.inr (.inr (va_up f231 17 (some q233))))))), (q19, .inl (K 4, 6, .inr (.inr (.inr (.inr (fun _ => none))))))]) rfl rfl t241 (cls_Row G240 t241) rfl (vpi (by decide +kernel)) (by decide +kernel) rfl dX10_init_83 ?_
  have H244 := rows_step (i := 17) (r := q233) H232 m242 t241
  generalize va_up f231 17 (some q233) = f243 at H244 ⊢
  show V _ _ _ _ _ _ _ _ _ _ _ _ _ _ (41, 842) ([(h, .inr (10, [.ref q1, .ref q9, .ref q17, .int (iI 0), .int (iI 23), .int (iI 23), .ref q19, .int (iI 0), .int (iI 0), .ref q21])), (q17, .inl (K 4, 20, .inr (.inr (.inr (.inr f243))))), (q19, .inl (K 4, 6, .inr (.inr (.inr (.inr (fun _ => none))))))] ++ fd dom236 σ237) _ _ []
  refine v_iinc B (k := 0) (v := iI 18) (lv' := [(1, .int (iI 18)), (0, .ref h)]) dX10_init_84 rfl (by decide +kernel) (by decide +kernel) rfl ?_
  refine v_goto B (tgt := 60) dX10_init_87 (by decide +kernel) ?_
  refine v_iload_n B dX10_init_60 rfl rfl ?_
  refine v_aload_n B dX10_init_61 rfl rfl ?_
  refine v_get B (k0 := 0) (C := RX10) (T := TX10) (N := 10) (ci := 10) hi_k_Server_X10 rfl rfl 2 (by decide +kernel) (List.mem_of_getElem? (i := 8) rfl) rfl dX10_init_62 ?_
  refine v_alen B (k0 := 1) (t0 := 4) (v := iI 20) rfl rfl (show Int32.ofNat 20 = iI 20 by decide +kernel) dX10_init_65 ?_
  refine v_icmp_ge B (tgt := 90) dX10_init_66 (by decide +kernel) (fun q => absurd q (by decide +kernel)) (fun _ => ?_)
  refine v_aload_n B dX10_init_69 rfl rfl ?_
  refine v_get B (k0 := 0) (C := RX10) (T := TX10) (N := 10) (ci := 10) hi_k_Server_X10 rfl rfl 2 (by decide +kernel) (List.mem_of_getElem? (i := 8) rfl) rfl dX10_init_70 ?_
  refine v_iload_n B dX10_init_73 rfl rfl ?_
  refine v_new B (C := RX9) (T := TX9) (N := 2) (ci := 9) (fs := [.null, .int (iI 0)]) hi_k_Server_X9 tyX9 tyX9_ok (List.mem_of_getElem? (i := 7) rfl) (List.mem_of_getElem? (i := 13) rfl) (List.mem_of_getElem? (i := 14) rfl) rfl (by decide +kernel) (by decide +kernel) (by decide +kernel) dX10_init_74 (fun q245 => ?_)
  show V _ _ _ _ _ _ _ _ _ _ _ _ _ _ (42, 844) (([(h, .inr (10, [.ref q1, .ref q9, .ref q17, .int (iI 0), .int (iI 23), .int (iI 23), .ref q19, .int (iI 0), .int (iI 0), .ref q21])), (q17, .inl (K 4, 20, .inr (.inr (.inr (.inr f243))))), (q19, .inl (K 4, 6, .inr (.inr (.inr (.inr (fun _ => none))))))] ++ fd dom236 σ237) ++ [(q245, .inr (9, [.null, .int (iI 0)]))]) _ _ [.ref q245, .int (iI 18), .ref q17]
  refine v_perm (pm1 [(h, .inr (10, [.ref q1, .ref q9, .ref q17, .int (iI 0), .int (iI 23), .int (iI 23), .ref q19, .int (iI 0), .int (iI 0), .ref q21])), (q17, .inl (K 4, 20, .inr (.inr (.inr (.inr f243))))), (q19, .inl (K 4, 6, .inr (.inr (.inr (.inr (fun _ => none))))))] (fd dom236 σ237) (q245, .inr (9, [.null, .int (iI 0)]))) ?_
  refine v_dup B dX10_init_77 rfl ?_
  refine v_bipush B (v := iI 40) dX10_init_78 (by decide +kernel) ?_
  refine v_callIv B (b := q245) (n := 1) (As := [.int (iI 40)]) (rest := [.ref q245, .int (iI 18), .ref q17]) (wc := (q245, .inr (9, [.null, .int (iI 0)])) :: fd dom236 σ237) (wr := [(h, .inr (10, [.ref q1, .ref q9, .ref q17, .int (iI 0), .int (iI 23), .int (iI 23), .ref q19, .int (iI 0), .int (iI 0), .ref q21])), (q17, .inl (K 4, 20, .inr (.inr (.inr (.inr f243))))), (q19, .inl (K 4, 6, .inr (.inr (.inr (.inr (fun _ => none))))))]) (k_Row l D K Z239 G240 q245 13 40 (iI 40) (by decide +kernel)) gd_k_Server_k_Row_37 rfl rfl rfl (by decide +kernel) ⟨by decide +kernel, by decide +kernel⟩ (List.mem_of_getElem? (i := 14) rfl) (List.mem_of_getElem? (i := 15) rfl) (List.mem_of_getElem? (i := 16) rfl) rfl (sp_app _ _) rfl rfl (Nat.le_of_ble_eq_true rfl) dX10_init_80 ⟨by decide +kernel, by decide +kernel⟩ (fun u246 hp247 => ?_)
  obtain ⟨dom248, σ249, τ250⟩ := u246
  obtain ⟨Z251, G252, t253, m254⟩ := hp247
  show V _ _ _ _ _ _ _ _ _ _ _ _ _ _ (43, 884) ([(h, .inr (10, [.ref q1, .ref q9, .ref q17, .int (iI 0), .int (iI 23), .int (iI 23), .ref q19, .int (iI 0), .int (iI 0), .ref q21])), (q17, .inl (K 4, 20, .inr (.inr (.inr (.inr f243))))), (q19, .inl (K 4, 6, .inr (.inr (.inr (.inr (fun _ => none))))))] ++ fd dom248 σ249) _ _ [.ref q245, .int (iI 18), .ref q17]
  refine v_aastT B Z251 (E := [(h, .inr (10, [.ref q1, .ref q9, .ref q17, .int (iI 0), .int (iI 23), .int (iI 23), .ref q19, .int (iI 0), .int (iI 0), .ref q21])), (q17, .inl (K 4, 20, .inr (.inr (.inr (.inr f243))))), (q19, .inl (K 4, 6, .inr (.inr (.inr (.inr (fun _ => none))))))]) (k0 := 1) (t0 := 4) (ci := 9) (rr := (RX9, TX9, 2)) (i := 18) (E' := [(h, .inr (10, [.ref q1, .ref q9, .ref q17, .int (iI 0), .int (iI 23), .int (iI 23), .ref q19, .int (iI 0), .int (iI 0), .ref q21])), (q17, .inl (K 4, 20, .inr (.inr (.inr (.inr (va_up f243 18 (some q245))))))), (q19, .inl (K 4, 6, .inr (.inr (.inr (.inr (fun _ => none))))))]) rfl rfl t253 (cls_Row G252 t253) rfl (vpi (by decide +kernel)) (by decide +kernel) rfl dX10_init_83 ?_
  have H256 := rows_step (i := 18) (r := q245) H244 m254 t253
  generalize va_up f243 18 (some q245) = f255 at H256 ⊢
  show V _ _ _ _ _ _ _ _ _ _ _ _ _ _ (43, 884) ([(h, .inr (10, [.ref q1, .ref q9, .ref q17, .int (iI 0), .int (iI 23), .int (iI 23), .ref q19, .int (iI 0), .int (iI 0), .ref q21])), (q17, .inl (K 4, 20, .inr (.inr (.inr (.inr f255))))), (q19, .inl (K 4, 6, .inr (.inr (.inr (.inr (fun _ => none))))))] ++ fd dom248 σ249) _ _ []
  refine v_iinc B (k := 0) (v := iI 19) (lv' := [(1, .int (iI 19)), (0, .ref h)]) dX10_init_84 rfl (by decide +kernel) (by decide +kernel) rfl ?_
  refine v_goto B (tgt := 60) dX10_init_87 (by decide +kernel) ?_
  refine v_iload_n B dX10_init_60 rfl rfl ?_
  refine v_aload_n B dX10_init_61 rfl rfl ?_
  refine v_get B (k0 := 0) (C := RX10) (T := TX10) (N := 10) (ci := 10) hi_k_Server_X10 rfl rfl 2 (by decide +kernel) (List.mem_of_getElem? (i := 8) rfl) rfl dX10_init_62 ?_
  refine v_alen B (k0 := 1) (t0 := 4) (v := iI 20) rfl rfl (show Int32.ofNat 20 = iI 20 by decide +kernel) dX10_init_65 ?_
  refine v_icmp_ge B (tgt := 90) dX10_init_66 (by decide +kernel) (fun q => absurd q (by decide +kernel)) (fun _ => ?_)
  refine v_aload_n B dX10_init_69 rfl rfl ?_
  refine v_get B (k0 := 0) (C := RX10) (T := TX10) (N := 10) (ci := 10) hi_k_Server_X10 rfl rfl 2 (by decide +kernel) (List.mem_of_getElem? (i := 8) rfl) rfl dX10_init_70 ?_
  refine v_iload_n B dX10_init_73 rfl rfl ?_
  refine v_new B (C := RX9) (T := TX9) (N := 2) (ci := 9) (fs := [.null, .int (iI 0)]) hi_k_Server_X9 tyX9 tyX9_ok (List.mem_of_getElem? (i := 7) rfl) (List.mem_of_getElem? (i := 13) rfl) (List.mem_of_getElem? (i := 14) rfl) rfl (by decide +kernel) (by decide +kernel) (by decide +kernel) dX10_init_74 (fun q257 => ?_)
  show V _ _ _ _ _ _ _ _ _ _ _ _ _ _ (44, 886) (([(h, .inr (10, [.ref q1, .ref q9, .ref q17, .int (iI 0), .int (iI 23), .int (iI 23), .ref q19, .int (iI 0), .int (iI 0), .ref q21])), (q17, .inl (K 4, 20, .inr (.inr (.inr (.inr f255))))), (q19, .inl (K 4, 6, .inr (.inr (.inr (.inr (fun _ => none))))))] ++ fd dom248 σ249) ++ [(q257, .inr (9, [.null, .int (iI 0)]))]) _ _ [.ref q257, .int (iI 19), .ref q17]
  refine v_perm (pm1 [(h, .inr (10, [.ref q1, .ref q9, .ref q17, .int (iI 0), .int (iI 23), .int (iI 23), .ref q19, .int (iI 0), .int (iI 0), .ref q21])), (q17, .inl (K 4, 20, .inr (.inr (.inr (.inr f255))))), (q19, .inl (K 4, 6, .inr (.inr (.inr (.inr (fun _ => none))))))] (fd dom248 σ249) (q257, .inr (9, [.null, .int (iI 0)]))) ?_
  refine v_dup B dX10_init_77 rfl ?_
  refine v_bipush B (v := iI 40) dX10_init_78 (by decide +kernel) ?_
  refine v_callIv B (b := q257) (n := 1) (As := [.int (iI 40)]) (rest := [.ref q257, .int (iI 19), .ref q17]) (wc := (q257, .inr (9, [.null, .int (iI 0)])) :: fd dom248 σ249) (wr := [(h, .inr (10, [.ref q1, .ref q9, .ref q17, .int (iI 0), .int (iI 23), .int (iI 23), .ref q19, .int (iI 0), .int (iI 0), .ref q21])), (q17, .inl (K 4, 20, .inr (.inr (.inr (.inr f255))))), (q19, .inl (K 4, 6, .inr (.inr (.inr (.inr (fun _ => none))))))]) (k_Row l D K Z251 G252 q257 13 40 (iI 40) (by decide +kernel)) gd_k_Server_k_Row_37 rfl rfl rfl (by decide +kernel) ⟨by decide +kernel, by decide +kernel⟩ (List.mem_of_getElem? (i := 14) rfl) (List.mem_of_getElem? (i := 15) rfl) (List.mem_of_getElem? (i := 16) rfl) rfl (sp_app _ _) rfl rfl (Nat.le_of_ble_eq_true rfl) dX10_init_80 ⟨by decide +kernel, by decide +kernel⟩ (fun u258 hp259 => ?_)
  obtain ⟨dom260, σ261, τ262⟩ := u258
  obtain ⟨Z263, G264, t265, m266⟩ := hp259
  show V _ _ _ _ _ _ _ _ _ _ _ _ _ _ (45, 926) ([(h, .inr (10, [.ref q1, .ref q9, .ref q17, .int (iI 0), .int (iI 23), .int (iI 23), .ref q19, .int (iI 0), .int (iI 0), .ref q21])), (q17, .inl (K 4, 20, .inr (.inr (.inr (.inr f255))))), (q19, .inl (K 4, 6, .inr (.inr (.inr (.inr (fun _ => none))))))] ++ fd dom260 σ261) _ _ [.ref q257, .int (iI 19), .ref q17]
  refine v_aastT B Z263 (E := [(h, .inr (10, [.ref q1, .ref q9, .ref q17, .int (iI 0), .int (iI 23), .int (iI 23), .ref q19, .int (iI 0), .int (iI 0), .ref q21])), (q17, .inl (K 4, 20, .inr (.inr (.inr (.inr f255))))), (q19, .inl (K 4, 6, .inr (.inr (.inr (.inr (fun _ => none))))))]) (k0 := 1) (t0 := 4) (ci := 9) (rr := (RX9, TX9, 2)) (i := 19) (E' := [(h, .inr (10, [.ref q1, .ref q9, .ref q17, .int (iI 0), .int (iI 23), .int (iI 23), .ref q19, .int (iI 0), .int (iI 0), .ref q21])), (q17, .inl (K 4, 20, .inr (.inr (.inr (.inr (va_up f255 19 (some q257))))))), (q19, .inl (K 4, 6, .inr (.inr (.inr (.inr (fun _ => none))))))]) rfl rfl t265 (cls_Row G264 t265) rfl (vpi (by decide +kernel)) (by decide +kernel) rfl dX10_init_83 ?_
  have H268 := rows_step (i := 19) (r := q257) H256 m266 t265
  generalize va_up f255 19 (some q257) = f267 at H268 ⊢
  show V _ _ _ _ _ _ _ _ _ _ _ _ _ _ (45, 926) ([(h, .inr (10, [.ref q1, .ref q9, .ref q17, .int (iI 0), .int (iI 23), .int (iI 23), .ref q19, .int (iI 0), .int (iI 0), .ref q21])), (q17, .inl (K 4, 20, .inr (.inr (.inr (.inr f267))))), (q19, .inl (K 4, 6, .inr (.inr (.inr (.inr (fun _ => none))))))] ++ fd dom260 σ261) _ _ []
  refine v_iinc B (k := 0) (v := iI 20) (lv' := [(1, .int (iI 20)), (0, .ref h)]) dX10_init_84 rfl (by decide +kernel) (by decide +kernel) rfl ?_
  refine v_goto B (tgt := 60) dX10_init_87 (by decide +kernel) ?_
  refine v_iload_n B dX10_init_60 rfl rfl ?_
  refine v_aload_n B dX10_init_61 rfl rfl ?_
  refine v_get B (k0 := 0) (C := RX10) (T := TX10) (N := 10) (ci := 10) hi_k_Server_X10 rfl rfl 2 (by decide +kernel) (List.mem_of_getElem? (i := 8) rfl) rfl dX10_init_62 ?_
  refine v_alen B (k0 := 1) (t0 := 4) (v := iI 20) rfl rfl (show Int32.ofNat 20 = iI 20 by decide +kernel) dX10_init_65 ?_
  refine v_icmp_ge B (tgt := 90) dX10_init_66 (by decide +kernel) (fun _ => ?_) (fun q => absurd q (by decide +kernel))
  refine v_iconst B (v := iI 0) dX10_init_90 rfl ?_
  refine v_istore_n B (lv' := [(1, .int (iI 0)), (0, .ref h)]) dX10_init_91 rfl (by decide +kernel) rfl ?_
  refine v_iload_n B dX10_init_92 rfl rfl ?_
  refine v_aload_n B dX10_init_93 rfl rfl ?_
  refine v_get B (k0 := 0) (C := RX10) (T := TX10) (N := 10) (ci := 10) hi_k_Server_X10 rfl rfl 6 (by decide +kernel) (List.mem_of_getElem? (i := 11) rfl) rfl dX10_init_94 ?_
  refine v_alen B (k0 := 2) (t0 := 4) (v := iI 6) rfl rfl (show Int32.ofNat 6 = iI 6 by decide +kernel) dX10_init_97 ?_
  refine v_icmp_ge B (tgt := 122) dX10_init_98 (by decide +kernel) (fun q => absurd q (by decide +kernel)) (fun _ => ?_)
  refine v_aload_n B dX10_init_101 rfl rfl ?_
  refine v_get B (k0 := 0) (C := RX10) (T := TX10) (N := 10) (ci := 10) hi_k_Server_X10 rfl rfl 6 (by decide +kernel) (List.mem_of_getElem? (i := 11) rfl) rfl dX10_init_102 ?_
  refine v_iload_n B dX10_init_105 rfl rfl ?_
  refine v_new B (C := RX9) (T := TX9) (N := 2) (ci := 9) (fs := [.null, .int (iI 0)]) hi_k_Server_X9 tyX9 tyX9_ok (List.mem_of_getElem? (i := 7) rfl) (List.mem_of_getElem? (i := 13) rfl) (List.mem_of_getElem? (i := 14) rfl) rfl (by decide +kernel) (by decide +kernel) (by decide +kernel) dX10_init_106 (fun q269 => ?_)
  show V _ _ _ _ _ _ _ _ _ _ _ _ _ _ (46, 928) (([(h, .inr (10, [.ref q1, .ref q9, .ref q17, .int (iI 0), .int (iI 23), .int (iI 23), .ref q19, .int (iI 0), .int (iI 0), .ref q21])), (q17, .inl (K 4, 20, .inr (.inr (.inr (.inr f267))))), (q19, .inl (K 4, 6, .inr (.inr (.inr (.inr (fun _ => none))))))] ++ fd dom260 σ261) ++ [(q269, .inr (9, [.null, .int (iI 0)]))]) _ _ [.ref q269, .int (iI 0), .ref q19]
  refine v_perm (pm1 [(h, .inr (10, [.ref q1, .ref q9, .ref q17, .int (iI 0), .int (iI 23), .int (iI 23), .ref q19, .int (iI 0), .int (iI 0), .ref q21])), (q17, .inl (K 4, 20, .inr (.inr (.inr (.inr f267))))), (q19, .inl (K 4, 6, .inr (.inr (.inr (.inr (fun _ => none))))))] (fd dom260 σ261) (q269, .inr (9, [.null, .int (iI 0)]))) ?_
  refine v_dup B dX10_init_109 rfl ?_
  refine v_bipush B (v := iI 64) dX10_init_110 (by decide +kernel) ?_
  refine v_callIv B (b := q269) (n := 1) (As := [.int (iI 64)]) (rest := [.ref q269, .int (iI 0), .ref q19]) (wc := (q269, .inr (9, [.null, .int (iI 0)])) :: fd dom260 σ261) (wr := [(h, .inr (10, [.ref q1, .ref q9, .ref q17, .int (iI 0), .int (iI 23), .int (iI 23), .ref q19, .int (iI 0), .int (iI 0), .ref q21])), (q17, .inl (K 4, 20, .inr (.inr (.inr (.inr f267))))), (q19, .inl (K 4, 6, .inr (.inr (.inr (.inr (fun _ => none))))))]) (k_Row l D K Z263 G264 q269 14 64 (iI 64) (by decide +kernel)) gd_k_Server_k_Row_37 rfl rfl rfl (by decide +kernel) ⟨by decide +kernel, by decide +kernel⟩ (List.mem_of_getElem? (i := 14) rfl) (List.mem_of_getElem? (i := 15) rfl) (List.mem_of_getElem? (i := 16) rfl) rfl (sp_app _ _) rfl rfl (Nat.le_of_ble_eq_true rfl) dX10_init_112 ⟨by decide +kernel, by decide +kernel⟩ (fun u270 hp271 => ?_)
  obtain ⟨dom272, σ273, τ274⟩ := u270
  obtain ⟨Z275, G276, t277, m278⟩ := hp271
  show V _ _ _ _ _ _ _ _ _ _ _ _ _ _ (47, 992) ([(h, .inr (10, [.ref q1, .ref q9, .ref q17, .int (iI 0), .int (iI 23), .int (iI 23), .ref q19, .int (iI 0), .int (iI 0), .ref q21])), (q17, .inl (K 4, 20, .inr (.inr (.inr (.inr f267))))), (q19, .inl (K 4, 6, .inr (.inr (.inr (.inr (fun _ => none))))))] ++ fd dom272 σ273) _ _ [.ref q269, .int (iI 0), .ref q19]
  refine v_aastT B Z275 (E := [(h, .inr (10, [.ref q1, .ref q9, .ref q17, .int (iI 0), .int (iI 23), .int (iI 23), .ref q19, .int (iI 0), .int (iI 0), .ref q21])), (q17, .inl (K 4, 20, .inr (.inr (.inr (.inr f267))))), (q19, .inl (K 4, 6, .inr (.inr (.inr (.inr (fun _ => none))))))]) (k0 := 2) (t0 := 4) (ci := 9) (rr := (RX9, TX9, 2)) (i := 0) (E' := [(h, .inr (10, [.ref q1, .ref q9, .ref q17, .int (iI 0), .int (iI 23), .int (iI 23), .ref q19, .int (iI 0), .int (iI 0), .ref q21])), (q17, .inl (K 4, 20, .inr (.inr (.inr (.inr f267))))), (q19, .inl (K 4, 6, .inr (.inr (.inr (.inr (va_up (fun _ => none) 0 (some q269)))))))]) rfl rfl t277 (cls_Row G276 t277) rfl (vpi (by decide +kernel)) (by decide +kernel) rfl dX10_init_115 ?_
  have H280 := rows_step (i := 0) (r := q269) H20 (Sub.tr (Sub.tr (Sub.tr (Sub.tr (Sub.tr (Sub.tr (Sub.tr (Sub.tr (Sub.tr (Sub.tr (Sub.tr (Sub.tr (Sub.tr (Sub.tr (Sub.tr (Sub.tr (Sub.tr (Sub.tr (Sub.tr (Sub.tr (Sub.tr m28 m38) m50) m62) m74) m86) m98) m110) m122) m134) m146) m158) m170) m182) m194) m206) m218) m230) m242) m254) m266) m278) t277
  generalize va_up (fun _ => none) 0 (some q269) = f279 at H280 ⊢
  show V _ _ _ _ _ _ _ _ _ _ _ _ _ _ (47, 992) ([(h, .inr (10, [.ref q1, .ref q9, .ref q17, .int (iI 0), .int (iI 23), .int (iI 23), .ref q19, .int (iI 0), .int (iI 0), .ref q21])), (q17, .inl (K 4, 20, .inr (.inr (.inr (.inr f267))))), (q19, .inl (K 4, 6, .inr (.inr (.inr (.inr f279)))))] ++ fd dom272 σ273) _ _ []
  refine v_iinc B (k := 0) (v := iI 1) (lv' := [(1, .int (iI 1)), (0, .ref h)]) dX10_init_116 rfl (by decide +kernel) (by decide +kernel) rfl ?_
  refine v_goto B (tgt := 92) dX10_init_119 (by decide +kernel) ?_
  refine v_iload_n B dX10_init_92 rfl rfl ?_
  refine v_aload_n B dX10_init_93 rfl rfl ?_
  refine v_get B (k0 := 0) (C := RX10) (T := TX10) (N := 10) (ci := 10) hi_k_Server_X10 rfl rfl 6 (by decide +kernel) (List.mem_of_getElem? (i := 11) rfl) rfl dX10_init_94 ?_
  refine v_alen B (k0 := 2) (t0 := 4) (v := iI 6) rfl rfl (show Int32.ofNat 6 = iI 6 by decide +kernel) dX10_init_97 ?_
  refine v_icmp_ge B (tgt := 122) dX10_init_98 (by decide +kernel) (fun q => absurd q (by decide +kernel)) (fun _ => ?_)
  refine v_aload_n B dX10_init_101 rfl rfl ?_
  refine v_get B (k0 := 0) (C := RX10) (T := TX10) (N := 10) (ci := 10) hi_k_Server_X10 rfl rfl 6 (by decide +kernel) (List.mem_of_getElem? (i := 11) rfl) rfl dX10_init_102 ?_
  refine v_iload_n B dX10_init_105 rfl rfl ?_
  refine v_new B (C := RX9) (T := TX9) (N := 2) (ci := 9) (fs := [.null, .int (iI 0)]) hi_k_Server_X9 tyX9 tyX9_ok (List.mem_of_getElem? (i := 7) rfl) (List.mem_of_getElem? (i := 13) rfl) (List.mem_of_getElem? (i := 14) rfl) rfl (by decide +kernel) (by decide +kernel) (by decide +kernel) dX10_init_106 (fun q281 => ?_)
  show V _ _ _ _ _ _ _ _ _ _ _ _ _ _ (48, 994) (([(h, .inr (10, [.ref q1, .ref q9, .ref q17, .int (iI 0), .int (iI 23), .int (iI 23), .ref q19, .int (iI 0), .int (iI 0), .ref q21])), (q17, .inl (K 4, 20, .inr (.inr (.inr (.inr f267))))), (q19, .inl (K 4, 6, .inr (.inr (.inr (.inr f279)))))] ++ fd dom272 σ273) ++ [(q281, .inr (9, [.null, .int (iI 0)]))]) _ _ [.ref q281, .int (iI 1), .ref q19]
  refine v_perm (pm1 [(h, .inr (10, [.ref q1, .ref q9, .ref q17, .int (iI 0), .int (iI 23), .int (iI 23), .ref q19, .int (iI 0), .int (iI 0), .ref q21])), (q17, .inl (K 4, 20, .inr (.inr (.inr (.inr f267))))), (q19, .inl (K 4, 6, .inr (.inr (.inr (.inr f279)))))] (fd dom272 σ273) (q281, .inr (9, [.null, .int (iI 0)]))) ?_
  refine v_dup B dX10_init_109 rfl ?_
  refine v_bipush B (v := iI 64) dX10_init_110 (by decide +kernel) ?_
  refine v_callIv B (b := q281) (n := 1) (As := [.int (iI 64)]) (rest := [.ref q281, .int (iI 1), .ref q19]) (wc := (q281, .inr (9, [.null, .int (iI 0)])) :: fd dom272 σ273) (wr := [(h, .inr (10, [.ref q1, .ref q9, .ref q17, .int (iI 0), .int (iI 23), .int (iI 23), .ref q19, .int (iI 0), .int (iI 0), .ref q21])), (q17, .inl (K 4, 20, .inr (.inr (.inr (.inr f267))))), (q19, .inl (K 4, 6, .inr (.inr (.inr (.inr f279)))))]) (k_Row l D K Z275 G276 q281 14 64 (iI 64) (by decide +kernel)) gd_k_Server_k_Row_37 rfl rfl rfl (by decide +kernel) ⟨by decide +kernel, by decide +kernel⟩ (List.mem_of_getElem? (i := 14) rfl) (List.mem_of_getElem? (i := 15) rfl) (List.mem_of_getElem? (i := 16) rfl) rfl (sp_app _ _) rfl rfl (Nat.le_of_ble_eq_true rfl) dX10_init_112 ⟨by decide +kernel, by decide +kernel⟩ (fun u282 hp283 => ?_)
  obtain ⟨dom284, σ285, τ286⟩ := u282
  obtain ⟨Z287, G288, t289, m290⟩ := hp283
  show V _ _ _ _ _ _ _ _ _ _ _ _ _ _ (49, 1058) ([(h, .inr (10, [.ref q1, .ref q9, .ref q17, .int (iI 0), .int (iI 23), .int (iI 23), .ref q19, .int (iI 0), .int (iI 0), .ref q21])), (q17, .inl (K 4, 20, .inr (.inr (.inr (.inr f267))))), (q19, .inl (K 4, 6, .inr (.inr (.inr (.inr f279)))))] ++ fd dom284 σ285) _ _ [.ref q281, .int (iI 1), .ref q19]
  refine v_aastT B Z287 (E := [(h, .inr (10, [.ref q1, .ref q9, .ref q17, .int (iI 0), .int (iI 23), .int (iI 23), .ref q19, .int (iI 0), .int (iI 0), .ref q21])), (q17, .inl (K 4, 20, .inr (.inr (.inr (.inr f267))))), (q19, .inl (K 4, 6, .inr (.inr (.inr (.inr f279)))))]) (k0 := 2) (t0 := 4) (ci := 9) (rr := (RX9, TX9, 2)) (i := 1) (E' := [(h, .inr (10, [.ref q1, .ref q9, .ref q17, .int (iI 0), .int (iI 23), .int (iI 23), .ref q19, .int (iI 0), .int (iI 0), .ref q21])), (q17, .inl (K 4, 20, .inr (.inr (.inr (.inr f267))))), (q19, .inl (K 4, 6, .inr (.inr (.inr (.inr (va_up f279 1 (some q281)))))))]) rfl rfl t289 (cls_Row G288 t289) rfl (vpi (by decide +kernel)) (by decide +kernel) rfl dX10_init_115 ?_
  have H292 := rows_step (i := 1) (r := q281) H280 m290 t289
  generalize va_up f279 1 (some q281) = f291 at H292 ⊢
  show V _ _ _ _ _ _ _ _ _ _ _ _ _ _ (49, 1058) ([(h, .inr (10, [.ref q1, .ref q9, .ref q17, .int (iI 0), .int (iI 23), .int (iI 23), .ref q19, .int (iI 0), .int (iI 0), .ref q21])), (q17, .inl (K 4, 20, .inr (.inr (.inr (.inr f267))))), (q19, .inl (K 4, 6, .inr (.inr (.inr (.inr f291)))))] ++ fd dom284 σ285) _ _ []
  refine v_iinc B (k := 0) (v := iI 2) (lv' := [(1, .int (iI 2)), (0, .ref h)]) dX10_init_116 rfl (by decide +kernel) (by decide +kernel) rfl ?_
  refine v_goto B (tgt := 92) dX10_init_119 (by decide +kernel) ?_
  refine v_iload_n B dX10_init_92 rfl rfl ?_
  refine v_aload_n B dX10_init_93 rfl rfl ?_
  refine v_get B (k0 := 0) (C := RX10) (T := TX10) (N := 10) (ci := 10) hi_k_Server_X10 rfl rfl 6 (by decide +kernel) (List.mem_of_getElem? (i := 11) rfl) rfl dX10_init_94 ?_
  refine v_alen B (k0 := 2) (t0 := 4) (v := iI 6) rfl rfl (show Int32.ofNat 6 = iI 6 by decide +kernel) dX10_init_97 ?_
  refine v_icmp_ge B (tgt := 122) dX10_init_98 (by decide +kernel) (fun q => absurd q (by decide +kernel)) (fun _ => ?_)
  refine v_aload_n B dX10_init_101 rfl rfl ?_
  refine v_get B (k0 := 0) (C := RX10) (T := TX10) (N := 10) (ci := 10) hi_k_Server_X10 rfl rfl 6 (by decide +kernel) (List.mem_of_getElem? (i := 11) rfl) rfl dX10_init_102 ?_
  refine v_iload_n B dX10_init_105 rfl rfl ?_
  refine v_new B (C := RX9) (T := TX9) (N := 2) (ci := 9) (fs := [.null, .int (iI 0)]) hi_k_Server_X9 tyX9 tyX9_ok (List.mem_of_getElem? (i := 7) rfl) (List.mem_of_getElem? (i := 13) rfl) (List.mem_of_getElem? (i := 14) rfl) rfl (by decide +kernel) (by decide +kernel) (by decide +kernel) dX10_init_106 (fun q293 => ?_)
  show V _ _ _ _ _ _ _ _ _ _ _ _ _ _ (50, 1060) (([(h, .inr (10, [.ref q1, .ref q9, .ref q17, .int (iI 0), .int (iI 23), .int (iI 23), .ref q19, .int (iI 0), .int (iI 0), .ref q21])), (q17, .inl (K 4, 20, .inr (.inr (.inr (.inr f267))))), (q19, .inl (K 4, 6, .inr (.inr (.inr (.inr f291)))))] ++ fd dom284 σ285) ++ [(q293, .inr (9, [.null, .int (iI 0)]))]) _ _ [.ref q293, .int (iI 2), .ref q19]
  refine v_perm (pm1 [(h, .inr (10, [.ref q1, .ref q9, .ref q17, .int (iI 0), .int (iI 23), .int (iI 23), .ref q19, .int (iI 0), .int (iI 0), .ref q21])), (q17, .inl (K 4, 20, .inr (.inr (.inr (.inr f267))))), (q19, .inl (K 4, 6, .inr (.inr (.inr (.inr f291)))))] (fd dom284 σ285) (q293, .inr (9, [.null, .int (iI 0)]))) ?_
  refine v_dup B dX10_init_109 rfl ?_
  refine v_bipush B (v := iI 64) dX10_init_110 (by decide +kernel) ?_
  refine v_callIv B (b := q293) (n := 1) (As := [.int (iI 64)]) (rest := [.ref q293, .int (iI 2), .ref q19]) (wc := (q293, .inr (9, [.null, .int (iI 0)])) :: fd dom284 σ285) (wr := [(h, .inr (10, [.ref q1, .ref q9, .ref q17, .int (iI 0), .int (iI 23), .int (iI 23), .ref q19, .int (iI 0), .int (iI 0), .ref q21])), (q17, .inl (K 4, 20, .inr (.inr (.inr (.inr f267))))), (q19, .inl (K 4, 6, .inr (.inr (.inr (.inr f291)))))]) (k_Row l D K Z287 G288 q293 14 64 (iI 64) (by decide +kernel)) gd_k_Server_k_Row_37 rfl rfl rfl (by decide +kernel) ⟨by decide +kernel, by decide +kernel⟩ (List.mem_of_getElem? (i := 14) rfl) (List.mem_of_getElem? (i := 15) rfl) (List.mem_of_getElem? (i := 16) rfl) rfl (sp_app _ _) rfl rfl (Nat.le_of_ble_eq_true rfl) dX10_init_112 ⟨by decide +kernel, by decide +kernel⟩ (fun u294 hp295 => ?_)
  obtain ⟨dom296, σ297, τ298⟩ := u294
  obtain ⟨Z299, G300, t301, m302⟩ := hp295
  show V _ _ _ _ _ _ _ _ _ _ _ _ _ _ (51, 1124) ([(h, .inr (10, [.ref q1, .ref q9, .ref q17, .int (iI 0), .int (iI 23), .int (iI 23), .ref q19, .int (iI 0), .int (iI 0), .ref q21])), (q17, .inl (K 4, 20, .inr (.inr (.inr (.inr f267))))), (q19, .inl (K 4, 6, .inr (.inr (.inr (.inr f291)))))] ++ fd dom296 σ297) _ _ [.ref q293, .int (iI 2), .ref q19]
  refine v_aastT B Z299 (E := [(h, .inr (10, [.ref q1, .ref q9, .ref q17, .int (iI 0), .int (iI 23), .int (iI 23), .ref q19, .int (iI 0), .int (iI 0), .ref q21])), (q17, .inl (K 4, 20, .inr (.inr (.inr (.inr f267))))), (q19, .inl (K 4, 6, .inr (.inr (.inr (.inr f291)))))]) (k0 := 2) (t0 := 4) (ci := 9) (rr := (RX9, TX9, 2)) (i := 2) (E' := [(h, .inr (10, [.ref q1, .ref q9, .ref q17, .int (iI 0), .int (iI 23), .int (iI 23), .ref q19, .int (iI 0), .int (iI 0), .ref q21])), (q17, .inl (K 4, 20, .inr (.inr (.inr (.inr f267))))), (q19, .inl (K 4, 6, .inr (.inr (.inr (.inr (va_up f291 2 (some q293)))))))]) rfl rfl t301 (cls_Row G300 t301) rfl (vpi (by decide +kernel)) (by decide +kernel) rfl dX10_init_115 ?_
  have H304 := rows_step (i := 2) (r := q293) H292 m302 t301
  generalize va_up f291 2 (some q293) = f303 at H304 ⊢
  show V _ _ _ _ _ _ _ _ _ _ _ _ _ _ (51, 1124) ([(h, .inr (10, [.ref q1, .ref q9, .ref q17, .int (iI 0), .int (iI 23), .int (iI 23), .ref q19, .int (iI 0), .int (iI 0), .ref q21])), (q17, .inl (K 4, 20, .inr (.inr (.inr (.inr f267))))), (q19, .inl (K 4, 6, .inr (.inr (.inr (.inr f303)))))] ++ fd dom296 σ297) _ _ []
  refine v_iinc B (k := 0) (v := iI 3) (lv' := [(1, .int (iI 3)), (0, .ref h)]) dX10_init_116 rfl (by decide +kernel) (by decide +kernel) rfl ?_
  refine v_goto B (tgt := 92) dX10_init_119 (by decide +kernel) ?_
  refine v_iload_n B dX10_init_92 rfl rfl ?_
  refine v_aload_n B dX10_init_93 rfl rfl ?_
  refine v_get B (k0 := 0) (C := RX10) (T := TX10) (N := 10) (ci := 10) hi_k_Server_X10 rfl rfl 6 (by decide +kernel) (List.mem_of_getElem? (i := 11) rfl) rfl dX10_init_94 ?_
  refine v_alen B (k0 := 2) (t0 := 4) (v := iI 6) rfl rfl (show Int32.ofNat 6 = iI 6 by decide +kernel) dX10_init_97 ?_
  refine v_icmp_ge B (tgt := 122) dX10_init_98 (by decide +kernel) (fun q => absurd q (by decide +kernel)) (fun _ => ?_)
  refine v_aload_n B dX10_init_101 rfl rfl ?_
  refine v_get B (k0 := 0) (C := RX10) (T := TX10) (N := 10) (ci := 10) hi_k_Server_X10 rfl rfl 6 (by decide +kernel) (List.mem_of_getElem? (i := 11) rfl) rfl dX10_init_102 ?_
  refine v_iload_n B dX10_init_105 rfl rfl ?_
  refine v_new B (C := RX9) (T := TX9) (N := 2) (ci := 9) (fs := [.null, .int (iI 0)]) hi_k_Server_X9 tyX9 tyX9_ok (List.mem_of_getElem? (i := 7) rfl) (List.mem_of_getElem? (i := 13) rfl) (List.mem_of_getElem? (i := 14) rfl) rfl (by decide +kernel) (by decide +kernel) (by decide +kernel) dX10_init_106 (fun q305 => ?_)
  show V _ _ _ _ _ _ _ _ _ _ _ _ _ _ (52, 1126) (([(h, .inr (10, [.ref q1, .ref q9, .ref q17, .int (iI 0), .int (iI 23), .int (iI 23), .ref q19, .int (iI 0), .int (iI 0), .ref q21])), (q17, .inl (K 4, 20, .inr (.inr (.inr (.inr f267))))), (q19, .inl (K 4, 6, .inr (.inr (.inr (.inr f303)))))] ++ fd dom296 σ297) ++ [(q305, .inr (9, [.null, .int (iI 0)]))]) _ _ [.ref q305, .int (iI 3), .ref q19]
  refine v_perm (pm1 [(h, .inr (10, [.ref q1, .ref q9, .ref q17, .int (iI 0), .int (iI 23), .int (iI 23), .ref q19, .int (iI 0), .int (iI 0), .ref q21])), (q17, .inl (K 4, 20, .inr (.inr (.inr (.inr f267))))), (q19, .inl (K 4, 6, .inr (.inr (.inr (.inr f303)))))] (fd dom296 σ297) (q305, .inr (9, [.null, .int (iI 0)]))) ?_
  refine v_dup B dX10_init_109 rfl ?_
  refine v_bipush B (v := iI 64) dX10_init_110 (by decide +kernel) ?_
  refine v_callIv B (b := q305) (n := 1) (As := [.int (iI 64)]) (rest := [.ref q305, .int (iI 3), .ref q19]) (wc := (q305, .inr (9, [.null, .int (iI 0)])) :: fd dom296 σ297) (wr := [(h, .inr (10, [.ref q1, .ref q9, .ref q17, .int (iI 0), .int (iI 23), .int (iI 23), .ref q19, .int (iI 0), .int (iI 0), .ref q21])), (q17, .inl (K 4, 20, .inr (.inr (.inr (.inr f267))))), (q19, .inl (K 4, 6, .inr (.inr (.inr (.inr f303)))))]) (k_Row l D K Z299 G300 q305 14 64 (iI 64) (by decide +kernel)) gd_k_Server_k_Row_37 rfl rfl rfl (by decide +kernel) ⟨by decide +kernel, by decide +kernel⟩ (List.mem_of_getElem? (i := 14) rfl) (List.mem_of_getElem? (i := 15) rfl) (List.mem_of_getElem? (i := 16) rfl) rfl (sp_app _ _) rfl rfl (Nat.le_of_ble_eq_true rfl) dX10_init_112 ⟨by decide +kernel, by decide +kernel⟩ (fun u306 hp307 => ?_)
  obtain ⟨dom308, σ309, τ310⟩ := u306
  obtain ⟨Z311, G312, t313, m314⟩ := hp307
  show V _ _ _ _ _ _ _ _ _ _ _ _ _ _ (53, 1190) ([(h, .inr (10, [.ref q1, .ref q9, .ref q17, .int (iI 0), .int (iI 23), .int (iI 23), .ref q19, .int (iI 0), .int (iI 0), .ref q21])), (q17, .inl (K 4, 20, .inr (.inr (.inr (.inr f267))))), (q19, .inl (K 4, 6, .inr (.inr (.inr (.inr f303)))))] ++ fd dom308 σ309) _ _ [.ref q305, .int (iI 3), .ref q19]
  refine v_aastT B Z311 (E := [(h, .inr (10, [.ref q1, .ref q9, .ref q17, .int (iI 0), .int (iI 23), .int (iI 23), .ref q19, .int (iI 0), .int (iI 0), .ref q21])), (q17, .inl (K 4, 20, .inr (.inr (.inr (.inr f267))))), (q19, .inl (K 4, 6, .inr (.inr (.inr (.inr f303)))))]) (k0 := 2) (t0 := 4) (ci := 9) (rr := (RX9, TX9, 2)) (i := 3) (E' := [(h, .inr (10, [.ref q1, .ref q9, .ref q17, .int (iI 0), .int (iI 23), .int (iI 23), .ref q19, .int (iI 0), .int (iI 0), .ref q21])), (q17, .inl (K 4, 20, .inr (.inr (.inr (.inr f267))))), (q19, .inl (K 4, 6, .inr (.inr (.inr (.inr (va_up f303 3 (some q305)))))))]) rfl rfl t313 (cls_Row G312 t313) rfl (vpi (by decide +kernel)) (by decide +kernel) rfl dX10_init_115 ?_
  have H316 := rows_step (i := 3) (r := q305) H304 m314 t313
  generalize va_up f303 3 (some q305) = f315 at H316 ⊢
  show V _ _ _ _ _ _ _ _ _ _ _ _ _ _ (53, 1190) ([(h, .inr (10, [.ref q1, .ref q9, .ref q17, .int (iI 0), .int (iI 23), .int (iI 23), .ref q19, .int (iI 0), .int (iI 0), .ref q21])), (q17, .inl (K 4, 20, .inr (.inr (.inr (.inr f267))))), (q19, .inl (K 4, 6, .inr (.inr (.inr (.inr f315)))))] ++ fd dom308 σ309) _ _ []
  refine v_iinc B (k := 0) (v := iI 4) (lv' := [(1, .int (iI 4)), (0, .ref h)]) dX10_init_116 rfl (by decide +kernel) (by decide +kernel) rfl ?_
  refine v_goto B (tgt := 92) dX10_init_119 (by decide +kernel) ?_
  refine v_iload_n B dX10_init_92 rfl rfl ?_
  refine v_aload_n B dX10_init_93 rfl rfl ?_
  refine v_get B (k0 := 0) (C := RX10) (T := TX10) (N := 10) (ci := 10) hi_k_Server_X10 rfl rfl 6 (by decide +kernel) (List.mem_of_getElem? (i := 11) rfl) rfl dX10_init_94 ?_
  refine v_alen B (k0 := 2) (t0 := 4) (v := iI 6) rfl rfl (show Int32.ofNat 6 = iI 6 by decide +kernel) dX10_init_97 ?_
  refine v_icmp_ge B (tgt := 122) dX10_init_98 (by decide +kernel) (fun q => absurd q (by decide +kernel)) (fun _ => ?_)
  refine v_aload_n B dX10_init_101 rfl rfl ?_
  refine v_get B (k0 := 0) (C := RX10) (T := TX10) (N := 10) (ci := 10) hi_k_Server_X10 rfl rfl 6 (by decide +kernel) (List.mem_of_getElem? (i := 11) rfl) rfl dX10_init_102 ?_
  refine v_iload_n B dX10_init_105 rfl rfl ?_
  refine v_new B (C := RX9) (T := TX9) (N := 2) (ci := 9) (fs := [.null, .int (iI 0)]) hi_k_Server_X9 tyX9 tyX9_ok (List.mem_of_getElem? (i := 7) rfl) (List.mem_of_getElem? (i := 13) rfl) (List.mem_of_getElem? (i := 14) rfl) rfl (by decide +kernel) (by decide +kernel) (by decide +kernel) dX10_init_106 (fun q317 => ?_)
  show V _ _ _ _ _ _ _ _ _ _ _ _ _ _ (54, 1192) (([(h, .inr (10, [.ref q1, .ref q9, .ref q17, .int (iI 0), .int (iI 23), .int (iI 23), .ref q19, .int (iI 0), .int (iI 0), .ref q21])), (q17, .inl (K 4, 20, .inr (.inr (.inr (.inr f267))))), (q19, .inl (K 4, 6, .inr (.inr (.inr (.inr f315)))))] ++ fd dom308 σ309) ++ [(q317, .inr (9, [.null, .int (iI 0)]))]) _ _ [.ref q317, .int (iI 4), .ref q19]
  refine v_perm (pm1 [(h, .inr (10, [.ref q1, .ref q9, .ref q17, .int (iI 0), .int (iI 23), .int (iI 23), .ref q19, .int (iI 0), .int (iI 0), .ref q21])), (q17, .inl (K 4, 20, .inr (.inr (.inr (.inr f267))))), (q19, .inl (K 4, 6, .inr (.inr (.inr (.inr f315)))))] (fd dom308 σ309) (q317, .inr (9, [.null, .int (iI 0)]))) ?_
  refine v_dup B dX10_init_109 rfl ?_
  refine v_bipush B (v := iI 64) dX10_init_110 (by decide +kernel) ?_
  refine v_callIv B (b := q317) (n := 1) (As := [.int (iI 64)]) (rest := [.ref q317, .int (iI 4), .ref q19]) (wc := (q317, .inr (9, [.null, .int (iI 0)])) :: fd dom308 σ309) (wr := [(h, .inr (10, [.ref q1, .ref q9, .ref q17, .int (iI 0), .int (iI 23), .int (iI 23), .ref q19, .int (iI 0), .int (iI 0), .ref q21])), (q17, .inl (K 4, 20, .inr (.inr (.inr (.inr f267))))), (q19, .inl (K 4, 6, .inr (.inr (.inr (.inr f315)))))]) (k_Row l D K Z311 G312 q317 14 64 (iI 64) (by decide +kernel)) gd_k_Server_k_Row_37 rfl rfl rfl (by decide +kernel) ⟨by decide +kernel, by decide +kernel⟩ (List.mem_of_getElem? (i := 14) rfl) (List.mem_of_getElem? (i := 15) rfl) (List.mem_of_getElem? (i := 16) rfl) rfl (sp_app _ _) rfl rfl (Nat.le_of_ble_eq_true rfl) dX10_init_112 ⟨by decide +kernel, by decide +kernel⟩ (fun u318 hp319 => ?_)
  obtain ⟨dom320, σ321, τ322⟩ := u318
  obtain ⟨Z323, G324, t325, m326⟩ := hp319
  show V _ _ _ _ _ _ _ _ _ _ _ _ _ _ (55, 1256) ([(h, .inr (10, [.ref q1, .ref q9, .ref q17, .int (iI 0), .int (iI 23), .int (iI 23), .ref q19, .int (iI 0), .int (iI 0), .ref q21])), (q17, .inl (K 4, 20, .inr (.inr (.inr (.inr f267))))), (q19, .inl (K 4, 6, .inr (.inr (.inr (.inr f315)))))] ++ fd dom320 σ321) _ _ [.ref q317, .int (iI 4), .ref q19]
  refine v_aastT B Z323 (E := [(h, .inr (10, [.ref q1, .ref q9, .ref q17, .int (iI 0), .int (iI 23), .int (iI 23), .ref q19, .int (iI 0), .int (iI 0), .ref q21])), (q17, .inl (K 4, 20, .inr (.inr (.inr (.inr f267))))), (q19, .inl (K 4, 6, .inr (.inr (.inr (.inr f315)))))]) (k0 := 2) (t0 := 4) (ci := 9) (rr := (RX9, TX9, 2)) (i := 4) (E' := [(h, .inr (10, [.ref q1, .ref q9, .ref q17, .int (iI 0), .int (iI 23), .int (iI 23), .ref q19, .int (iI 0), .int (iI 0), .ref q21])), (q17, .inl (K 4, 20, .inr (.inr (.inr (.inr f267))))), (q19, .inl (K 4, 6, .inr (.inr (.inr (.inr (va_up f315 4 (some q317)))))))]) rfl rfl t325 (cls_Row G324 t325) rfl (vpi (by decide +kernel)) (by decide +kernel) rfl dX10_init_115 ?_
  have H328 := rows_step (i := 4) (r := q317) H316 m326 t325
  generalize va_up f315 4 (some q317) = f327 at H328 ⊢
  show V _ _ _ _ _ _ _ _ _ _ _ _ _ _ (55, 1256) ([(h, .inr (10, [.ref q1, .ref q9, .ref q17, .int (iI 0), .int (iI 23), .int (iI 23), .ref q19, .int (iI 0), .int (iI 0), .ref q21])), (q17, .inl (K 4, 20, .inr (.inr (.inr (.inr f267))))), (q19, .inl (K 4, 6, .inr (.inr (.inr (.inr f327)))))] ++ fd dom320 σ321) _ _ []
  refine v_iinc B (k := 0) (v := iI 5) (lv' := [(1, .int (iI 5)), (0, .ref h)]) dX10_init_116 rfl (by decide +kernel) (by decide +kernel) rfl ?_
  refine v_goto B (tgt := 92) dX10_init_119 (by decide +kernel) ?_
  refine v_iload_n B dX10_init_92 rfl rfl ?_
  refine v_aload_n B dX10_init_93 rfl rfl ?_
  refine v_get B (k0 := 0) (C := RX10) (T := TX10) (N := 10) (ci := 10) hi_k_Server_X10 rfl rfl 6 (by decide +kernel) (List.mem_of_getElem? (i := 11) rfl) rfl dX10_init_94 ?_
  refine v_alen B (k0 := 2) (t0 := 4) (v := iI 6) rfl rfl (show Int32.ofNat 6 = iI 6 by decide +kernel) dX10_init_97 ?_
  refine v_icmp_ge B (tgt := 122) dX10_init_98 (by decide +kernel) (fun q => absurd q (by decide +kernel)) (fun _ => ?_)
  refine v_aload_n B dX10_init_101 rfl rfl ?_
  refine v_get B (k0 := 0) (C := RX10) (T := TX10) (N := 10) (ci := 10) hi_k_Server_X10 rfl rfl 6 (by decide +kernel) (List.mem_of_getElem? (i := 11) rfl) rfl dX10_init_102 ?_
  refine v_iload_n B dX10_init_105 rfl rfl ?_
  refine v_new B (C := RX9) (T := TX9) (N := 2) (ci := 9) (fs := [.null, .int (iI 0)]) hi_k_Server_X9 tyX9 tyX9_ok (List.mem_of_getElem? (i := 7) rfl) (List.mem_of_getElem? (i := 13) rfl) (List.mem_of_getElem? (i := 14) rfl) rfl (by decide +kernel) (by decide +kernel) (by decide +kernel) dX10_init_106 (fun q329 => ?_)
  show V _ _ _ _ _ _ _ _ _ _ _ _ _ _ (56, 1258) (([(h, .inr (10, [.ref q1, .ref q9, .ref q17, .int (iI 0), .int (iI 23), .int (iI 23), .ref q19, .int (iI 0), .int (iI 0), .ref q21])), (q17, .inl (K 4, 20, .inr (.inr (.inr (.inr f267))))), (q19, .inl (K 4, 6, .inr (.inr (.inr (.inr f327)))))] ++ fd dom320 σ321) ++ [(q329, .inr (9, [.null, .int (iI 0)]))]) _ _ [.ref q329, .int (iI 5), .ref q19]
  refine v_perm (pm1 [(h, .inr (10, [.ref q1, .ref q9, .ref q17, .int (iI 0), .int (iI 23), .int (iI 23), .ref q19, .int (iI 0), .int (iI 0), .ref q21])), (q17, .inl (K 4, 20, .inr (.inr (.inr (.inr f267))))), (q19, .inl (K 4, 6, .inr (.inr (.inr (.inr f327)))))] (fd dom320 σ321) (q329, .inr (9, [.null, .int (iI 0)]))) ?_
  refine v_dup B dX10_init_109 rfl ?_
  refine v_bipush B (v := iI 64) dX10_init_110 (by decide +kernel) ?_
  refine v_callIv B (b := q329) (n := 1) (As := [.int (iI 64)]) (rest := [.ref q329, .int (iI 5), .ref q19]) (wc := (q329, .inr (9, [.null, .int (iI 0)])) :: fd dom320 σ321) (wr := [(h, .inr (10, [.ref q1, .ref q9, .ref q17, .int (iI 0), .int (iI 23), .int (iI 23), .ref q19, .int (iI 0), .int (iI 0), .ref q21])), (q17, .inl (K 4, 20, .inr (.inr (.inr (.inr f267))))), (q19, .inl (K 4, 6, .inr (.inr (.inr (.inr f327)))))]) (k_Row l D K Z323 G324 q329 14 64 (iI 64) (by decide +kernel)) gd_k_Server_k_Row_37 rfl rfl rfl (by decide +kernel) ⟨by decide +kernel, by decide +kernel⟩ (List.mem_of_getElem? (i := 14) rfl) (List.mem_of_getElem? (i := 15) rfl) (List.mem_of_getElem? (i := 16) rfl) rfl (sp_app _ _) rfl rfl (Nat.le_of_ble_eq_true rfl) dX10_init_112 ⟨by decide +kernel, by decide +kernel⟩ (fun u330 hp331 => ?_)
  obtain ⟨dom332, σ333, τ334⟩ := u330
  obtain ⟨Z335, G336, t337, m338⟩ := hp331
  show V _ _ _ _ _ _ _ _ _ _ _ _ _ _ (57, 1322) ([(h, .inr (10, [.ref q1, .ref q9, .ref q17, .int (iI 0), .int (iI 23), .int (iI 23), .ref q19, .int (iI 0), .int (iI 0), .ref q21])), (q17, .inl (K 4, 20, .inr (.inr (.inr (.inr f267))))), (q19, .inl (K 4, 6, .inr (.inr (.inr (.inr f327)))))] ++ fd dom332 σ333) _ _ [.ref q329, .int (iI 5), .ref q19]
  refine v_aastT B Z335 (E := [(h, .inr (10, [.ref q1, .ref q9, .ref q17, .int (iI 0), .int (iI 23), .int (iI 23), .ref q19, .int (iI 0), .int (iI 0), .ref q21])), (q17, .inl (K 4, 20, .inr (.inr (.inr (.inr f267))))), (q19, .inl (K 4, 6, .inr (.inr (.inr (.inr f327)))))]) (k0 := 2) (t0 := 4) (ci := 9) (rr := (RX9, TX9, 2)) (i := 5) (E' := [(h, .inr (10, [.ref q1, .ref q9, .ref q17, .int (iI 0), .int (iI 23), .int (iI 23), .ref q19, .int (iI 0), .int (iI 0), .ref q21])), (q17, .inl (K 4, 20, .inr (.inr (.inr (.inr f267))))), (q19, .inl (K 4, 6, .inr (.inr (.inr (.inr (va_up f327 5 (some q329)))))))]) rfl rfl t337 (cls_Row G336 t337) rfl (vpi (by decide +kernel)) (by decide +kernel) rfl dX10_init_115 ?_
  have H340 := rows_step (i := 5) (r := q329) H328 m338 t337
  generalize va_up f327 5 (some q329) = f339 at H340 ⊢
  show V _ _ _ _ _ _ _ _ _ _ _ _ _ _ (57, 1322) ([(h, .inr (10, [.ref q1, .ref q9, .ref q17, .int (iI 0), .int (iI 23), .int (iI 23), .ref q19, .int (iI 0), .int (iI 0), .ref q21])), (q17, .inl (K 4, 20, .inr (.inr (.inr (.inr f267))))), (q19, .inl (K 4, 6, .inr (.inr (.inr (.inr f339)))))] ++ fd dom332 σ333) _ _ []
  refine v_iinc B (k := 0) (v := iI 6) (lv' := [(1, .int (iI 6)), (0, .ref h)]) dX10_init_116 rfl (by decide +kernel) (by decide +kernel) rfl ?_
  refine v_goto B (tgt := 92) dX10_init_119 (by decide +kernel) ?_
  refine v_iload_n B dX10_init_92 rfl rfl ?_
  refine v_aload_n B dX10_init_93 rfl rfl ?_
  refine v_get B (k0 := 0) (C := RX10) (T := TX10) (N := 10) (ci := 10) hi_k_Server_X10 rfl rfl 6 (by decide +kernel) (List.mem_of_getElem? (i := 11) rfl) rfl dX10_init_94 ?_
  refine v_alen B (k0 := 2) (t0 := 4) (v := iI 6) rfl rfl (show Int32.ofNat 6 = iI 6 by decide +kernel) dX10_init_97 ?_
  refine v_icmp_ge B (tgt := 122) dX10_init_98 (by decide +kernel) (fun _ => ?_) (fun q => absurd q (by decide +kernel))
  refine v_perm (pm3 [(h, .inr (10, [.ref q1, .ref q9, .ref q17, .int (iI 0), .int (iI 23), .int (iI 23), .ref q19, .int (iI 0), .int (iI 0), .ref q21]))] [(q19, .inl (K 4, 6, .inr (.inr (.inr (.inr f339)))))] (fd dom332 σ333) (q17, .inl (K 4, 20, .inr (.inr (.inr (.inr f267)))))) ?_
  show V _ _ _ _ _ _ _ _ _ _ _ _ _ _ (57, 1322) ([(h, .inr (10, [.ref q1, .ref q9, .ref q17, .int (iI 0), .int (iI 23), .int (iI 23), .ref q19, .int (iI 0), .int (iI 0), .ref q21])), (q19, .inl (K 4, 6, .inr (.inr (.inr (.inr f339)))))] ++ ((q17, .inl (K 4, 20, .inr (.inr (.inr (.inr f267))))) :: fd dom332 σ333)) _ _ []
  refine v_absorb (E := [(h, .inr (10, [.ref q1, .ref q9, .ref q17, .int (iI 0), .int (iI 23), .int (iI 23), .ref q19, .int (iI 0), .int (iI 0), .ref q21])), (q19, .inl (K 4, 6, .inr (.inr (.inr (.inr f339)))))]) (q := q17) (e0 := .inl (K 4, 20, .inr (.inr (.inr (.inr f267))))) (t := (5, 13, 20)) Z335 G336 (fun τ9 s9 _ => ⟨_, rfl, rows_sub H268 (Sub.tr (Sub.tr (Sub.tr (Sub.tr (Sub.tr (Sub.tr m278 m290) m302) m314) m326) m338) s9)⟩) (fun dom341 σ342 τ343 Z344 G345 t346 m347 => ?_)
  show V _ _ _ _ _ _ _ _ _ _ _ _ _ _ (57, 1322) ([(h, .inr (10, [.ref q1, .ref q9, .ref q17, .int (iI 0), .int (iI 23), .int (iI 23), .ref q19, .int (iI 0), .int (iI 0), .ref q21])), (q19, .inl (K 4, 6, .inr (.inr (.inr (.inr f339)))))] ++ fd dom341 σ342) _ _ []
  refine v_perm (pm3 [(h, .inr (10, [.ref q1, .ref q9, .ref q17, .int (iI 0), .int (iI 23), .int (iI 23), .ref q19, .int (iI 0), .int (iI 0), .ref q21]))] [] (fd dom341 σ342) (q19, .inl (K 4, 6, .inr (.inr (.inr (.inr f339)))))) ?_
  show V _ _ _ _ _ _ _ _ _ _ _ _ _ _ (57, 1322) ([(h, .inr (10, [.ref q1, .ref q9, .ref q17, .int (iI 0), .int (iI 23), .int (iI 23), .ref q19, .int (iI 0), .int (iI 0), .ref q21]))] ++ ((q19, .inl (K 4, 6, .inr (.inr (.inr (.inr f339))))) :: fd dom341 σ342)) _ _ []
  refine v_absorb (E := [(h, .inr (10, [.ref q1, .ref q9, .ref q17, .int (iI 0), .int (iI 23), .int (iI 23), .ref q19, .int (iI 0), .int (iI 0), .ref q21]))]) (q := q19) (e0 := .inl (K 4, 6, .inr (.inr (.inr (.inr f339))))) (t := (5, 14, 6)) Z344 G345 (fun τ9 s9 _ => ⟨_, rfl, rows_sub H340 (Sub.tr m347 s9)⟩) (fun dom348 σ349 τ350 Z351 G352 t353 m354 => ?_)
  show V _ _ _ _ _ _ _ _ _ _ _ _ _ _ (57, 1322) ([(h, .inr (10, [.ref q1, .ref q9, .ref q17, .int (iI 0), .int (iI 23), .int (iI 23), .ref q19, .int (iI 0), .int (iI 0), .ref q21]))] ++ fd dom348 σ349) _ _ []
  show V _ _ _ _ _ _ _ _ _ _ _ _ _ _ (57, 1322) ([] ++ ((h, .inr (10, [.ref q1, .ref q9, .ref q17, .int (iI 0), .int (iI 23), .int (iI 23), .ref q19, .int (iI 0), .int (iI 0), .ref q21])) :: fd dom348 σ349)) _ _ []
  refine v_absorb (E := []) (q := h) (e0 := .inr (10, [.ref q1, .ref q9, .ref q17, .int (iI 0), .int (iI 23), .int (iI 23), .ref q19, .int (iI 0), .int (iI 0), .ref q21])) (t := (40, 0, 0)) Z351 G352 (fun τ9 s9 _ => ⟨q1, q9, q17, 0, 23, 23, q19, 0, 0, q21, rfl, s9 _ _ (m354 _ _ (m347 _ _ (m338 _ _ (m326 _ _ (m314 _ _ (m302 _ _ (m290 _ _ (m278 _ _ (m266 _ _ (m254 _ _ (m242 _ _ (m230 _ _ (m218 _ _ (m206 _ _ (m194 _ _ (m182 _ _ (m170 _ _ (m158 _ _ (m146 _ _ (m134 _ _ (m122 _ _ (m110 _ _ (m98 _ _ (m86 _ _ (m74 _ _ (m62 _ _ (m50 _ _ (m38 _ _ (m28 _ _ (m16 _ _ t7)))))))))))))))))))))))))))))), s9 _ _ (m354 _ _ (m347 _ _ (m338 _ _ (m326 _ _ (m314 _ _ (m302 _ _ (m290 _ _ (m278 _ _ (m266 _ _ (m254 _ _ (m242 _ _ (m230 _ _ (m218 _ _ (m206 _ _ (m194 _ _ (m182 _ _ (m170 _ _ (m158 _ _ (m146 _ _ (m134 _ _ (m122 _ _ (m110 _ _ (m98 _ _ (m86 _ _ (m74 _ _ (m62 _ _ (m50 _ _ (m38 _ _ (m28 _ _ t15))))))))))))))))))))))))))))), s9 _ _ (m354 _ _ t346), ⟨by decide, by decide⟩, ⟨by decide, by decide⟩, ⟨by decide, by decide⟩, s9 _ _ t353, ⟨by decide, by decide⟩, ⟨by decide, by decide⟩, s9 _ _ (m354 _ _ (m347 _ _ (m338 _ _ (m326 _ _ (m314 _ _ (m302 _ _ (m290 _ _ (m278 _ _ (m266 _ _ (m254 _ _ (m242 _ _ (m230 _ _ (m218 _ _ (m206 _ _ (m194 _ _ (m182 _ _ (m170 _ _ (m158 _ _ (m146 _ _ (m134 _ _ (m122 _ _ (m110 _ _ (m98 _ _ (m86 _ _ (m74 _ _ (m62 _ _ (m50 _ _ (m38 _ _ t27))))))))))))))))))))))))))))⟩) (fun dom355 σ356 τ357 Z358 G359 t360 m361 => ?_)
  exact v_vret B hr hlk (dom355, σ356, τ357) ⟨Z358, G359, t360, (Sub.tr (Sub.tr (Sub.tr (Sub.tr (Sub.tr (Sub.tr (Sub.tr (Sub.tr (Sub.tr (Sub.tr (Sub.tr (Sub.tr (Sub.tr (Sub.tr (Sub.tr (Sub.tr (Sub.tr (Sub.tr (Sub.tr (Sub.tr (Sub.tr (Sub.tr (Sub.tr (Sub.tr (Sub.tr (Sub.tr (Sub.tr (Sub.tr (Sub.tr (Sub.tr (Sub.tr m8 m16) m28) m38) m50) m62) m74) m86) m98) m110) m122) m134) m146) m158) m170) m182) m194) m206) m218) m230) m242) m254) m266) m278) m290) m302) m314) m326) m338) m347) m354) m361)⟩ rfl (by decide +kernel) (by decide +kernel) dX10_init_122

def wp_k_Diary : List Cond := .code yX4_init cX4_init 2 none :: (([.methodLink RX4 3 Lib.objectInit, .instanceMethod Lib.objectInit, .code Lib.objectInit ⟨#[0xb1]⟩ 1 none, .arrayClass .int, .fieldLink RX4 11 "LowEnergy$Diary" "kinds" "[I", .classLink RX4 15 "[[I", .fieldLink RX4 17 "LowEnergy$Diary" "numbers" "[[I", .classLink RX4 20 RX9, .fieldLink RX4 22 "LowEnergy$Diary" "rows" "[LLowEnergy$Row;", .instantiable RX9 2, .initialized RX9, .methodLink RX4 26 yX9_init, .instanceMethod yX9_init, .code yX9_init cX9_init 2 none, .methodLink RX9 3 Lib.objectInit, .methodLink RX9 9 Lib.Math.max.name, .static Lib.Math.max.name, .initialized "java/lang/Math", .code Lib.Math.max.name Lib.Math.max.code 2 (some .int), .fieldLink RX9 15 "LowEnergy$Row" "bytes" "[I"] : List Cond) ++ (wsX40 ++ (wsX90 ++ ([]))))
theorem hi_k_Diary_X4 : ∀ x ∈ u_ws RX4 TX4 6, x ∈ wp_k_Diary := fun _ h => List.mem_cons_of_mem _ (List.mem_append_right _ (List.mem_append_left _ h))
theorem hi_k_Diary_X9 : ∀ x ∈ u_ws RX9 TX9 2, x ∈ wp_k_Diary := fun _ h => List.mem_cons_of_mem _ (List.mem_append_right _ (List.mem_append_right _ (List.mem_append_left _ h)))
set_option maxRecDepth 100000 in
theorem gd_k_Diary_k_Row_26 : GoodIn wp_k_Diary (wp_k_Row) := goodIn_ca (goodIn_r _ [14, 15, 2, 3, 16, 17, 18, 19, 4, 20] rfl rfl) (goodIn_app (goodIn_cls hi_k_Diary_X9 gw_X9) (goodIn_nil))
set_option maxHeartbeats 4000000 in
set_option maxRecDepth 100000 in
theorem k_Diary (l : Launch) (D : va_G) (K : Nat → ClassId) {τ : Nat → Option Ty} {dom : List Nat} {σ : Nat → va_E} (Z : Sk τ dom) (G : Good K τ σ) (h : Nat) : MG l yX4_init wp_k_Diary ({ frames := 2, cells := 99, slots := 1536, locals := 35 }) D (tysA K) [.ref h] ((h, .inr (4, [.null, .null, .null, .int (iI 0), .int (iI 0), .int (iI 0)])) :: fd dom σ) (Qv D (fun u : List Nat × (Nat → va_E) × (Nat → Option Ty) => Sk u.2.2 u.1 ∧ Good K u.2.2 u.2.1 ∧ u.2.2 h = some (34, 0, 0) ∧ Sub τ u.2.2) (fun u => fd u.1 u.2.1)) 99 1536 := by
  refine mg_of (cc := cX4_init) (maxL := 2) (ret := none) (by decide +kernel) rfl (Nat.le_of_ble_eq_true rfl) ?_
  intro p e s m below meth c A B hr hlk hnam
  show V _ _ _ _ _ _ _ _ _ _ _ _ _ _ _ ([(h, .inr (4, [.null, .null, .null, .int (iI 0), .int (iI 0), .int (iI 0)]))] ++ fd dom σ) [(0, .ref h)] _ _
  refine v_aload_n B dX4_init_0 rfl rfl ?_
  refine v_objInit B (List.mem_of_getElem? (i := 1) rfl) (List.mem_of_getElem? (i := 2) rfl) (List.mem_of_getElem? (i := 3) rfl) dX4_init_1 (by decide +kernel) (Nat.le_of_ble_eq_true rfl) ?_
  refine v_aload_n B dX4_init_4 rfl rfl ?_
  refine v_bipush B (v := iI 32) dX4_init_5 (by decide +kernel) ?_
  refine v_newa_int B (cA := K 0) (t0 := 0) (N' := 32) (List.mem_of_getElem? (i := 4) rfl) rfl (by decide +kernel) (by decide +kernel) (by decide +kernel) (by decide +kernel) (by decide +kernel) dX4_init_7 (fun q1 => ?_)
  show V _ _ _ _ _ _ _ _ _ _ _ _ _ _ (1, 32) (([(h, .inr (4, [.null, .null, .null, .int (iI 0), .int (iI 0), .int (iI 0)]))] ++ fd dom σ) ++ [(q1, .inl (K 0, 32, .inl (fun _ => 0)))]) _ _ [.ref q1, .ref h]
  refine v_perm (pm2 [(h, .inr (4, [.null, .null, .null, .int (iI 0), .int (iI 0), .int (iI 0)]))] (fd dom σ) (q1, .inl (K 0, 32, .inl (fun _ => 0)))) ?_
  refine v_absorb (E := [(h, .inr (4, [.null, .null, .null, .int (iI 0), .int (iI 0), .int (iI 0)]))]) (q := q1) (e0 := .inl (K 0, 32, .inl (fun _ => 0))) (t := (3, 23, 32)) Z G (fun _ _ _ => ⟨_, rfl, by decide⟩) (fun dom2 σ3 τ4 Z5 G6 t7 m8 => ?_)
  show V _ _ _ _ _ _ _ _ _ _ _ _ _ _ (1, 32) ([(h, .inr (4, [.null, .null, .null, .int (iI 0), .int (iI 0), .int (iI 0)]))] ++ fd dom2 σ3) _ _ [.ref q1, .ref h]
  refine v_putF B (k0 := 0) (C := RX4) (T := TX4) (N := 6) (ci := 4) hi_k_Diary_X4 rfl rfl 0 (by decide +kernel) tyX4 tyX4_ok nmX4 (List.mem_of_getElem? (i := 5) rfl) rfl hnam rfl (ty := .array .int) (tyX4_ok 0 (by decide +kernel)) rfl rfl (Nat.le_of_ble_eq_true rfl) (w' := [(h, .inr (4, [.ref q1, .null, .null, .int (iI 0), .int (iI 0), .int (iI 0)]))] ++ fd dom2 σ3) rfl dX4_init_9 ?_
  refine v_aload_n B dX4_init_12 rfl rfl ?_
  refine v_bipush B (v := iI 32) dX4_init_13 (by decide +kernel) ?_
  refine v_iconst B (v := iI 3) dX4_init_15 rfl ?_
  refine v_mna B (N' := 32) (K' := 3) (z := (3, .inl (fun _ => 0))) (t0 := 0) (t1 := 6) (cA := K 6) (cI := K 0) (List.mem_of_getElem? (i := 6) rfl) (List.mem_of_getElem? (i := 4) rfl) rfl rfl (by decide +kernel) (by decide +kernel) (by decide +kernel) (by decide +kernel) (by decide +kernel) (by decide +kernel) (by decide +kernel) (by decide +kernel) (by decide +kernel) (fun _ => rfl) dX4_init_16 (fun q9 rr10 _ => ?_)
  show V _ _ _ _ _ _ _ _ _ _ _ _ _ _ (34, 160) ((([(h, .inr (4, [.ref q1, .null, .null, .int (iI 0), .int (iI 0), .int (iI 0)]))] ++ fd dom2 σ3) ++ [(q9, .inl (K 6, 32, .inr (.inr (.inr (.inr (fun i => if i < 32 then some (rr10 i) else none))))))]) ++ ((List.range 32).map rr10).map (fun a => (a, (.inl (K 0, 3, .inl (fun _ => 0)) : va_E)))) _ _ [.ref q9, .ref h]
  refine v_perm (pm6 [(h, .inr (4, [.ref q1, .null, .null, .int (iI 0), .int (iI 0), .int (iI 0)]))] (fd dom2 σ3) (q9, .inl (K 6, 32, .inr (.inr (.inr (.inr (fun i => if i < 32 then some (rr10 i) else none)))))) (((List.range 32).map rr10).map (fun a => (a, (.inl (K 0, 3, .inl (fun _ => 0)) : va_E))))) ?_
  refine v_absorbL (t := (3, 22, 3)) (e0 := .inl (K 0, 3, .inl (fun _ => 0))) (fun _ => ⟨_, rfl, by decide⟩) ((List.range 32).map rr10) ([(h, .inr (4, [.ref q1, .null, .null, .int (iI 0), .int (iI 0), .int (iI 0)]))] ++ [(q9, .inl (K 6, 32, .inr (.inr (.inr (.inr (fun i => if i < 32 then some (rr10 i) else none))))))]) _ _ _ Z5 G6 (fun dom11 σ12 τ13 Z14 G15 t16 m17 => ?_)
  refine v_perm (pm7 [(h, .inr (4, [.ref q1, .null, .null, .int (iI 0), .int (iI 0), .int (iI 0)]))] (fd dom11 σ12) (q9, .inl (K 6, 32, .inr (.inr (.inr (.inr (fun i => if i < 32 then some (rr10 i) else none))))))) ?_
  refine v_absorb (E := [(h, .inr (4, [.ref q1, .null, .null, .int (iI 0), .int (iI 0), .int (iI 0)]))]) (q := q9) (e0 := .inl (K 6, 32, .inr (.inr (.inr (.inr (fun i => if i < 32 then some (rr10 i) else none)))))) (t := (7, 22, 32)) Z14 G15 (fun τ9 s9 _ => ⟨_, rfl, fun i hi => ⟨rr10 i, if_pos hi, s9 _ _ (t16 _ (List.mem_map.mpr ⟨i, List.mem_range.mpr hi, rfl⟩))⟩⟩) (fun dom18 σ19 τ20 Z21 G22 t23 m24 => ?_)
  show V _ _ _ _ _ _ _ _ _ _ _ _ _ _ (34, 160) ([(h, .inr (4, [.ref q1, .null, .null, .int (iI 0), .int (iI 0), .int (iI 0)]))] ++ fd dom18 σ19) _ _ [.ref q9, .ref h]
  refine v_putF B (k0 := 0) (C := RX4) (T := TX4) (N := 6) (ci := 4) hi_k_Diary_X4 rfl rfl 1 (by decide +kernel) tyX4 tyX4_ok nmX4 (List.mem_of_getElem? (i := 7) rfl) rfl hnam rfl (ty := .array (.array .int)) (tyX4_ok 1 (by decide +kernel)) rfl rfl (Nat.le_of_ble_eq_true rfl) (w' := [(h, .inr (4, [.ref q1, .ref q9, .null, .int (iI 0), .int (iI 0), .int (iI 0)]))] ++ fd dom18 σ19) rfl dX4_init_20 ?_
  refine v_aload_n B dX4_init_23 rfl rfl ?_
  refine v_bipush B (v := iI 32) dX4_init_24 (by decide +kernel) ?_
  refine v_newq B (C := RX9) (cA := K 4) (t0 := 4) (N' := 32) (List.mem_of_getElem? (i := 8) rfl) B.2.2.2.2.2.1.2.2.1 rfl (by decide +kernel) (by decide +kernel) (by decide +kernel) (by decide +kernel) (by decide +kernel) dX4_init_26 (fun q25 => ?_)
  show V _ _ _ _ _ _ _ _ _ _ _ _ _ _ (35, 192) (([(h, .inr (4, [.ref q1, .ref q9, .null, .int (iI 0), .int (iI 0), .int (iI 0)]))] ++ fd dom18 σ19) ++ [(q25, .inl (K 4, 32, .inr (.inr (.inr (.inr (fun _ => none))))))]) _ _ [.ref q25, .ref h]
  refine v_perm (pm5 [(h, .inr (4, [.ref q1, .ref q9, .null, .int (iI 0), .int (iI 0), .int (iI 0)]))] (fd dom18 σ19) (q25, .inl (K 4, 32, .inr (.inr (.inr (.inr (fun _ => none))))))) ?_
  show V _ _ _ _ _ _ _ _ _ _ _ _ _ _ (35, 192) ([(h, .inr (4, [.ref q1, .ref q9, .null, .int (iI 0), .int (iI 0), .int (iI 0)])), (q25, .inl (K 4, 32, .inr (.inr (.inr (.inr (fun _ => none))))))] ++ fd dom18 σ19) _ _ [.ref q25, .ref h]
  have H26 : ∀ j : Nat, j < 0 → ∃ a : Nat, (fun _ : Nat => (none : Option Nat)) j = some a ∧ τ20 a = some (1, 16, 0) := fun _ h => by omega
  refine v_putF B (k0 := 0) (C := RX4) (T := TX4) (N := 6) (ci := 4) hi_k_Diary_X4 rfl rfl 2 (by decide +kernel) tyX4 tyX4_ok nmX4 (List.mem_of_getElem? (i := 9) rfl) rfl hnam rfl (ty := .array (.object "LowEnergy$Row")) (tyX4_ok 2 (by decide +kernel)) rfl rfl (Nat.le_of_ble_eq_true rfl) (w' := [(h, .inr (4, [.ref q1, .ref q9, .ref q25, .int (iI 0), .int (iI 0), .int (iI 0)])), (q25, .inl (K 4, 32, .inr (.inr (.inr (.inr (fun _ => none))))))] ++ fd dom18 σ19) rfl dX4_init_29 ?_
  refine v_iconst B (v := iI 0) dX4_init_32 rfl ?_
  refine v_istore_n B (lv' := [(1, .int (iI 0)), (0, .ref h)]) dX4_init_33 rfl (by decide +kernel) rfl ?_
  refine v_iload_n B dX4_init_34 rfl rfl ?_
  refine v_aload_n B dX4_init_35 rfl rfl ?_
  refine v_get B (k0 := 0) (C := RX4) (T := TX4) (N := 6) (ci := 4) hi_k_Diary_X4 rfl rfl 2 (by decide +kernel) (List.mem_of_getElem? (i := 9) rfl) rfl dX4_init_36 ?_
  refine v_alen B (k0 := 1) (t0 := 4) (v := iI 32) rfl rfl (show Int32.ofNat 32 = iI 32 by decide +kernel) dX4_init_39 ?_
  refine v_icmp_ge B (tgt := 64) dX4_init_40 (by decide +kernel) (fun q => absurd q (by decide +kernel)) (fun _ => ?_)
  refine v_aload_n B dX4_init_43 rfl rfl ?_
  refine v_get B (k0 := 0) (C := RX4) (T := TX4) (N := 6) (ci := 4) hi_k_Diary_X4 rfl rfl 2 (by decide +kernel) (List.mem_of_getElem? (i := 9) rfl) rfl dX4_init_44 ?_
  refine v_iload_n B dX4_init_47 rfl rfl ?_
  refine v_new B (C := RX9) (T := TX9) (N := 2) (ci := 9) (fs := [.null, .int (iI 0)]) hi_k_Diary_X9 tyX9 tyX9_ok (List.mem_of_getElem? (i := 8) rfl) (List.mem_of_getElem? (i := 10) rfl) (List.mem_of_getElem? (i := 11) rfl) rfl (by decide +kernel) (by decide +kernel) (by decide +kernel) dX4_init_48 (fun q27 => ?_)
  show V _ _ _ _ _ _ _ _ _ _ _ _ _ _ (36, 194) (([(h, .inr (4, [.ref q1, .ref q9, .ref q25, .int (iI 0), .int (iI 0), .int (iI 0)])), (q25, .inl (K 4, 32, .inr (.inr (.inr (.inr (fun _ => none))))))] ++ fd dom18 σ19) ++ [(q27, .inr (9, [.null, .int (iI 0)]))]) _ _ [.ref q27, .int (iI 0), .ref q25]
  refine v_perm (pm1 [(h, .inr (4, [.ref q1, .ref q9, .ref q25, .int (iI 0), .int (iI 0), .int (iI 0)])), (q25, .inl (K 4, 32, .inr (.inr (.inr (.inr (fun _ => none))))))] (fd dom18 σ19) (q27, .inr (9, [.null, .int (iI 0)]))) ?_
  refine v_dup B dX4_init_51 rfl ?_
  refine v_bipush B (v := iI 40) dX4_init_52 (by decide +kernel) ?_
  refine v_callIv B (b := q27) (n := 1) (As := [.int (iI 40)]) (rest := [.ref q27, .int (iI 0), .ref q25]) (wc := (q27, .inr (9, [.null, .int (iI 0)])) :: fd dom18 σ19) (wr := [(h, .inr (4, [.ref q1, .ref q9, .ref q25, .int (iI 0), .int (iI 0), .int (iI 0)])), (q25, .inl (K 4, 32, .inr (.inr (.inr (.inr (fun _ => none))))))]) (k_Row l D K Z21 G22 q27 16 40 (iI 40) (by decide +kernel)) gd_k_Diary_k_Row_26 rfl rfl rfl (by decide +kernel) ⟨by decide +kernel, by decide +kernel⟩ (List.mem_of_getElem? (i := 11) rfl) (List.mem_of_getElem? (i := 12) rfl) (List.mem_of_getElem? (i := 13) rfl) rfl (sp_app _ _) rfl rfl (Nat.le_of_ble_eq_true rfl) dX4_init_54 ⟨by decide +kernel, by decide +kernel⟩ (fun u28 hp29 => ?_)
  obtain ⟨dom30, σ31, τ32⟩ := u28
  obtain ⟨Z33, G34, t35, m36⟩ := hp29
  show V _ _ _ _ _ _ _ _ _ _ _ _ _ _ (37, 234) ([(h, .inr (4, [.ref q1, .ref q9, .ref q25, .int (iI 0), .int (iI 0), .int (iI 0)])), (q25, .inl (K 4, 32, .inr (.inr (.inr (.inr (fun _ => none))))))] ++ fd dom30 σ31) _ _ [.ref q27, .int (iI 0), .ref q25]
  refine v_aastT B Z33 (E := [(h, .inr (4, [.ref q1, .ref q9, .ref q25, .int (iI 0), .int (iI 0), .int (iI 0)])), (q25, .inl (K 4, 32, .inr (.inr (.inr (.inr (fun _ => none))))))]) (k0 := 1) (t0 := 4) (ci := 9) (rr := (RX9, TX9, 2)) (i := 0) (E' := [(h, .inr (4, [.ref q1, .ref q9, .ref q25, .int (iI 0), .int (iI 0), .int (iI 0)])), (q25, .inl (K 4, 32, .inr (.inr (.inr (.inr (va_up (fun _ => none) 0 (some q27)))))))]) rfl rfl t35 (cls_Row G34 t35) rfl (vpi (by decide +kernel)) (by decide +kernel) rfl dX4_init_57 ?_
  have H38 := rows_step (i := 0) (r := q27) H26 m36 t35
  generalize va_up (fun _ => none) 0 (some q27) = f37 at H38 ⊢
  show V _ _ _ _ _ _ _ _ _ _ _ _ _ _ (37, 234) ([(h, .inr (4, [.ref q1, .ref q9, .ref q25, .int (iI 0), .int (iI 0), .int (iI 0)])), (q25, .inl (K 4, 32, .inr (.inr (.inr (.inr f37)))))] ++ fd dom30 σ31) _ _ []
  refine v_iinc B (k := 0) (v := iI 1) (lv' := [(1, .int (iI 1)), (0, .ref h)]) dX4_init_58 rfl (by decide +kernel) (by decide +kernel) rfl ?_
  refine v_goto B (tgt := 34) dX4_init_61 (by decide +kernel) ?_
  refine v_iload_n B dX4_init_34 rfl rfl ?_
  refine v_aload_n B dX4_init_35 rfl rfl ?_
  refine v_get B (k0 := 0) (C := RX4) (T := TX4) (N := 6) (ci := 4) hi_k_Diary_X4 rfl rfl 2 (by decide +kernel) (List.mem_of_getElem? (i := 9) rfl) rfl dX4_init_36 ?_
  refine v_alen B (k0 := 1) (t0 := 4) (v := iI 32) rfl rfl (show Int32.ofNat 32 = iI 32 by decide +kernel) dX4_init_39 ?_
  refine v_icmp_ge B (tgt := 64) dX4_init_40 (by decide +kernel) (fun q => absurd q (by decide +kernel)) (fun _ => ?_)
  refine v_aload_n B dX4_init_43 rfl rfl ?_
  refine v_get B (k0 := 0) (C := RX4) (T := TX4) (N := 6) (ci := 4) hi_k_Diary_X4 rfl rfl 2 (by decide +kernel) (List.mem_of_getElem? (i := 9) rfl) rfl dX4_init_44 ?_
  refine v_iload_n B dX4_init_47 rfl rfl ?_
  refine v_new B (C := RX9) (T := TX9) (N := 2) (ci := 9) (fs := [.null, .int (iI 0)]) hi_k_Diary_X9 tyX9 tyX9_ok (List.mem_of_getElem? (i := 8) rfl) (List.mem_of_getElem? (i := 10) rfl) (List.mem_of_getElem? (i := 11) rfl) rfl (by decide +kernel) (by decide +kernel) (by decide +kernel) dX4_init_48 (fun q39 => ?_)
  show V _ _ _ _ _ _ _ _ _ _ _ _ _ _ (38, 236) (([(h, .inr (4, [.ref q1, .ref q9, .ref q25, .int (iI 0), .int (iI 0), .int (iI 0)])), (q25, .inl (K 4, 32, .inr (.inr (.inr (.inr f37)))))] ++ fd dom30 σ31) ++ [(q39, .inr (9, [.null, .int (iI 0)]))]) _ _ [.ref q39, .int (iI 1), .ref q25]
  refine v_perm (pm1 [(h, .inr (4, [.ref q1, .ref q9, .ref q25, .int (iI 0), .int (iI 0), .int (iI 0)])), (q25, .inl (K 4, 32, .inr (.inr (.inr (.inr f37)))))] (fd dom30 σ31) (q39, .inr (9, [.null, .int (iI 0)]))) ?_
  refine v_dup B dX4_init_51 rfl ?_
  refine v_bipush B (v := iI 40) dX4_init_52 (by decide +kernel) ?_
  refine v_callIv B (b := q39) (n := 1) (As := [.int (iI 40)]) (rest := [.ref q39, .int (iI 1), .ref q25]) (wc := (q39, .inr (9, [.null, .int (iI 0)])) :: fd dom30 σ31) (wr := [(h, .inr (4, [.ref q1, .ref q9, .ref q25, .int (iI 0), .int (iI 0), .int (iI 0)])), (q25, .inl (K 4, 32, .inr (.inr (.inr (.inr f37)))))]) (k_Row l D K Z33 G34 q39 16 40 (iI 40) (by decide +kernel)) gd_k_Diary_k_Row_26 rfl rfl rfl (by decide +kernel) ⟨by decide +kernel, by decide +kernel⟩ (List.mem_of_getElem? (i := 11) rfl) (List.mem_of_getElem? (i := 12) rfl) (List.mem_of_getElem? (i := 13) rfl) rfl (sp_app _ _) rfl rfl (Nat.le_of_ble_eq_true rfl) dX4_init_54 ⟨by decide +kernel, by decide +kernel⟩ (fun u40 hp41 => ?_)
  obtain ⟨dom42, σ43, τ44⟩ := u40
  obtain ⟨Z45, G46, t47, m48⟩ := hp41
  show V _ _ _ _ _ _ _ _ _ _ _ _ _ _ (39, 276) ([(h, .inr (4, [.ref q1, .ref q9, .ref q25, .int (iI 0), .int (iI 0), .int (iI 0)])), (q25, .inl (K 4, 32, .inr (.inr (.inr (.inr f37)))))] ++ fd dom42 σ43) _ _ [.ref q39, .int (iI 1), .ref q25]
  refine v_aastT B Z45 (E := [(h, .inr (4, [.ref q1, .ref q9, .ref q25, .int (iI 0), .int (iI 0), .int (iI 0)])), (q25, .inl (K 4, 32, .inr (.inr (.inr (.inr f37)))))]) (k0 := 1) (t0 := 4) (ci := 9) (rr := (RX9, TX9, 2)) (i := 1) (E' := [(h, .inr (4, [.ref q1, .ref q9, .ref q25, .int (iI 0), .int (iI 0), .int (iI 0)])), (q25, .inl (K 4, 32, .inr (.inr (.inr (.inr (va_up f37 1 (some q39)))))))]) rfl rfl t47 (cls_Row G46 t47) rfl (vpi (by decide +kernel)) (by decide +kernel) rfl dX4_init_57 ?_
  have H50 := rows_step (i := 1) (r := q39) H38 m48 t47
  generalize va_up f37 1 (some q39) = f49 at H50 ⊢
  show V _ _ _ _ _ _ _ _ _ _ _ _ _ _ (39, 276) ([(h, .inr (4, [.ref q1, .ref q9, .ref q25, .int (iI 0), .int (iI 0), .int (iI 0)])), (q25, .inl (K 4, 32, .inr (.inr (.inr (.inr f49)))))] ++ fd dom42 σ43) _ _ []
  refine v_iinc B (k := 0) (v := iI 2) (lv' := [(1, .int (iI 2)), (0, .ref h)]) dX4_init_58 rfl (by decide +kernel) (by decide +kernel) rfl ?_
  refine v_goto B (tgt := 34) dX4_init_61 (by decide +kernel) ?_
  refine v_iload_n B dX4_init_34 rfl rfl ?_
  refine v_aload_n B dX4_init_35 rfl rfl ?_
  refine v_get B (k0 := 0) (C := RX4) (T := TX4) (N := 6) (ci := 4) hi_k_Diary_X4 rfl rfl 2 (by decide +kernel) (List.mem_of_getElem? (i := 9) rfl) rfl dX4_init_36 ?_
  refine v_alen B (k0 := 1) (t0 := 4) (v := iI 32) rfl rfl (show Int32.ofNat 32 = iI 32 by decide +kernel) dX4_init_39 ?_
  refine v_icmp_ge B (tgt := 64) dX4_init_40 (by decide +kernel) (fun q => absurd q (by decide +kernel)) (fun _ => ?_)
  refine v_aload_n B dX4_init_43 rfl rfl ?_
  refine v_get B (k0 := 0) (C := RX4) (T := TX4) (N := 6) (ci := 4) hi_k_Diary_X4 rfl rfl 2 (by decide +kernel) (List.mem_of_getElem? (i := 9) rfl) rfl dX4_init_44 ?_
  refine v_iload_n B dX4_init_47 rfl rfl ?_
  refine v_new B (C := RX9) (T := TX9) (N := 2) (ci := 9) (fs := [.null, .int (iI 0)]) hi_k_Diary_X9 tyX9 tyX9_ok (List.mem_of_getElem? (i := 8) rfl) (List.mem_of_getElem? (i := 10) rfl) (List.mem_of_getElem? (i := 11) rfl) rfl (by decide +kernel) (by decide +kernel) (by decide +kernel) dX4_init_48 (fun q51 => ?_)
  show V _ _ _ _ _ _ _ _ _ _ _ _ _ _ (40, 278) (([(h, .inr (4, [.ref q1, .ref q9, .ref q25, .int (iI 0), .int (iI 0), .int (iI 0)])), (q25, .inl (K 4, 32, .inr (.inr (.inr (.inr f49)))))] ++ fd dom42 σ43) ++ [(q51, .inr (9, [.null, .int (iI 0)]))]) _ _ [.ref q51, .int (iI 2), .ref q25]
  refine v_perm (pm1 [(h, .inr (4, [.ref q1, .ref q9, .ref q25, .int (iI 0), .int (iI 0), .int (iI 0)])), (q25, .inl (K 4, 32, .inr (.inr (.inr (.inr f49)))))] (fd dom42 σ43) (q51, .inr (9, [.null, .int (iI 0)]))) ?_
  refine v_dup B dX4_init_51 rfl ?_
  refine v_bipush B (v := iI 40) dX4_init_52 (by decide +kernel) ?_
  refine v_callIv B (b := q51) (n := 1) (As := [.int (iI 40)]) (rest := [.ref q51, .int (iI 2), .ref q25]) (wc := (q51, .inr (9, [.null, .int (iI 0)])) :: fd dom42 σ43) (wr := [(h, .inr (4, [.ref q1, .ref q9, .ref q25, .int (iI 0), .int (iI 0), .int (iI 0)])), (q25, .inl (K 4, 32, .inr (.inr (.inr (.inr f49)))))]) (k_Row l D K Z45 G46 q51 16 40 (iI 40) (by decide +kernel)) gd_k_Diary_k_Row_26 rfl rfl rfl (by decide +kernel) ⟨by decide +kernel, by decide +kernel⟩ (List.mem_of_getElem? (i := 11) rfl) (List.mem_of_getElem? (i := 12) rfl) (List.mem_of_getElem? (i := 13) rfl) rfl (sp_app _ _) rfl rfl (Nat.le_of_ble_eq_true rfl) dX4_init_54 ⟨by decide +kernel, by decide +kernel⟩ (fun u52 hp53 => ?_)
  obtain ⟨dom54, σ55, τ56⟩ := u52
  obtain ⟨Z57, G58, t59, m60⟩ := hp53
  show V _ _ _ _ _ _ _ _ _ _ _ _ _ _ (41, 318) ([(h, .inr (4, [.ref q1, .ref q9, .ref q25, .int (iI 0), .int (iI 0), .int (iI 0)])), (q25, .inl (K 4, 32, .inr (.inr (.inr (.inr f49)))))] ++ fd dom54 σ55) _ _ [.ref q51, .int (iI 2), .ref q25]
  refine v_aastT B Z57 (E := [(h, .inr (4, [.ref q1, .ref q9, .ref q25, .int (iI 0), .int (iI 0), .int (iI 0)])), (q25, .inl (K 4, 32, .inr (.inr (.inr (.inr f49)))))]) (k0 := 1) (t0 := 4) (ci := 9) (rr := (RX9, TX9, 2)) (i := 2) (E' := [(h, .inr (4, [.ref q1, .ref q9, .ref q25, .int (iI 0), .int (iI 0), .int (iI 0)])), (q25, .inl (K 4, 32, .inr (.inr (.inr (.inr (va_up f49 2 (some q51)))))))]) rfl rfl t59 (cls_Row G58 t59) rfl (vpi (by decide +kernel)) (by decide +kernel) rfl dX4_init_57 ?_
  have H62 := rows_step (i := 2) (r := q51) H50 m60 t59
  generalize va_up f49 2 (some q51) = f61 at H62 ⊢
  show V _ _ _ _ _ _ _ _ _ _ _ _ _ _ (41, 318) ([(h, .inr (4, [.ref q1, .ref q9, .ref q25, .int (iI 0), .int (iI 0), .int (iI 0)])), (q25, .inl (K 4, 32, .inr (.inr (.inr (.inr f61)))))] ++ fd dom54 σ55) _ _ []
  refine v_iinc B (k := 0) (v := iI 3) (lv' := [(1, .int (iI 3)), (0, .ref h)]) dX4_init_58 rfl (by decide +kernel) (by decide +kernel) rfl ?_
  refine v_goto B (tgt := 34) dX4_init_61 (by decide +kernel) ?_
  refine v_iload_n B dX4_init_34 rfl rfl ?_
  refine v_aload_n B dX4_init_35 rfl rfl ?_
  refine v_get B (k0 := 0) (C := RX4) (T := TX4) (N := 6) (ci := 4) hi_k_Diary_X4 rfl rfl 2 (by decide +kernel) (List.mem_of_getElem? (i := 9) rfl) rfl dX4_init_36 ?_
  refine v_alen B (k0 := 1) (t0 := 4) (v := iI 32) rfl rfl (show Int32.ofNat 32 = iI 32 by decide +kernel) dX4_init_39 ?_
  refine v_icmp_ge B (tgt := 64) dX4_init_40 (by decide +kernel) (fun q => absurd q (by decide +kernel)) (fun _ => ?_)
  refine v_aload_n B dX4_init_43 rfl rfl ?_
  refine v_get B (k0 := 0) (C := RX4) (T := TX4) (N := 6) (ci := 4) hi_k_Diary_X4 rfl rfl 2 (by decide +kernel) (List.mem_of_getElem? (i := 9) rfl) rfl dX4_init_44 ?_
  refine v_iload_n B dX4_init_47 rfl rfl ?_
  refine v_new B (C := RX9) (T := TX9) (N := 2) (ci := 9) (fs := [.null, .int (iI 0)]) hi_k_Diary_X9 tyX9 tyX9_ok (List.mem_of_getElem? (i := 8) rfl) (List.mem_of_getElem? (i := 10) rfl) (List.mem_of_getElem? (i := 11) rfl) rfl (by decide +kernel) (by decide +kernel) (by decide +kernel) dX4_init_48 (fun q63 => ?_)
  show V _ _ _ _ _ _ _ _ _ _ _ _ _ _ (42, 320) (([(h, .inr (4, [.ref q1, .ref q9, .ref q25, .int (iI 0), .int (iI 0), .int (iI 0)])), (q25, .inl (K 4, 32, .inr (.inr (.inr (.inr f61)))))] ++ fd dom54 σ55) ++ [(q63, .inr (9, [.null, .int (iI 0)]))]) _ _ [.ref q63, .int (iI 3), .ref q25]
  refine v_perm (pm1 [(h, .inr (4, [.ref q1, .ref q9, .ref q25, .int (iI 0), .int (iI 0), .int (iI 0)])), (q25, .inl (K 4, 32, .inr (.inr (.inr (.inr f61)))))] (fd dom54 σ55) (q63, .inr (9, [.null, .int (iI 0)]))) ?_
  refine v_dup B dX4_init_51 rfl ?_
  refine v_bipush B (v := iI 40) dX4_init_52 (by decide +kernel) ?_
  refine v_callIv B (b := q63) (n := 1) (As := [.int (iI 40)]) (rest := [.ref q63, .int (iI 3), .ref q25]) (wc := (q63, .inr (9, [.null, .int (iI 0)])) :: fd dom54 σ55) (wr := [(h, .inr (4, [.ref q1, .ref q9, .ref q25, .int (iI 0), .int (iI 0), .int (iI 0)])), (q25, .inl (K 4, 32, .inr (.inr (.inr (.inr f61)))))]) (k_Row l D K Z57 G58 q63 16 40 (iI 40) (by decide +kernel)) gd_k_Diary_k_Row_26 rfl rfl rfl (by decide +kernel) ⟨by decide +kernel, by decide +kernel⟩ (List.mem_of_getElem? (i := 11) rfl) (List.mem_of_getElem? (i := 12) rfl) (List.mem_of_getElem? (i := 13) rfl) rfl (sp_app _ _) rfl rfl (Nat.le_of_ble_eq_true rfl) dX4_init_54 ⟨by decide +kernel, by decide +kernel⟩ (fun u64 hp65 => ?_)
  obtain ⟨dom66, σ67, τ68⟩ := u64
  obtain ⟨Z69, G70, t71, m72⟩ := hp65
  show V _ _ _ _ _ _ _ _ _ _ _ _ _ _ (43, 360) ([(h, .inr (4, [.ref q1, .ref q9, .ref q25, .int (iI 0), .int (iI 0), .int (iI 0)])), (q25, .inl (K 4, 32, .inr (.inr (.inr (.inr f61)))))] ++ fd dom66 σ67) _ _ [.ref q63, .int (iI 3), .ref q25]
  refine v_aastT B Z69 (E := [(h, .inr (4, [.ref q1, .ref q9, .ref q25, .int (iI 0), .int (iI 0), .int (iI 0)])), (q25, .inl (K 4, 32, .inr (.inr (.inr (.inr f61)))))]) (k0 := 1) (t0 := 4) (ci := 9) (rr := (RX9, TX9, 2)) (i := 3) (E' := [(h, .inr (4, [.ref q1, .ref q9, .ref q25, .int (iI 0), .int (iI 0), .int (iI 0)])), (q25, .inl (K 4, 32, .inr (.inr (.inr (.inr (va_up f61 3 (some q63)))))))]) rfl rfl t71 (cls_Row G70 t71) rfl (vpi (by decide +kernel)) (by decide +kernel) rfl dX4_init_57 ?_
  have H74 := rows_step (i := 3) (r := q63) H62 m72 t71
  generalize va_up f61 3 (some q63) = f73 at H74 ⊢
  show V _ _ _ _ _ _ _ _ _ _ _ _ _ _ (43, 360) ([(h, .inr (4, [.ref q1, .ref q9, .ref q25, .int (iI 0), .int (iI 0), .int (iI 0)])), (q25, .inl (K 4, 32, .inr (.inr (.inr (.inr f73)))))] ++ fd dom66 σ67) _ _ []
  refine v_iinc B (k := 0) (v := iI 4) (lv' := [(1, .int (iI 4)), (0, .ref h)]) dX4_init_58 rfl (by decide +kernel) (by decide +kernel) rfl ?_
  refine v_goto B (tgt := 34) dX4_init_61 (by decide +kernel) ?_
  refine v_iload_n B dX4_init_34 rfl rfl ?_
  refine v_aload_n B dX4_init_35 rfl rfl ?_
  refine v_get B (k0 := 0) (C := RX4) (T := TX4) (N := 6) (ci := 4) hi_k_Diary_X4 rfl rfl 2 (by decide +kernel) (List.mem_of_getElem? (i := 9) rfl) rfl dX4_init_36 ?_
  refine v_alen B (k0 := 1) (t0 := 4) (v := iI 32) rfl rfl (show Int32.ofNat 32 = iI 32 by decide +kernel) dX4_init_39 ?_
  refine v_icmp_ge B (tgt := 64) dX4_init_40 (by decide +kernel) (fun q => absurd q (by decide +kernel)) (fun _ => ?_)
  refine v_aload_n B dX4_init_43 rfl rfl ?_
  refine v_get B (k0 := 0) (C := RX4) (T := TX4) (N := 6) (ci := 4) hi_k_Diary_X4 rfl rfl 2 (by decide +kernel) (List.mem_of_getElem? (i := 9) rfl) rfl dX4_init_44 ?_
  refine v_iload_n B dX4_init_47 rfl rfl ?_
  refine v_new B (C := RX9) (T := TX9) (N := 2) (ci := 9) (fs := [.null, .int (iI 0)]) hi_k_Diary_X9 tyX9 tyX9_ok (List.mem_of_getElem? (i := 8) rfl) (List.mem_of_getElem? (i := 10) rfl) (List.mem_of_getElem? (i := 11) rfl) rfl (by decide +kernel) (by decide +kernel) (by decide +kernel) dX4_init_48 (fun q75 => ?_)
  show V _ _ _ _ _ _ _ _ _ _ _ _ _ _ (44, 362) (([(h, .inr (4, [.ref q1, .ref q9, .ref q25, .int (iI 0), .int (iI 0), .int (iI 0)])), (q25, .inl (K 4, 32, .inr (.inr (.inr (.inr f73)))))] ++ fd dom66 σ67) ++ [(q75, .inr (9, [.null, .int (iI 0)]))]) _ _ [.ref q75, .int (iI 4), .ref q25]
  refine v_perm (pm1 [(h, .inr (4, [.ref q1, .ref q9, .ref q25, .int (iI 0), .int (iI 0), .int (iI 0)])), (q25, .inl (K 4, 32, .inr (.inr (.inr (.inr f73)))))] (fd dom66 σ67) (q75, .inr (9, [.null, .int (iI 0)]))) ?_
  refine v_dup B dX4_init_51 rfl ?_
  refine v_bipush B (v := iI 40) dX4_init_52 (by decide +kernel) ?_
  refine v_callIv B (b := q75) (n := 1) (As := [.int (iI 40)]) (rest := [.ref q75, .int (iI 4), .ref q25]) (wc := (q75, .inr (9, [.null, .int (iI 0)])) :: fd dom66 σ67) (wr := [(h, .inr (4, [.ref q1, .ref q9, .ref q25, .int (iI 0), .int (iI 0), .int (iI 0)])), (q25, .inl (K 4, 32, .inr (.inr (.inr (.inr f73)))))]) (k_Row l D K Z69 G70 q75 16 40 (iI 40) (by decide +kernel)) gd_k_Diary_k_Row_26 rfl rfl rfl (by decide +kernel) ⟨by decide +kernel, by decide +kernel⟩ (List.mem_of_getElem? (i := 11) rfl) (List.mem_of_getElem? (i := 12) rfl) (List.mem_of_getElem? (i := 13) rfl) rfl (sp_app _ _) rfl rfl (Nat.le_of_ble_eq_true rfl) dX4_init_54 ⟨by decide +kernel, by decide +kernel⟩ (fun u76 hp77 => ?_)
  obtain ⟨dom78, σ79, τ80⟩ := u76
  obtain ⟨Z81, G82, t83, m84⟩ := hp77
  show V _ _ _ _ _ _ _ _ _ _ _ _ _ _ (45, 402) ([(h, .inr (4, [.ref q1, .ref q9, .ref q25, .int (iI 0), .int (iI 0), .int (iI 0)])), (q25, .inl (K 4, 32, .inr (.inr (.inr (.inr f73)))))] ++ fd dom78 σ79) _ _ [.ref q75, .int (iI 4), .ref q25]
  refine v_aastT B Z81 (E := [(h, .inr (4, [.ref q1, .ref q9, .ref q25, .int (iI 0), .int (iI 0), .int (iI 0)])), (q25, .inl (K 4, 32, .inr (.inr (.inr (.inr f73)))))]) (k0 := 1) (t0 := 4) (ci := 9) (rr := (RX9, TX9, 2)) (i := 4) (E' := [(h, .inr (4, [.ref q1, .ref q9, .ref q25, .int (iI 0), .int (iI 0), .int (iI 0)])), (q25, .inl (K 4, 32, .inr (.inr (.inr (.inr (va_up f73 4 (some q75)))))))]) rfl rfl t83 (cls_Row G82 t83) rfl (vpi (by decide +kernel)) (by decide +kernel) rfl dX4_init_57 ?_
  have H86 := rows_step (i := 4) (r := q75) H74 m84 t83
  generalize va_up f73 4 (some q75) = f85 at H86 ⊢
  show V _ _ _ _ _ _ _ _ _ _ _ _ _ _ (45, 402) ([(h, .inr (4, [.ref q1, .ref q9, .ref q25, .int (iI 0), .int (iI 0), .int (iI 0)])), (q25, .inl (K 4, 32, .inr (.inr (.inr (.inr f85)))))] ++ fd dom78 σ79) _ _ []
  refine v_iinc B (k := 0) (v := iI 5) (lv' := [(1, .int (iI 5)), (0, .ref h)]) dX4_init_58 rfl (by decide +kernel) (by decide +kernel) rfl ?_
  refine v_goto B (tgt := 34) dX4_init_61 (by decide +kernel) ?_
  refine v_iload_n B dX4_init_34 rfl rfl ?_
  refine v_aload_n B dX4_init_35 rfl rfl ?_
  refine v_get B (k0 := 0) (C := RX4) (T := TX4) (N := 6) (ci := 4) hi_k_Diary_X4 rfl rfl 2 (by decide +kernel) (List.mem_of_getElem? (i := 9) rfl) rfl dX4_init_36 ?_
  refine v_alen B (k0 := 1) (t0 := 4) (v := iI 32) rfl rfl (show Int32.ofNat 32 = iI 32 by decide +kernel) dX4_init_39 ?_
  refine v_icmp_ge B (tgt := 64) dX4_init_40 (by decide +kernel) (fun q => absurd q (by decide +kernel)) (fun _ => ?_)
  refine v_aload_n B dX4_init_43 rfl rfl ?_
  refine v_get B (k0 := 0) (C := RX4) (T := TX4) (N := 6) (ci := 4) hi_k_Diary_X4 rfl rfl 2 (by decide +kernel) (List.mem_of_getElem? (i := 9) rfl) rfl dX4_init_44 ?_
  refine v_iload_n B dX4_init_47 rfl rfl ?_
  refine v_new B (C := RX9) (T := TX9) (N := 2) (ci := 9) (fs := [.null, .int (iI 0)]) hi_k_Diary_X9 tyX9 tyX9_ok (List.mem_of_getElem? (i := 8) rfl) (List.mem_of_getElem? (i := 10) rfl) (List.mem_of_getElem? (i := 11) rfl) rfl (by decide +kernel) (by decide +kernel) (by decide +kernel) dX4_init_48 (fun q87 => ?_)
  show V _ _ _ _ _ _ _ _ _ _ _ _ _ _ (46, 404) (([(h, .inr (4, [.ref q1, .ref q9, .ref q25, .int (iI 0), .int (iI 0), .int (iI 0)])), (q25, .inl (K 4, 32, .inr (.inr (.inr (.inr f85)))))] ++ fd dom78 σ79) ++ [(q87, .inr (9, [.null, .int (iI 0)]))]) _ _ [.ref q87, .int (iI 5), .ref q25]
  refine v_perm (pm1 [(h, .inr (4, [.ref q1, .ref q9, .ref q25, .int (iI 0), .int (iI 0), .int (iI 0)])), (q25, .inl (K 4, 32, .inr (.inr (.inr (.inr f85)))))] (fd dom78 σ79) (q87, .inr (9, [.null, .int (iI 0)]))) ?_
  refine v_dup B dX4_init_51 rfl ?_
  refine v_bipush B (v := iI 40) dX4_init_52 (by decide +kernel) ?_
  refine v_callIv B (b := q87) (n := 1) (As := [.int (iI 40)]) (rest := [.ref q87, .int (iI 5), .ref q25]) (wc := (q87, .inr (9, [.null, .int (iI 0)])) :: fd dom78 σ79) (wr := [(h, .inr (4, [.ref q1, .ref q9, .ref q25, .int (iI 0), .int (iI 0), .int (iI 0)])), (q25, .inl (K 4, 32, .inr (.inr (.inr (.inr f85)))))]) (k_Row l D K Z81 G82 q87 16 40 (iI 40) (by decide +kernel)) gd_k_Diary_k_Row_26 rfl rfl rfl (by decide +kernel) ⟨by decide +kernel, by decide +kernel⟩ (List.mem_of_getElem? (i := 11) rfl) (List.mem_of_getElem? (i := 12) rfl) (List.mem_of_getElem? (i := 13) rfl) rfl (sp_app _ _) rfl rfl (Nat.le_of_ble_eq_true rfl) dX4_init_54 ⟨by decide +kernel, by decide +kernel⟩ (fun u88 hp89 => ?_)
  obtain ⟨dom90, σ91, τ92⟩ := u88
  obtain ⟨Z93, G94, t95, m96⟩ := hp89
  show V _ _ _ _ _ _ _ _ _ _ _ _ _ _ (47, 444) ([(h, .inr (4, [.ref q1, .ref q9, .ref q25, .int (iI 0), .int (iI 0), .int (iI 0)])), (q25, .inl (K 4, 32, .inr (.inr (.inr (.inr f85)))))] ++ fd dom90 σ91) _ _ [.ref q87, .int (iI 5), .ref q25]
  refine v_aastT B Z93 (E := [(h, .inr (4, [.ref q1, .ref q9, .ref q25, .int (iI 0), .int (iI 0), .int (iI 0)])), (q25, .inl (K 4, 32, .inr (.inr (.inr (.inr f85)))))]) (k0 := 1) (t0 := 4) (ci := 9) (rr := (RX9, TX9, 2)) (i := 5) (E' := [(h, .inr (4, [.ref q1, .ref q9, .ref q25, .int (iI 0), .int (iI 0), .int (iI 0)])), (q25, .inl (K 4, 32, .inr (.inr (.inr (.inr (va_up f85 5 (some q87)))))))]) rfl rfl t95 (cls_Row G94 t95) rfl (vpi (by decide +kernel)) (by decide +kernel) rfl dX4_init_57 ?_
  have H98 := rows_step (i := 5) (r := q87) H86 m96 t95
  generalize va_up f85 5 (some q87) = f97 at H98 ⊢
  show V _ _ _ _ _ _ _ _ _ _ _ _ _ _ (47, 444) ([(h, .inr (4, [.ref q1, .ref q9, .ref q25, .int (iI 0), .int (iI 0), .int (iI 0)])), (q25, .inl (K 4, 32, .inr (.inr (.inr (.inr f97)))))] ++ fd dom90 σ91) _ _ []
  refine v_iinc B (k := 0) (v := iI 6) (lv' := [(1, .int (iI 6)), (0, .ref h)]) dX4_init_58 rfl (by decide +kernel) (by decide +kernel) rfl ?_
  refine v_goto B (tgt := 34) dX4_init_61 (by decide +kernel) ?_
  refine v_iload_n B dX4_init_34 rfl rfl ?_
  refine v_aload_n B dX4_init_35 rfl rfl ?_
  refine v_get B (k0 := 0) (C := RX4) (T := TX4) (N := 6) (ci := 4) hi_k_Diary_X4 rfl rfl 2 (by decide +kernel) (List.mem_of_getElem? (i := 9) rfl) rfl dX4_init_36 ?_
  refine v_alen B (k0 := 1) (t0 := 4) (v := iI 32) rfl rfl (show Int32.ofNat 32 = iI 32 by decide +kernel) dX4_init_39 ?_
  refine v_icmp_ge B (tgt := 64) dX4_init_40 (by decide +kernel) (fun q => absurd q (by decide +kernel)) (fun _ => ?_)
  refine v_aload_n B dX4_init_43 rfl rfl ?_
  refine v_get B (k0 := 0) (C := RX4) (T := TX4) (N := 6) (ci := 4) hi_k_Diary_X4 rfl rfl 2 (by decide +kernel) (List.mem_of_getElem? (i := 9) rfl) rfl dX4_init_44 ?_
  refine v_iload_n B dX4_init_47 rfl rfl ?_
  refine v_new B (C := RX9) (T := TX9) (N := 2) (ci := 9) (fs := [.null, .int (iI 0)]) hi_k_Diary_X9 tyX9 tyX9_ok (List.mem_of_getElem? (i := 8) rfl) (List.mem_of_getElem? (i := 10) rfl) (List.mem_of_getElem? (i := 11) rfl) rfl (by decide +kernel) (by decide +kernel) (by decide +kernel) dX4_init_48 (fun q99 => ?_)
  show V _ _ _ _ _ _ _ _ _ _ _ _ _ _ (48, 446) (([(h, .inr (4, [.ref q1, .ref q9, .ref q25, .int (iI 0), .int (iI 0), .int (iI 0)])), (q25, .inl (K 4, 32, .inr (.inr (.inr (.inr f97)))))] ++ fd dom90 σ91) ++ [(q99, .inr (9, [.null, .int (iI 0)]))]) _ _ [.ref q99, .int (iI 6), .ref q25]
  refine v_perm (pm1 [(h, .inr (4, [.ref q1, .ref q9, .ref q25, .int (iI 0), .int (iI 0), .int (iI 0)])), (q25, .inl (K 4, 32, .inr (.inr (.inr (.inr f97)))))] (fd dom90 σ91) (q99, .inr (9, [.null, .int (iI 0)]))) ?_
  refine v_dup B dX4_init_51 rfl ?_
  refine v_bipush B (v := iI 40) dX4_init_52 (by decide +kernel) ?_
  refine v_callIv B (b := q99) (n := 1) (As := [.int (iI 40)]) (rest := [.ref q99, .int (iI 6), .ref q25]) (wc := (q99, .inr (9, [.null, .int (iI 0)])) :: fd dom90 σ91) (wr := [(h, .inr (4, [.ref q1, .ref q9, .ref q25, .int (iI 0), .int (iI 0), .int (iI 0)])), (q25, .inl (K 4, 32, .inr (.inr (.inr (.inr f97)))))]) (k_Row l D K Z93 G94 q99 16 40 (iI 40) (by decide +kernel)) gd_k_Diary_k_Row_26 rfl rfl rfl (by decide +kernel) ⟨by decide +kernel, by decide +kernel⟩ (List.mem_of_getElem? (i := 11) rfl) (List.mem_of_getElem? (i := 12) rfl) (List.mem_of_getElem? (i := 13) rfl) rfl (sp_app _ _) rfl rfl (Nat.le_of_ble_eq_true rfl) dX4_init_54 ⟨by decide +kernel, by decide +kernel⟩ (fun u100 hp101 => ?_)
  obtain ⟨dom102, σ103, τ104⟩ := u100
  obtain ⟨Z105, G106, t107, m108⟩ := hp101
  show V _ _ _ _ _ _ _ _ _ _ _ _ _ _ (49, 486) ([(h, .inr (4, [.ref q1, .ref q9, .ref q25, .int (iI 0), .int (iI 0), .int (iI 0)])), (q25, .inl (K 4, 32, .inr (.inr (.inr (.inr f97)))))] ++ fd dom102 σ103) _ _ [.ref q99, .int (iI 6), .ref q25]
  refine v_aastT B Z105 (E := [(h, .inr (4, [.ref q1, .ref q9, .ref q25, .int (iI 0), .int (iI 0), .int (iI 0)])), (q25, .inl (K 4, 32, .inr (.inr (.inr (.inr f97)))))]) (k0 := 1) (t0 := 4) (ci := 9) (rr := (RX9, TX9, 2)) (i := 6) (E' := [(h, .inr (4, [.ref q1, .ref q9, .ref q25, .int (iI 0), .int (iI 0), .int (iI 0)])), (q25, .inl (K 4, 32, .inr (.inr (.inr (.inr (va_up f97 6 (some q99)))))))]) rfl rfl t107 (cls_Row G106 t107) rfl (vpi (by decide +kernel)) (by decide +kernel) rfl dX4_init_57 ?_
  have H110 := rows_step (i := 6) (r := q99) H98 m108 t107
  generalize va_up f97 6 (some q99) = f109 at H110 ⊢
  show V _ _ _ _ _ _ _ _ _ _ _ _ _ _ (49, 486) ([(h, .inr (4, [.ref q1, .ref q9, .ref q25, .int (iI 0), .int (iI 0), .int (iI 0)])), (q25, .inl (K 4, 32, .inr (.inr (.inr (.inr f109)))))] ++ fd dom102 σ103) _ _ []
  refine v_iinc B (k := 0) (v := iI 7) (lv' := [(1, .int (iI 7)), (0, .ref h)]) dX4_init_58 rfl (by decide +kernel) (by decide +kernel) rfl ?_
  refine v_goto B (tgt := 34) dX4_init_61 (by decide +kernel) ?_
  refine v_iload_n B dX4_init_34 rfl rfl ?_
  refine v_aload_n B dX4_init_35 rfl rfl ?_
  refine v_get B (k0 := 0) (C := RX4) (T := TX4) (N := 6) (ci := 4) hi_k_Diary_X4 rfl rfl 2 (by decide +kernel) (List.mem_of_getElem? (i := 9) rfl) rfl dX4_init_36 ?_
  refine v_alen B (k0 := 1) (t0 := 4) (v := iI 32) rfl rfl (show Int32.ofNat 32 = iI 32 by decide +kernel) dX4_init_39 ?_
  refine v_icmp_ge B (tgt := 64) dX4_init_40 (by decide +kernel) (fun q => absurd q (by decide +kernel)) (fun _ => ?_)
  refine v_aload_n B dX4_init_43 rfl rfl ?_
  refine v_get B (k0 := 0) (C := RX4) (T := TX4) (N := 6) (ci := 4) hi_k_Diary_X4 rfl rfl 2 (by decide +kernel) (List.mem_of_getElem? (i := 9) rfl) rfl dX4_init_44 ?_
  refine v_iload_n B dX4_init_47 rfl rfl ?_
  refine v_new B (C := RX9) (T := TX9) (N := 2) (ci := 9) (fs := [.null, .int (iI 0)]) hi_k_Diary_X9 tyX9 tyX9_ok (List.mem_of_getElem? (i := 8) rfl) (List.mem_of_getElem? (i := 10) rfl) (List.mem_of_getElem? (i := 11) rfl) rfl (by decide +kernel) (by decide +kernel) (by decide +kernel) dX4_init_48 (fun q111 => ?_)
  show V _ _ _ _ _ _ _ _ _ _ _ _ _ _ (50, 488) (([(h, .inr (4, [.ref q1, .ref q9, .ref q25, .int (iI 0), .int (iI 0), .int (iI 0)])), (q25, .inl (K 4, 32, .inr (.inr (.inr (.inr f109)))))] ++ fd dom102 σ103) ++ [(q111, .inr (9, [.null, .int (iI 0)]))]) _ _ [.ref q111, .int (iI 7), .ref q25]
  refine v_perm (pm1 [(h, .inr (4, [.ref q1, .ref q9, .ref q25, .int (iI 0), .int (iI 0), .int (iI 0)])), (q25, .inl (K 4, 32, .inr (.inr (.inr (.inr f109)))))] (fd dom102 σ103) (q111, .inr (9, [.null, .int (iI 0)]))) ?_
  refine v_dup B dX4_init_51 rfl ?_
  refine v_bipush B (v := iI 40) dX4_init_52 (by decide +kernel) ?_
  refine v_callIv B (b := q111) (n := 1) (As := [.int (iI 40)]) (rest := [.ref q111, .int (iI 7), .ref q25]) (wc := (q111, .inr (9, [.null, .int (iI 0)])) :: fd dom102 σ103) (wr := [(h, .inr (4, [.ref q1, .ref q9, .ref q25, .int (iI 0), .int (iI 0), .int (iI 0)])), (q25, .inl (K 4, 32, .inr (.inr (.inr (.inr f109)))))]) (k_Row l D K Z105 G106 q111 16 40 (iI 40) (by decide +kernel)) gd_k_Diary_k_Row_26 rfl rfl rfl (by decide +kernel) ⟨by decide +kernel, by decide +kernel⟩ (List.mem_of_getElem? (i := 11) rfl) (List.mem_of_getElem? (i := 12) rfl) (List.mem_of_getElem? (i := 13) rfl) rfl (sp_app _ _) rfl rfl (Nat.le_of_ble_eq_true rfl) dX4_init_54 ⟨by decide +kernel, by decide +kernel⟩ (fun u112 hp113 => ?_)
  obtain ⟨dom114, σ115, τ116⟩ := u112
  obtain ⟨Z117, G118, t119, m120⟩ := hp113
  show V _ _ _ _ _ _ _ _ _ _ _ _ _ _ (51, 528) ([(h, .inr (4, [.ref q1, .ref q9, .ref q25, .int (iI 0), .int (iI 0), .int (iI 0)])), (q25, .inl (K 4, 32, .inr (.inr (.inr (.inr f109)))))] ++ fd dom114 σ115) _ _ [.ref q111, .int (iI 7), .ref q25]
  refine v_aastT B Z117 (E := [(h, .inr (4, [.ref q1, .ref q9, .ref q25, .int (iI 0), .int (iI 0), .int (iI 0)])), (q25, .inl (K 4, 32, .inr (.inr (.inr (.inr f109)))))]) (k0 := 1) (t0 := 4) (ci := 9) (rr := (RX9, TX9, 2)) (i := 7) (E' := [(h, .inr (4, [.ref q1, .ref q9, .ref q25, .int (iI 0), .int (iI 0), .int (iI 0)])), (q25, .inl (K 4, 32, .inr (.inr (.inr (.inr (va_up f109 7 (some q111)))))))]) rfl rfl t119 (cls_Row G118 t119) rfl (vpi (by decide +kernel)) (by decide +kernel) rfl dX4_init_57 ?_
  have H122 := rows_step (i := 7) (r := q111) H110 m120 t119
  generalize va_up f109 7 (some q111) = f121 at H122 ⊢
  show V _ _ _ _ _ _ _ _ _ _ _ _ _ _ (51, 528) ([(h, .inr (4, [.ref q1, .ref q9, .ref q25, .int (iI 0), .int (iI 0), .int (iI 0)])), (q25, .inl (K 4, 32, .inr (.inr (.inr (.inr f121)))))] ++ fd dom114 σ115) _ _ []
  refine v_iinc B (k := 0) (v := iI 8) (lv' := [(1, .int (iI 8)), (0, .ref h)]) dX4_init_58 rfl (by decide +kernel) (by decide +kernel) rfl ?_
  refine v_goto B (tgt := 34) dX4_init_61 (by decide +kernel) ?_
  refine v_iload_n B dX4_init_34 rfl rfl ?_
  refine v_aload_n B dX4_init_35 rfl rfl ?_
  refine v_get B (k0 := 0) (C := RX4) (T := TX4) (N := 6) (ci := 4) hi_k_Diary_X4 rfl rfl 2 (by decide +kernel) (List.mem_of_getElem? (i := 9) rfl) rfl dX4_init_36 ?_
  refine v_alen B (k0 := 1) (t0 := 4) (v := iI 32) rfl rfl (show Int32.ofNat 32 = iI 32 by decide +kernel) dX4_init_39 ?_
  refine v_icmp_ge B (tgt := 64) dX4_init_40 (by decide +kernel) (fun q => absurd q (by decide +kernel)) (fun _ => ?_)
  refine v_aload_n B dX4_init_43 rfl rfl ?_
  refine v_get B (k0 := 0) (C := RX4) (T := TX4) (N := 6) (ci := 4) hi_k_Diary_X4 rfl rfl 2 (by decide +kernel) (List.mem_of_getElem? (i := 9) rfl) rfl dX4_init_44 ?_
  refine v_iload_n B dX4_init_47 rfl rfl ?_
  refine v_new B (C := RX9) (T := TX9) (N := 2) (ci := 9) (fs := [.null, .int (iI 0)]) hi_k_Diary_X9 tyX9 tyX9_ok (List.mem_of_getElem? (i := 8) rfl) (List.mem_of_getElem? (i := 10) rfl) (List.mem_of_getElem? (i := 11) rfl) rfl (by decide +kernel) (by decide +kernel) (by decide +kernel) dX4_init_48 (fun q123 => ?_)
  show V _ _ _ _ _ _ _ _ _ _ _ _ _ _ (52, 530) (([(h, .inr (4, [.ref q1, .ref q9, .ref q25, .int (iI 0), .int (iI 0), .int (iI 0)])), (q25, .inl (K 4, 32, .inr (.inr (.inr (.inr f121)))))] ++ fd dom114 σ115) ++ [(q123, .inr (9, [.null, .int (iI 0)]))]) _ _ [.ref q123, .int (iI 8), .ref q25]
  refine v_perm (pm1 [(h, .inr (4, [.ref q1, .ref q9, .ref q25, .int (iI 0), .int (iI 0), .int (iI 0)])), (q25, .inl (K 4, 32, .inr (.inr (.inr (.inr f121)))))] (fd dom114 σ115) (q123, .inr (9, [.null, .int (iI 0)]))) ?_
  refine v_dup B dX4_init_51 rfl ?_
  refine v_bipush B (v := iI 40) dX4_init_52 (by decide +kernel) ?_
  refine v_callIv B (b := q123) (n := 1) (As := [.int (iI 40)]) (rest := [.ref q123, .int (iI 8), .ref q25]) (wc := (q123, .inr (9, [.null, .int (iI 0)])) :: fd dom114 σ115) (wr := [(h, .inr (4, [.ref q1, .ref q9, .ref q25, .int (iI 0), .int (iI 0), .int (iI 0)])), (q25, .inl (K 4, 32, .inr (.inr (.inr (.inr f121)))))]) (k_Row l D K Z117 G118 q123 16 40 (iI 40) (by decide +kernel)) gd_k_Diary_k_Row_26 rfl rfl rfl (by decide +kernel) ⟨by decide +kernel, by decide +kernel⟩ (List.mem_of_getElem? (i := 11) rfl) (List.mem_of_getElem? (i := 12) rfl) (List.mem_of_getElem? (i := 13) rfl) rfl (sp_app _ _) rfl rfl (Nat.le_of_ble_eq_true rfl) dX4_init_54 ⟨by decide +kernel, by decide +kernel⟩ (fun u124 hp125 => ?_)
  obtain ⟨dom126, σ127, τ128⟩ := u124
  obtain ⟨Z129, G130, t131, m132⟩ := hp125
  show V _ _ _ _ _ _ _ _ _ _ _ _ _ _ (53, 570) ([(h, .inr (4, [.ref q1, .ref q9, .ref q25, .int (iI 0), .int (iI 0), .int (iI 0)])), (q25, .inl (K 4, 32, .inr (.inr (.inr (.inr f121)))))] ++ fd dom126 σ127) _ _ [.ref q123, .int (iI 8), .ref q25]
  refine v_aastT B Z129 (E := [(h, .inr (4, [.ref q1, .ref q9, .ref q25, .int (iI 0), .int (iI 0), .int (iI 0)])), (q25, .inl (K 4, 32, .inr (.inr (.inr (.inr f121)))))]) (k0 := 1) (t0 := 4) (ci := 9) (rr := (RX9, TX9, 2)) (i := 8) (E' := [(h, .inr (4, [.ref q1, .ref q9, .ref q25, .int (iI 0), .int (iI 0), .int (iI 0)])), (q25, .inl (K 4, 32, .inr (.inr (.inr (.inr (va_up f121 8 (some q123)))))))]) rfl rfl t131 (cls_Row G130 t131) rfl (vpi (by decide +kernel)) (by decide +kernel) rfl dX4_init_57 ?_
  have H134 := rows_step (i := 8) (r := q123) H122 m132 t131
  generalize va_up f121 8 (some q123) = f133 at H134 ⊢
  show V _ _ _ _ _ _ _ _ _ _ _ _ _ _ (53, 570) ([(h, .inr (4, [.ref q1, .ref q9, .ref q25, .int (iI 0), .int (iI 0), .int (iI 0)])), (q25, .inl (K 4, 32, .inr (.inr (.inr (.inr f133)))))] ++ fd dom126 σ127) _ _ []
  refine v_iinc B (k := 0) (v := iI 9) (lv' := [(1, .int (iI 9)), (0, .ref h)]) dX4_init_58 rfl (by decide +kernel) (by decide +kernel) rfl ?_
  refine v_goto B (tgt := 34) dX4_init_61 (by decide +kernel) ?_
  refine v_iload_n B dX4_init_34 rfl rfl ?_
  refine v_aload_n B dX4_init_35 rfl rfl ?_
  refine v_get B (k0 := 0) (C := RX4) (T := TX4) (N := 6) (ci := 4) hi_k_Diary_X4 rfl rfl 2 (by decide +kernel) (List.mem_of_getElem? (i := 9) rfl) rfl dX4_init_36 ?_
  refine v_alen B (k0 := 1) (t0 := 4) (v := iI 32) rfl rfl (show Int32.ofNat 32 = iI 32 by decide +kernel) dX4_init_39 ?_
  refine v_icmp_ge B (tgt := 64) dX4_init_40 (by decide +kernel) (fun q => absurd q (by decide +kernel)) (fun _ => ?_)
  refine v_aload_n B dX4_init_43 rfl rfl ?_
  refine v_get B (k0 := 0) (C := RX4) (T := TX4) (N := 6) (ci := 4) hi_k_Diary_X4 rfl rfl 2 (by decide +kernel) (List.mem_of_getElem? (i := 9) rfl) rfl dX4_init_44 ?_
  refine v_iload_n B dX4_init_47 rfl rfl ?_
  refine v_new B (C := RX9) (T := TX9) (N := 2) (ci := 9) (fs := [.null, .int (iI 0)]) hi_k_Diary_X9 tyX9 tyX9_ok (List.mem_of_getElem? (i := 8) rfl) (List.mem_of_getElem? (i := 10) rfl) (List.mem_of_getElem? (i := 11) rfl) rfl (by decide +kernel) (by decide +kernel) (by decide +kernel) dX4_init_48 (fun q135 => ?_)
  show V _ _ _ _ _ _ _ _ _ _ _ _ _ _ (54, 572) (([(h, .inr (4, [.ref q1, .ref q9, .ref q25, .int (iI 0), .int (iI 0), .int (iI 0)])), (q25, .inl (K 4, 32, .inr (.inr (.inr (.inr f133)))))] ++ fd dom126 σ127) ++ [(q135, .inr (9, [.null, .int (iI 0)]))]) _ _ [.ref q135, .int (iI 9), .ref q25]
  refine v_perm (pm1 [(h, .inr (4, [.ref q1, .ref q9, .ref q25, .int (iI 0), .int (iI 0), .int (iI 0)])), (q25, .inl (K 4, 32, .inr (.inr (.inr (.inr f133)))))] (fd dom126 σ127) (q135, .inr (9, [.null, .int (iI 0)]))) ?_
  refine v_dup B dX4_init_51 rfl ?_
  refine v_bipush B (v := iI 40) dX4_init_52 (by decide +kernel) ?_
  refine v_callIv B (b := q135) (n := 1) (As := [.int (iI 40)]) (rest := [.ref q135, .int (iI 9), .ref q25]) (wc := (q135, .inr (9, [.null, .int (iI 0)])) :: fd dom126 σ127) (wr := [(h, .inr (4, [.ref q1, .ref q9, .ref q25, .int (iI 0), .int (iI 0), .int (iI 0)])), (q25, .inl (K 4, 32, .inr (.inr (.inr (.inr f133)))))]) (k_Row l D K Z129 G130 q135 16 40 (iI 40) (by decide +kernel)) gd_k_Diary_k_Row_26 rfl rfl rfl (by decide +kernel) ⟨by decide +kernel, by decide +kernel⟩ (List.mem_of_getElem? (i := 11) rfl) (List.mem_of_getElem? (i := 12) rfl) (List.mem_of_getElem? (i := 13) rfl) rfl (sp_app _ _) rfl rfl (Nat.le_of_ble_eq_true rfl) dX4_init_54 ⟨by decide +kernel, by decide +kernel⟩ (fun u136 hp137 => ?_)
  obtain ⟨dom138, σ139, τ140⟩ := u136
  obtain ⟨Z141, G142, t143, m144⟩ := hp137
  show V _ _ _ _ _ _ _ _ _ _ _ _ _ _ (55, 612) ([(h, .inr (4, [.ref q1, .ref q9, .ref q25, .int (iI 0), .int (iI 0), .int (iI 0)])), (q25, .inl (K 4, 32, .inr (.inr (.inr (.inr f133)))))] ++ fd dom138 σ139) _ _ [.ref q135, .int (iI 9), .ref q25]
  refine v_aastT B Z141 (E := [(h, .inr (4, [.ref q1, .ref q9, .ref q25, .int (iI 0), .int (iI 0), .int (iI 0)])), (q25, .inl (K 4, 32, .inr (.inr (.inr (.inr f133)))))]) (k0 := 1) (t0 := 4) (ci := 9) (rr := (RX9, TX9, 2)) (i := 9) (E' := [(h, .inr (4, [.ref q1, .ref q9, .ref q25, .int (iI 0), .int (iI 0), .int (iI 0)])), (q25, .inl (K 4, 32, .inr (.inr (.inr (.inr (va_up f133 9 (some q135)))))))]) rfl rfl t143 (cls_Row G142 t143) rfl (vpi (by decide +kernel)) (by decide +kernel) rfl dX4_init_57 ?_
  have H146 := rows_step (i := 9) (r := q135) H134 m144 t143
  generalize va_up f133 9 (some q135) = f145 at H146 ⊢
  show V _ _ _ _ _ _ _ _ _ _ _ _ _ _ (55, 612) ([(h, .inr (4, [.ref q1, .ref q9, .ref q25, .int (iI 0), .int (iI 0), .int (iI 0)])), (q25, .inl (K 4, 32, .inr (.inr (.inr (.inr f145)))))] ++ fd dom138 σ139) _ _ []
  refine v_iinc B (k := 0) (v := iI 10) (lv' := [(1, .int (iI 10)), (0, .ref h)]) dX4_init_58 rfl (by decide +kernel) (by decide +kernel) rfl ?_
  refine v_goto B (tgt := 34) dX4_init_61 (by decide +kernel) ?_
  refine v_iload_n B dX4_init_34 rfl rfl ?_
  refine v_aload_n B dX4_init_35 rfl rfl ?_
  refine v_get B (k0 := 0) (C := RX4) (T := TX4) (N := 6) (ci := 4) hi_k_Diary_X4 rfl rfl 2 (by decide +kernel) (List.mem_of_getElem? (i := 9) rfl) rfl dX4_init_36 ?_
  refine v_alen B (k0 := 1) (t0 := 4) (v := iI 32) rfl rfl (show Int32.ofNat 32 = iI 32 by decide +kernel) dX4_init_39 ?_
  refine v_icmp_ge B (tgt := 64) dX4_init_40 (by decide +kernel) (fun q => absurd q (by decide +kernel)) (fun _ => ?_)
  refine v_aload_n B dX4_init_43 rfl rfl ?_
  refine v_get B (k0 := 0) (C := RX4) (T := TX4) (N := 6) (ci := 4) hi_k_Diary_X4 rfl rfl 2 (by decide +kernel) (List.mem_of_getElem? (i := 9) rfl) rfl dX4_init_44 ?_
  refine v_iload_n B dX4_init_47 rfl rfl ?_
  refine v_new B (C := RX9) (T := TX9) (N := 2) (ci := 9) (fs := [.null, .int (iI 0)]) hi_k_Diary_X9 tyX9 tyX9_ok (List.mem_of_getElem? (i := 8) rfl) (List.mem_of_getElem? (i := 10) rfl) (List.mem_of_getElem? (i := 11) rfl) rfl (by decide +kernel) (by decide +kernel) (by decide +kernel) dX4_init_48 (fun q147 => ?_)
  show V _ _ _ _ _ _ _ _ _ _ _ _ _ _ (56, 614) (([(h, .inr (4, [.ref q1, .ref q9, .ref q25, .int (iI 0), .int (iI 0), .int (iI 0)])), (q25, .inl (K 4, 32, .inr (.inr (.inr (.inr f145)))))] ++ fd dom138 σ139) ++ [(q147, .inr (9, [.null, .int (iI 0)]))]) _ _ [.ref q147, .int (iI 10), .ref q25]
  refine v_perm (pm1 [(h, .inr (4, [.ref q1, .ref q9, .ref q25, .int (iI 0), .int (iI 0), .int (iI 0)])), (q25, .inl (K 4, 32, .inr (.inr (.inr (.inr f145)))))] (fd dom138 σ139) (q147, .inr (9, [.null, .int (iI 0)]))) ?_
  refine v_dup B dX4_init_51 rfl ?_
  refine v_bipush B (v := iI 40) dX4_init_52 (by decide +kernel) ?_
  refine v_callIv B (b := q147) (n := 1) (As := [.int (iI 40)]) (rest := [.ref q147, .int (iI 10), .ref q25]) (wc := (q147, .inr (9, [.null, .int (iI 0)])) :: fd dom138 σ139) (wr := [(h, .inr (4, [.ref q1, .ref q9, .ref q25, .int (iI 0), .int (iI 0), .int (iI 0)])), (q25, .inl (K 4, 32, .inr (.inr (.inr (.inr f145)))))]) (k_Row l D K Z141 G142 q147 16 40 (iI 40) (by decide +kernel)) gd_k_Diary_k_Row_26 rfl rfl rfl (by decide +kernel) ⟨by decide +kernel, by decide +kernel⟩ (List.mem_of_getElem? (i := 11) rfl) (List.mem_of_getElem? (i := 12) rfl) (List.mem_of_getElem? (i := 13) rfl) rfl (sp_app _ _) rfl rfl (Nat.le_of_ble_eq_true rfl) dX4_init_54 ⟨by decide +kernel, by decide +kernel⟩ (fun u148 hp149 => ?_)
  obtain ⟨dom150, σ151, τ152⟩ := u148
  obtain ⟨Z153, G154, t155, m156⟩ := hp149
  show V _ _ _ _ _ _ _ _ _ _ _ _ _ _ (57, 654) ([(h, .inr (4, [.ref q1, .ref q9, .ref q25, .int (iI 0), .int (iI 0), .int (iI 0)])), (q25, .inl (K 4, 32, .inr (.inr (.inr (.inr f145)))))] ++ fd dom150 σ151) _ _ [.ref q147, .int (iI 10), .ref q25]
  refine v_aastT B Z153 (E := [(h, .inr (4, [.ref q1, .ref q9, .ref q25, .int (iI 0), .int (iI 0), .int (iI 0)])), (q25, .inl (K 4, 32, .inr (.inr (.inr (.inr f145)))))]) (k0 := 1) (t0 := 4) (ci := 9) (rr := (RX9, TX9, 2)) (i := 10) (E' := [(h, .inr (4, [.ref q1, .ref q9, .ref q25, .int (iI 0), .int (iI 0), .int (iI 0)])), (q25, .inl (K 4, 32, .inr (.inr (.inr (.inr (va_up f145 10 (some q147)))))))]) rfl rfl t155 (cls_Row G154 t155) rfl (vpi (by decide +kernel)) (by decide +kernel) rfl dX4_init_57 ?_
  have H158 := rows_step (i := 10) (r := q147) H146 m156 t155
  generalize va_up f145 10 (some q147) = f157 at H158 ⊢
  show V _ _ _ _ _ _ _ _ _ _ _ _ _ _ (57, 654) ([(h, .inr (4, [.ref q1, .ref q9, .ref q25, .int (iI 0), .int (iI 0), .int (iI 0)])), (q25, .inl (K 4, 32, .inr (.inr (.inr (.inr f157)))))] ++ fd dom150 σ151) _ _ []
  refine v_iinc B (k := 0) (v := iI 11) (lv' := [(1, .int (iI 11)), (0, .ref h)]) dX4_init_58 rfl (by decide +kernel) (by decide +kernel) rfl ?_
  refine v_goto B (tgt := 34) dX4_init_61 (by decide +kernel) ?_
  refine v_iload_n B dX4_init_34 rfl rfl ?_
  refine v_aload_n B dX4_init_35 rfl rfl ?_
  refine v_get B (k0 := 0) (C := RX4) (T := TX4) (N := 6) (ci := 4) hi_k_Diary_X4 rfl rfl 2 (by decide +kernel) (List.mem_of_getElem? (i := 9) rfl) rfl dX4_init_36 ?_
  refine v_alen B (k0 := 1) (t0 := 4) (v := iI 32) rfl rfl (show Int32.ofNat 32 = iI 32 by decide +kernel) dX4_init_39 ?_
  refine v_icmp_ge B (tgt := 64) dX4_init_40 (by decide +kernel) (fun q => absurd q (by decide +kernel)) (fun _ => ?_)
  refine v_aload_n B dX4_init_43 rfl rfl ?_
  refine v_get B (k0 := 0) (C := RX4) (T := TX4) (N := 6) (ci := 4) hi_k_Diary_X4 rfl rfl 2 (by decide +kernel) (List.mem_of_getElem? (i := 9) rfl) rfl dX4_init_44 ?_
  refine v_iload_n B dX4_init_47 rfl rfl ?_
  refine v_new B (C := RX9) (T := TX9) (N := 2) (ci := 9) (fs := [.null, .int (iI 0)]) hi_k_Diary_X9 tyX9 tyX9_ok (List.mem_of_getElem? (i := 8) rfl) (List.mem_of_getElem? (i := 10) rfl) (List.mem_of_getElem? (i := 11) rfl) rfl (by decide +kernel) (by decide +kernel) (by decide +kernel) dX4_init_48 (fun q159 => ?_)
  show V _ _ _ _ _ _ _ _ _ _ _ _ _ _ (58, 656) (([(h, .inr (4, [.ref q1, .ref q9, .ref q25, .int (iI 0), .int (iI 0), .int (iI 0)])), (q25, .inl (K 4, 32, .inr (.inr (.inr (.inr f157)))))] ++ fd dom150 σ151) ++ [(q159, .inr (9, [.null, .int (iI 0)]))]) _ _ [.ref q159, .int (iI 11), .ref q25]
  refine v_perm (pm1 [(h, .inr (4, [.ref q1, .ref q9, .ref q25, .int (iI 0), .int (iI 0), .int (iI 0)])), (q25, .inl (K 4, 32, .inr (.inr (.inr (.inr f157)))))] (fd dom150 σ151) (q159, .inr (9, [.null, .int (iI 0)]))) ?_
  refine v_dup B dX4_init_51 rfl ?_
  refine v_bipush B (v := iI 40) dX4_init_52 (by decide +kernel) ?_
  refine v_callIv B (b := q159) (n := 1) (As := [.int (iI 40)]) (rest := [.ref q159, .int (iI 11), .ref q25]) (wc := (q159, .inr (9, [.null, .int (iI 0)])) :: fd dom150 σ151) (wr := [(h, .inr (4, [.ref q1, .ref q9, .ref q25, .int (iI 0), .int (iI 0), .int (iI 0)])), (q25, .inl (K 4, 32, .inr (.inr (.inr (.inr f157)))))]) (k_Row l D K Z153 G154 q159 16 40 (iI 40) (by decide +kernel)) gd_k_Diary_k_Row_26 rfl rfl rfl (by decide +kernel) ⟨by decide +kernel, by decide +kernel⟩ (List.mem_of_getElem? (i := 11) rfl) (List.mem_of_getElem? (i := 12) rfl) (List.mem_of_getElem? (i := 13) rfl) rfl (sp_app _ _) rfl rfl (Nat.le_of_ble_eq_true rfl) dX4_init_54 ⟨by decide +kernel, by decide +kernel⟩ (fun u160 hp161 => ?_)
  obtain ⟨dom162, σ163, τ164⟩ := u160
  obtain ⟨Z165, G166, t167, m168⟩ := hp161
  show V _ _ _ _ _ _ _ _ _ _ _ _ _ _ (59, 696) ([(h, .inr (4, [.ref q1, .ref q9, .ref q25, .int (iI 0), .int (iI 0), .int (iI 0)])), (q25, .inl (K 4, 32, .inr (.inr (.inr (.inr f157)))))] ++ fd dom162 σ163) _ _ [.ref q159, .int (iI 11), .ref q25]
  refine v_aastT B Z165 (E := [(h, .inr (4, [.ref q1, .ref q9, .ref q25, .int (iI 0), .int (iI 0), .int (iI 0)])), (q25, .inl (K 4, 32, .inr (.inr (.inr (.inr f157)))))]) (k0 := 1) (t0 := 4) (ci := 9) (rr := (RX9, TX9, 2)) (i := 11) (E' := [(h, .inr (4, [.ref q1, .ref q9, .ref q25, .int (iI 0), .int (iI 0), .int (iI 0)])), (q25, .inl (K 4, 32, .inr (.inr (.inr (.inr (va_up f157 11 (some q159)))))))]) rfl rfl t167 (cls_Row G166 t167) rfl (vpi (by decide +kernel)) (by decide +kernel) rfl dX4_init_57 ?_
  have H170 := rows_step (i := 11) (r := q159) H158 m168 t167
  generalize va_up f157 11 (some q159) = f169 at H170 ⊢
  show V _ _ _ _ _ _ _ _ _ _ _ _ _ _ (59, 696) ([(h, .inr (4, [.ref q1, .ref q9, .ref q25, .int (iI 0), .int (iI 0), .int (iI 0)])), (q25, .inl (K 4, 32, .inr (.inr (.inr (.inr f169)))))] ++ fd dom162 σ163) _ _ []
  refine v_iinc B (k := 0) (v := iI 12) (lv' := [(1, .int (iI 12)), (0, .ref h)]) dX4_init_58 rfl (by decide +kernel) (by decide +kernel) rfl ?_
  refine v_goto B (tgt := 34) dX4_init_61 (by decide +kernel) ?_
  refine v_iload_n B dX4_init_34 rfl rfl ?_
  refine v_aload_n B dX4_init_35 rfl rfl ?_
  refine v_get B (k0 := 0) (C := RX4) (T := TX4) (N := 6) (ci := 4) hi_k_Diary_X4 rfl rfl 2 (by decide +kernel) (List.mem_of_getElem? (i := 9) rfl) rfl dX4_init_36 ?_
  refine v_alen B (k0 := 1) (t0 := 4) (v := iI 32) rfl rfl (show Int32.ofNat 32 = iI 32 by decide +kernel) dX4_init_39 ?_
  refine v_icmp_ge B (tgt := 64) dX4_init_40 (by decide +kernel) (fun q => absurd q (by decide +kernel)) (fun _ => ?_)
  refine v_aload_n B dX4_init_43 rfl rfl ?_
  refine v_get B (k0 := 0) (C := RX4) (T := TX4) (N := 6) (ci := 4) hi_k_Diary_X4 rfl rfl 2 (by decide +kernel) (List.mem_of_getElem? (i := 9) rfl) rfl dX4_init_44 ?_
  refine v_iload_n B dX4_init_47 rfl rfl ?_
  refine v_new B (C := RX9) (T := TX9) (N := 2) (ci := 9) (fs := [.null, .int (iI 0)]) hi_k_Diary_X9 tyX9 tyX9_ok (List.mem_of_getElem? (i := 8) rfl) (List.mem_of_getElem? (i := 10) rfl) (List.mem_of_getElem? (i := 11) rfl) rfl (by decide +kernel) (by decide +kernel) (by decide +kernel) dX4_init_48 (fun q171 => ?_)
  show V _ _ _ _ _ _ _ _ _ _ _ _ _ _ (60, 698) (([(h, .inr (4, [.ref q1, .ref q9, .ref q25, .int (iI 0), .int (iI 0), .int (iI 0)])), (q25, .inl (K 4, 32, .inr (.inr (.inr (.inr f169)))))] ++ fd dom162 σ163) ++ [(q171, .inr (9, [.null, .int (iI 0)]))]) _ _ [.ref q171, .int (iI 12), .ref q25]
  refine v_perm (pm1 [(h, .inr (4, [.ref q1, .ref q9, .ref q25, .int (iI 0), .int (iI 0), .int (iI 0)])), (q25, .inl (K 4, 32, .inr (.inr (.inr (.inr f169)))))] (fd dom162 σ163) (q171, .inr (9, [.null, .int (iI 0)]))) ?_
  refine v_dup B dX4_init_51 rfl ?_
  refine v_bipush B (v := iI 40) dX4_init_52 (by decide +kernel) ?_
  refine v_callIv B (b := q171) (n := 1) (As := [.int (iI 40)]) (rest := [.ref q171, .int (iI 12), .ref q25]) (wc := (q171, .inr (9, [.null, .int (iI 0)])) :: fd dom162 σ163) (wr := [(h, .inr (4, [.ref q1, .ref q9, .ref q25, .int (iI 0), .int (iI 0), .int (iI 0)])), (q25, .inl (K 4, 32, .inr (.inr (.inr (.inr f169)))))]) (k_Row l D K Z165 G166 q171 16 40 (iI 40) (by decide +kernel)) gd_k_Diary_k_Row_26 rfl rfl rfl (by decide +kernel) ⟨by decide +kernel, by decide +kernel⟩ (List.mem_of_getElem? (i := 11) rfl) (List.mem_of_getElem? (i := 12) rfl) (List.mem_of_getElem? (i := 13) rfl) rfl (sp_app _ _) rfl rfl (Nat.le_of_ble_eq_true rfl) dX4_init_54 ⟨by decide +kernel, by decide +kernel⟩ (fun u172 hp173 => ?_)
  obtain ⟨dom174, σ175, τ176⟩ := u172
  obtain ⟨Z177, G178, t179, m180⟩ := hp173
  show V _ _ _ _ _ _ _ _ _ _ _ _ _ _ (61, 738) ([(h, .inr (4, [.ref q1, .ref q9, .ref q25, .int (iI 0), .int (iI 0), .int (iI 0)])), (q25, .inl (K 4, 32, .inr (.inr (.inr (.inr f169)))))] ++ fd dom174 σ175) _ _ [.ref q171, .int (iI 12), .ref q25]
  refine v_aastT B Z177 (E := [(h, .inr (4, [.ref q1, .ref q9, .ref q25, .int (iI 0), .int (iI 0), .int (iI 0)])), (q25, .inl (K 4, 32, .inr (.inr (.inr (.inr f169)))))]) (k0 := 1) (t0 := 4) (ci := 9) (rr := (RX9, TX9, 2)) (i := 12) (E' := [(h, .inr (4, [.ref q1, .ref q9, .ref q25, .int (iI 0), .int (iI 0), .int (iI 0)])), (q25, .inl (K 4, 32, .inr (.inr (.inr (.inr (va_up f169 12 (some q171)))))))]) rfl rfl t179 (cls_Row G178 t179) rfl (vpi (by decide +kernel)) (by decide +kernel) rfl dX4_init_57 ?_
  have H182 := rows_step (i := 12) (r := q171) H170 m180 t179
  generalize va_up f169 12 (some q171) = f181 at H182 ⊢
  show V _ _ _ _ _ _ _ _ _ _ _ _ _ _ (61, 738) ([(h, .inr (4, [.ref q1, .ref q9, .ref q25, .int (iI 0), .int (iI 0), .int (iI 0)])), (q25, .inl (K 4, 32, .inr (.inr (.inr (.inr f181)))))] ++ fd dom174 σ175) _ _ []
  refine v_iinc B (k := 0) (v := iI 13) (lv' := [(1, .int (iI 13)), (0, .ref h)]) dX4_init_58 rfl (by decide +kernel) (by decide +kernel) rfl ?_
  refine v_goto B (tgt := 34) dX4_init_61 (by decide +kernel) ?_
  refine v_iload_n B dX4_init_34 rfl rfl ?_
  refine v_aload_n B dX4_init_35 rfl rfl ?_
  refine v_get B (k0 := 0) (C := RX4) (T := TX4) (N := 6) (ci := 4) hi_k_Diary_X4 rfl rfl 2 (by decide +kernel) (List.mem_of_getElem? (i := 9) rfl) rfl dX4_init_36 ?_
  refine v_alen B (k0 := 1) (t0 := 4) (v := iI 32) rfl rfl (show Int32.ofNat 32 = iI 32 by decide +kernel) dX4_init_39 ?_
  refine v_icmp_ge B (tgt := 64) dX4_init_40 (by decide +kernel) (fun q => absurd q (by decide +kernel)) (fun _ => ?_)
  refine v_aload_n B dX4_init_43 rfl rfl ?_
  refine v_get B (k0 := 0) (C := RX4) (T := TX4) (N := 6) (ci := 4) hi_k_Diary_X4 rfl rfl 2 (by decide +kernel) (List.mem_of_getElem? (i := 9) rfl) rfl dX4_init_44 ?_
  refine v_iload_n B dX4_init_47 rfl rfl ?_
  refine v_new B (C := RX9) (T := TX9) (N := 2) (ci := 9) (fs := [.null, .int (iI 0)]) hi_k_Diary_X9 tyX9 tyX9_ok (List.mem_of_getElem? (i := 8) rfl) (List.mem_of_getElem? (i := 10) rfl) (List.mem_of_getElem? (i := 11) rfl) rfl (by decide +kernel) (by decide +kernel) (by decide +kernel) dX4_init_48 (fun q183 => ?_)
  show V _ _ _ _ _ _ _ _ _ _ _ _ _ _ (62, 740) (([(h, .inr (4, [.ref q1, .ref q9, .ref q25, .int (iI 0), .int (iI 0), .int (iI 0)])), (q25, .inl (K 4, 32, .inr (.inr (.inr (.inr f181)))))] ++ fd dom174 σ175) ++ [(q183, .inr (9, [.null, .int (iI 0)]))]) _ _ [.ref q183, .int (iI 13), .ref q25]
  refine v_perm (pm1 [(h, .inr (4, [.ref q1, .ref q9, .ref q25, .int (iI 0), .int (iI 0), .int (iI 0)])), (q25, .inl (K 4, 32, .inr (.inr (.inr (.inr f181)))))] (fd dom174 σ175) (q183, .inr (9, [.null, .int (iI 0)]))) ?_
  refine v_dup B dX4_init_51 rfl ?_
  refine v_bipush B (v := iI 40) dX4_init_52 (by decide +kernel) ?_
  refine v_callIv B (b := q183) (n := 1) (As := [.int (iI 40)]) (rest := [.ref q183, .int (iI 13), .ref q25]) (wc := (q183, .inr (9, [.null, .int (iI 0)])) :: fd dom174 σ175) (wr := [(h, .inr (4, [.ref q1, .ref q9, .ref q25, .int (iI 0), .int (iI 0), .int (iI 0)])), (q25, .inl (K 4, 32, .inr (.inr (.inr (.inr f181)))))]) (k_Row l D K Z177 G178 q183 16 40 (iI 40) (by decide +kernel)) gd_k_Diary_k_Row_26 rfl rfl rfl (by decide +kernel) ⟨by decide +kernel, by decide +kernel⟩ (List.mem_of_getElem? (i := 11) rfl) (List.mem_of_getElem? (i := 12) rfl) (List.mem_of_getElem? (i := 13) rfl) rfl (sp_app _ _) rfl rfl (Nat.le_of_ble_eq_true rfl) dX4_init_54 ⟨by decide +kernel, by decide +kernel⟩ (fun u184 hp185 => ?_)
  obtain ⟨dom186, σ187, τ188⟩ := u184
  obtain ⟨Z189, G190, t191, m192⟩ := hp185
  show V _ _ _ _ _ _ _ _ _ _ _ _ _ _ (63, 780) ([(h, .inr (4, [.ref q1, .ref q9, .ref q25, .int (iI 0), .int (iI 0), .int (iI 0)])), (q25, .inl (K 4, 32, .inr (.inr (.inr (.inr f181)))))] ++ fd dom186 σ187) _ _ [.ref q183, .int (iI 13), .ref q25]
  refine v_aastT B Z189 (E := [(h, .inr (4, [.ref q1, .ref q9, .ref q25, .int (iI 0), .int (iI 0), .int (iI 0)])), (q25, .inl (K 4, 32, .inr (.inr (.inr (.inr f181)))))]) (k0 := 1) (t0 := 4) (ci := 9) (rr := (RX9, TX9, 2)) (i := 13) (E' := [(h, .inr (4, [.ref q1, .ref q9, .ref q25, .int (iI 0), .int (iI 0), .int (iI 0)])), (q25, .inl (K 4, 32, .inr (.inr (.inr (.inr (va_up f181 13 (some q183)))))))]) rfl rfl t191 (cls_Row G190 t191) rfl (vpi (by decide +kernel)) (by decide +kernel) rfl dX4_init_57 ?_
  have H194 := rows_step (i := 13) (r := q183) H182 m192 t191
  generalize va_up f181 13 (some q183) = f193 at H194 ⊢
  show V _ _ _ _ _ _ _ _ _ _ _ _ _ _ (63, 780) ([(h, .inr (4, [.ref q1, .ref q9, .ref q25, .int (iI 0), .int (iI 0), .int (iI 0)])), (q25, .inl (K 4, 32, .inr (.inr (.inr (.inr f193)))))] ++ fd dom186 σ187) _ _ []
  refine v_iinc B (k := 0) (v := iI 14) (lv' := [(1, .int (iI 14)), (0, .ref h)]) dX4_init_58 rfl (by decide +kernel) (by decide +kernel) rfl ?_
  refine v_goto B (tgt := 34) dX4_init_61 (by decide +kernel) ?_
  refine v_iload_n B dX4_init_34 rfl rfl ?_
  refine v_aload_n B dX4_init_35 rfl rfl ?_
  refine v_get B (k0 := 0) (C := RX4) (T := TX4) (N := 6) (ci := 4) hi_k_Diary_X4 rfl rfl 2 (by decide +kernel) (List.mem_of_getElem? (i := 9) rfl) rfl dX4_init_36 ?_
  refine v_alen B (k0 := 1) (t0 := 4) (v := iI 32) rfl rfl (show Int32.ofNat 32 = iI 32 by decide +kernel) dX4_init_39 ?_
  refine v_icmp_ge B (tgt := 64) dX4_init_40 (by decide +kernel) (fun q => absurd q (by decide +kernel)) (fun _ => ?_)
  refine v_aload_n B dX4_init_43 rfl rfl ?_
  refine v_get B (k0 := 0) (C := RX4) (T := TX4) (N := 6) (ci := 4) hi_k_Diary_X4 rfl rfl 2 (by decide +kernel) (List.mem_of_getElem? (i := 9) rfl) rfl dX4_init_44 ?_
  refine v_iload_n B dX4_init_47 rfl rfl ?_
  refine v_new B (C := RX9) (T := TX9) (N := 2) (ci := 9) (fs := [.null, .int (iI 0)]) hi_k_Diary_X9 tyX9 tyX9_ok (List.mem_of_getElem? (i := 8) rfl) (List.mem_of_getElem? (i := 10) rfl) (List.mem_of_getElem? (i := 11) rfl) rfl (by decide +kernel) (by decide +kernel) (by decide +kernel) dX4_init_48 (fun q195 => ?_)
  show V _ _ _ _ _ _ _ _ _ _ _ _ _ _ (64, 782) (([(h, .inr (4, [.ref q1, .ref q9, .ref q25, .int (iI 0), .int (iI 0), .int (iI 0)])), (q25, .inl (K 4, 32, .inr (.inr (.inr (.inr f193)))))] ++ fd dom186 σ187) ++ [(q195, .inr (9, [.null, .int (iI 0)]))]) _ _ [.ref q195, .int (iI 14), .ref q25]
  refine v_perm (pm1 [(h, .inr (4, [.ref q1, .ref q9, .ref q25, .int (iI 0), .int (iI 0), .int (iI 0)])), (q25, .inl (K 4, 32, .inr (.inr (.inr (.inr f193)))))] (fd dom186 σ187) (q195, .inr (9, [.null, .int (iI 0)]))) ?_
  refine v_dup B dX4_init_51 rfl ?_
  refine v_bipush B (v := iI 40) dX4_init_52 (by decide +kernel) ?_
  refine v_callIv B (b := q195) (n := 1) (As := [.int (iI 40)]) (rest := [.ref q195, .int (iI 14), .ref q25]) (wc := (q195, .inr (9, [.null, .int (iI 0)])) :: fd dom186 σ187) (wr := [(h, .inr (4, [.ref q1, .ref q9, .ref q25, .int (iI 0), .int (iI 0), .int (iI 0)])), (q25, .inl (K 4, 32, .inr (.inr (.inr (.inr f193)))))]) (k_Row l D K Z189 G190 q195 16 40 (iI 40) (by decide +kernel)) gd_k_Diary_k_Row_26 rfl rfl rfl (by decide +kernel) ⟨by decide +kernel, by decide +kernel⟩ (List.mem_of_getElem? (i := 11) rfl) (List.mem_of_getElem? (i := 12) rfl) (List.mem_of_getElem? (i := 13) rfl) rfl (sp_app _ _) rfl rfl (Nat.le_of_ble_eq_true rfl) dX4_init_54 ⟨by decide +kernel, by decide +kernel⟩ (fun u196 hp197 => ?_)
  obtain ⟨dom198, σ199, τ200⟩ := u196
  obtain ⟨Z201, G202, t203, m204⟩ := hp197
  show V _ _ _ _ _ _ _ _ _ _ _ _ _ _ (65, 822) ([(h, .inr (4, [.ref q1, .ref q9, .ref q25, .int (iI 0), .int (iI 0), .int (iI 0)])), (q25, .inl (K 4, 32, .inr (.inr (.inr (.inr f193)))))] ++ fd dom198 σ199) _ _ [.ref q195, .int (iI 14), .ref q25]
  refine v_aastT B Z201 (E := [(h, .inr (4, [.ref q1, .ref q9, .ref q25, .int (iI 0), .int (iI 0), .int (iI 0)])), (q25, .inl (K 4, 32, .inr (.inr (.inr (.inr f193)))))]) (k0 := 1) (t0 := 4) (ci := 9) (rr := (RX9, TX9, 2)) (i := 14) (E' := [(h, .inr (4, [.ref q1, .ref q9, .ref q25, .int (iI 0), .int (iI 0), .int (iI 0)])), (q25, .inl (K 4, 32, .inr (.inr (.inr (.inr (va_up f193 14 (some q195)))))))]) rfl rfl t203 (cls_Row G202 t203) rfl (vpi (by decide +kernel)) (by decide +kernel) rfl dX4_init_57 ?_
  have H206 := rows_step (i := 14) (r := q195) H194 m204 t203
  generalize va_up f193 14 (some q195) = f205 at H206 ⊢
  show V _ _ _ _ _ _ _ _ _ _ _ _ _ _ (65, 822) ([(h, .inr (4, [.ref q1, .ref q9, .ref q25, .int (iI 0), .int (iI 0), .int (iI 0)])), (q25, .inl (K 4, 32, .inr (.inr (.inr (.inr f205)))))] ++ fd dom198 σ199) _ _ []
  refine v_iinc B (k := 0) (v := iI 15) (lv' := [(1, .int (iI 15)), (0, .ref h)]) dX4_init_58 rfl (by decide +kernel) (by decide +kernel) rfl ?_
  refine v_goto B (tgt := 34) dX4_init_61 (by decide +kernel) ?_
  refine v_iload_n B dX4_init_34 rfl rfl ?_
  refine v_aload_n B dX4_init_35 rfl rfl ?_
  refine v_get B (k0 := 0) (C := RX4) (T := TX4) (N := 6) (ci := 4) hi_k_Diary_X4 rfl rfl 2 (by decide +kernel) (List.mem_of_getElem? (i := 9) rfl) rfl dX4_init_36 ?_
  refine v_alen B (k0 := 1) (t0 := 4) (v := iI 32) rfl rfl (show Int32.ofNat 32 = iI 32 by decide +kernel) dX4_init_39 ?_
  refine v_icmp_ge B (tgt := 64) dX4_init_40 (by decide +kernel) (fun q => absurd q (by decide +kernel)) (fun _ => ?_)
  refine v_aload_n B dX4_init_43 rfl rfl ?_
  refine v_get B (k0 := 0) (C := RX4) (T := TX4) (N := 6) (ci := 4) hi_k_Diary_X4 rfl rfl 2 (by decide +kernel) (List.mem_of_getElem? (i := 9) rfl) rfl dX4_init_44 ?_
  refine v_iload_n B dX4_init_47 rfl rfl ?_
  refine v_new B (C := RX9) (T := TX9) (N := 2) (ci := 9) (fs := [.null, .int (iI 0)]) hi_k_Diary_X9 tyX9 tyX9_ok (List.mem_of_getElem? (i := 8) rfl) (List.mem_of_getElem? (i := 10) rfl) (List.mem_of_getElem? (i := 11) rfl) rfl (by decide +kernel) (by decide +kernel) (by decide +kernel) dX4_init_48 (fun q207 => ?_)
  show V _ _ _ _ _ _ _ _ _ _ _ _ _ _ (66, 824) (([(h, .inr (4, [.ref q1, .ref q9, .ref q25, .int (iI 0), .int (iI 0), .int (iI 0)])), (q25, .inl (K 4, 32, .inr (.inr (.inr (.inr f205)))))] ++ fd dom198 σ199) ++ [(q207, .inr (9, [.null, .int (iI 0)]))]) _ _ [.ref q207, .int (iI 15), .ref q25]
  refine v_perm (pm1 [(h, .inr (4, [.ref q1, .ref q9, .ref q25, .int (iI 0), .int (iI 0), .int (iI 0)])), (q25, .inl (K 4, 32, .inr (.inr (.inr (.inr f205)))))] (fd dom198 σ199) (q207, .inr (9, [.null, .int (iI 0)]))) ?_
  refine v_dup B dX4_init_51 rfl ?_
  refine v_bipush B (v := iI 40) dX4_init_52 (by decide +kernel) ?_
  refine v_callIv B (b := q207) (n := 1) (As := [.int (iI 40)]) (rest := [.ref q207, .int (iI 15), .ref q25]) (wc := (q207, .inr (9, [.null, .int (iI 0)])) :: fd dom198 σ199) (wr := [(h, .inr (4, [.ref q1, .ref q9, .ref q25, .int (iI 0), .int (iI 0), .int (iI 0)])), (q25, .inl (K 4, 32, .inr (.inr (.inr (.inr f205)))))]) (k_Row l D K Z201 G202 q207 16 40 (iI 40) (by decide +kernel)) gd_k_Diary_k_Row_26 rfl rfl rfl (by decide +kernel) ⟨by decide +kernel, by decide +kernel⟩ (List.mem_of_getElem? (i := 11) rfl) (List.mem_of_getElem? (i := 12) rfl) (List.mem_of_getElem? (i := 13) rfl) rfl (sp_app _ _) rfl rfl (Nat.le_of_ble_eq_true rfl) dX4_init_54 ⟨by decide +kernel, by decide +kernel⟩ (fun u208 hp209 => ?_)
  obtain ⟨dom210, σ211, τ212⟩ := u208
  obtain ⟨Z213, G214, t215, m216⟩ := hp209
  show V _ _ _ _ _ _ _ _ _ _ _ _ _ _ (67, 864) ([(h, .inr (4, [.ref q1, .ref q9, .ref q25, .int (iI 0), .int (iI 0), .int (iI 0)])), (q25, .inl (K 4, 32, .inr (.inr (.inr (.inr f205)))))] ++ fd dom210 σ211) _ _ [.ref q207, .int (iI 15), .ref q25]
  refine v_aastT B Z213 (E := [(h, .inr (4, [.ref q1, .ref q9, .ref q25, .int (iI 0), .int (iI 0), .int (iI 0)])), (q25, .inl (K 4, 32, .inr (.inr (.inr (.inr f205)))))]) (k0 := 1) (t0 := 4) (ci := 9) (rr := (RX9, TX9, 2)) (i := 15) (E' := [(h, .inr (4, [.ref q1, .ref q9, .ref q25, .int (iI 0), .int (iI 0), .int (iI 0)])), (q25, .inl (K 4, 32, .inr (.inr (.inr (.inr (va_up f205 15 (some q207)))))))]) rfl rfl t215 (cls_Row G214 t215) rfl (vpi (by decide +kernel)) (by decide +kernel) rfl dX4_init_57 ?_
  have H218 := rows_step (i := 15) (r := q207) H206 m216 t215
  generalize va_up f205 15 (some q207) = f217 at H218 ⊢
  show V _ _ _ _ _ _ _ _ _ _ _ _ _ _ (67, 864) ([(h, .inr (4, [.ref q1, .ref q9, .ref q25, .int (iI 0), .int (iI 0), .int (iI 0)])), (q25, .inl (K 4, 32, .inr (.inr (.inr (.inr f217)))))] ++ fd dom210 σ211) _ _ []
  refine v_iinc B (k := 0) (v := iI 16) (lv' := [(1, .int (iI 16)), (0, .ref h)]) dX4_init_58 rfl (by decide +kernel) (by decide +kernel) rfl ?_
  refine v_goto B (tgt := 34) dX4_init_61 (by decide +kernel) ?_
  refine v_iload_n B dX4_init_34 rfl rfl ?_
  refine v_aload_n B dX4_init_35 rfl rfl ?_
  refine v_get B (k0 := 0) (C := RX4) (T := TX4) (N := 6) (ci := 4) hi_k_Diary_X4 rfl rfl 2 (by decide +kernel) (List.mem_of_getElem? (i := 9) rfl) rfl dX4_init_36 ?_
  refine v_alen B (k0 := 1) (t0 := 4) (v := iI 32) rfl rfl (show Int32.ofNat 32 = iI 32 by decide +kernel) dX4_init_39 ?_
  refine v_icmp_ge B (tgt := 64) dX4_init_40 (by decide +kernel) (fun q => absurd q (by decide +kernel)) (fun _ => ?_)
  refine v_aload_n B dX4_init_43 rfl rfl ?_
  refine v_get B (k0 := 0) (C := RX4) (T := TX4) (N := 6) (ci := 4) hi_k_Diary_X4 rfl rfl 2 (by decide +kernel) (List.mem_of_getElem? (i := 9) rfl) rfl dX4_init_44 ?_
  refine v_iload_n B dX4_init_47 rfl rfl ?_
  refine v_new B (C := RX9) (T := TX9) (N := 2) (ci := 9) (fs := [.null, .int (iI 0)]) hi_k_Diary_X9 tyX9 tyX9_ok (List.mem_of_getElem? (i := 8) rfl) (List.mem_of_getElem? (i := 10) rfl) (List.mem_of_getElem? (i := 11) rfl) rfl (by decide +kernel) (by decide +kernel) (by decide +kernel) dX4_init_48 (fun q219 => ?_)
  show V _ _ _ _ _ _ _ _ _ _ _ _ _ _ (68, 866) (([(h, .inr (4, [.ref q1, .ref q9, .ref q25, .int (iI 0), .int (iI 0), .int (iI 0)])), (q25, .inl (K 4, 32, .inr (.inr (.inr (.inr f217)))))] ++ fd dom210 σ211) ++ [(q219, .inr (9, [.null, .int (iI 0)]))]) _ _ [.ref q219, .int (iI 16), .ref q25]
  refine v_perm (pm1 [(h, .inr (4, [.ref q1, .ref q9, .ref q25, .int (iI 0), .int (iI 0), .int (iI 0)])), (q25, .inl (K 4, 32, .inr (.inr (.inr (.inr f217)))))] (fd dom210 σ211) (q219, .inr (9, [.null, .int (iI 0)]))) ?_
  refine v_dup B dX4_init_51 rfl ?_
  refine v_bipush B (v := iI 40) dX4_init_52 (by decide +kernel) ?_
  refine v_callIv B (b := q219) (n := 1) (As := [.int (iI 40)]) (rest := [.ref q219, .int (iI 16), .ref q25]) (wc := (q219, .inr (9, [.null, .int (iI 0)])) :: fd dom210 σ211) (wr := [(h, .inr (4, [.ref q1, .ref q9, .ref q25, .int (iI 0), .int (iI 0), .int (iI 0)])), (q25, .inl (K 4, 32, .inr (.inr (.inr (.inr f217)))))]) (k_Row l D K Z213 G214 q219 16 40 (iI 40) (by decide +kernel)) gd_k_Diary_k_Row_26 rfl rfl rfl (by decide +kernel) ⟨by decide +kernel, by decide +kernel⟩ (List.mem_of_getElem? (i := 11) rfl) (List.mem_of_getElem? (i := 12) rfl) (List.mem_of_getElem? (i := 13) rfl) rfl (sp_app _ _) rfl rfl (Nat.le_of_ble_eq_true rfl) dX4_init_54 ⟨by decide +kernel, by decide +kernel⟩ (fun u220 hp221 => ?_)
  obtain ⟨dom222, σ223, τ224⟩ := u220
  obtain ⟨Z225, G226, t227, m228⟩ := hp221
  show V _ _ _ _ _ _ _ _ _ _ _ _ _ _ (69, 906) ([(h, .inr (4, [.ref q1, .ref q9, .ref q25, .int (iI 0), .int (iI 0), .int (iI 0)])), (q25, .inl (K 4, 32, .inr (.inr (.inr (.inr f217)))))] ++ fd dom222 σ223) _ _ [.ref q219, .int (iI 16), .ref q25]
  refine v_aastT B Z225 (E := [(h, .inr (4, [.ref q1, .ref q9, .ref q25, .int (iI 0), .int (iI 0), .int (iI 0)])), (q25, .inl (K 4, 32, .inr (.inr (.inr (.inr f217)))))]) (k0 := 1) (t0 := 4) (ci := 9) (rr := (RX9, TX9, 2)) (i := 16) (E' := [(h, .inr (4, [.ref q1, .ref q9, .ref q25, .int (iI 0), .int (iI 0), .int (iI 0)])), (q25, .inl (K 4, 32, .inr (.inr (.inr (.inr (va_up f217 16 (some q219)))))))]) rfl rfl t227 (cls_Row G226 t227) rfl (vpi (by decide +kernel)) (by decide +kernel) rfl dX4_init_57 ?_
  have H230 := rows_step (i := 16) (r := q219) H218 m228 t227
  generalize va_up f217 16 (some q219) = f229 at H230 ⊢
  show V _ _ _ _ _ _ _ _ _ _ _ _ _ _ (69, 906) ([(h, .inr (4, [.ref q1, .ref q9, .ref q25, .int (iI 0), .int (iI 0), .int (iI 0)])), (q25, .inl (K 4, 32, .inr (.inr (.inr (.inr f229)))))] ++ fd dom222 σ223) _ _ []
  refine v_iinc B (k := 0) (v := iI 17) (lv' := [(1, .int (iI 17)), (0, .ref h)]) dX4_init_58 rfl (by decide +kernel) (by decide +kernel) rfl ?_
  refine v_goto B (tgt := 34) dX4_init_61 (by decide +kernel) ?_
  refine v_iload_n B dX4_init_34 rfl rfl ?_
  refine v_aload_n B dX4_init_35 rfl rfl ?_
  refine v_get B (k0 := 0) (C := RX4) (T := TX4) (N := 6) (ci := 4) hi_k_Diary_X4 rfl rfl 2 (by decide +kernel) (List.mem_of_getElem? (i := 9) rfl) rfl dX4_init_36 ?_
  refine v_alen B (k0 := 1) (t0 := 4) (v := iI 32) rfl rfl (show Int32.ofNat 32 = iI 32 by decide +kernel) dX4_init_39 ?_
  refine v_icmp_ge B (tgt := 64) dX4_init_40 (by decide +kernel) (fun q => absurd q (by decide +kernel)) (fun _ => ?_)
  refine v_aload_n B dX4_init_43 rfl rfl ?_
  refine v_get B (k0 := 0) (C := RX4) (T := TX4) (N := 6) (ci := 4) hi_k_Diary_X4 rfl rfl 2 (by decide +kernel) (List.mem_of_getElem? (i := 9) rfl) rfl dX4_init_44 ?_
  refine v_iload_n B dX4_init_47 rfl rfl ?_
  refine v_new B (C := RX9) (T := TX9) (N := 2) (ci := 9) (fs := [.null, .int (iI 0)]) hi_k_Diary_X9 tyX9 tyX9_ok (List.mem_of_getElem? (i := 8) rfl) (List.mem_of_getElem? (i := 10) rfl) (List.mem_of_getElem? (i := 11) rfl) rfl (by decide +kernel) (by decide +kernel) (by decide +kernel) dX4_init_48 (fun q231 => ?_)
  show V _ _ _ _ _ _ _ _ _ _ _ _ _ _ (70, 908) (([(h, .inr (4, [.ref q1, .ref q9, .ref q25, .int (iI 0), .int (iI 0), .int (iI 0)])), (q25, .inl (K 4, 32, .inr (.inr (.inr (.inr f229)))))] ++ fd dom222 σ223) ++ [(q231, .inr (9, [.null, .int (iI 0)]))]) _ _ [.ref q231, .int (iI 17), .ref q25]
  refine v_perm (pm1 [(h, .inr (4, [.ref q1, .ref q9, .ref q25, .int (iI 0), .int (iI 0), .int (iI 0)])), (q25, .inl (K 4, 32, .inr (.inr (.inr (.inr f229)))))] (fd dom222 σ223) (q231, .inr (9, [.null, .int (iI 0)]))) ?_
  refine v_dup B dX4_init_51 rfl ?_
  refine v_bipush B (v := iI 40) dX4_init_52 (by decide +kernel) ?_
  refine v_callIv B (b := q231) (n := 1) (As := [.int (iI 40)]) (rest := [.ref q231, .int (iI 17), .ref q25]) (wc := (q231, .inr (9, [.null, .int (iI 0)])) :: fd dom222 σ223) (wr := [(h, .inr (4, [.ref q1, .ref q9, .ref q25, .int (iI 0), .int (iI 0), .int (iI 0)])), (q25, .inl (K 4, 32, .inr (.inr (.inr (.inr f229)))))]) (k_Row l D K Z225 G226 q231 16 40 (iI 40) (by decide +kernel)) gd_k_Diary_k_Row_26 rfl rfl rfl (by decide +kernel) ⟨by decide +kernel, by decide +kernel⟩ (List.mem_of_getElem? (i := 11) rfl) (List.mem_of_getElem? (i := 12) rfl) (List.mem_of_getElem? (i := 13) rfl) rfl (sp_app _ _) rfl rfl (Nat.le_of_ble_eq_true rfl) dX4_init_54 ⟨by decide +kernel, by decide +kernel⟩ (fun u232 hp233 => ?_)
  obtain ⟨dom234, σ235, τ236⟩ := u232
  obtain ⟨Z237, G238, t239, m240⟩ := hp233
  show V _ _ _ _ _ _ _ _ _ _ _ _ _ _ (71, 948) ([(h, .inr (4, [.ref q1, .ref q9, .ref q25, .int (iI 0), .int (iI 0), .int (iI 0)])), (q25, .inl (K 4, 32, .inr (.inr (.inr (.inr f229)))))] ++ fd dom234 σ235) _ _ [.ref q231, .int (iI 17), .ref q25]
  refine v_aastT B Z237 (E := [(h, .inr (4, [.ref q1, .ref q9, .ref q25, .int (iI 0), .int (iI 0), .int (iI 0)])), (q25, .inl (K 4, 32, .inr (.inr (.inr (.inr f229)))))]) (k0 := 1) (t0 := 4) (ci := 9) (rr := (RX9, TX9, 2)) (i := 17) (E' := [(h, .inr (4, [.ref q1, .ref q9, .ref q25, .int (iI 0), .int (iI 0), .int (iI 0)])), (q25, .inl (K 4, 32, .inr (.inr (.inr (.inr (va_up f229 17 (some q231)))))))]) rfl rfl t239 (cls_Row G238 t239) rfl (vpi (by decide +kernel)) (by decide +kernel) rfl dX4_init_57 ?_
  have H242 := rows_step (i := 17) (r := q231) H230 m240 t239
  generalize va_up f229 17 (some q231) = f241 at H242 ⊢
  show V _ _ _ _ _ _ _ _ _ _ _ _ _ _ (71, 948) ([(h, .inr (4, [.ref q1, .ref q9, .ref q25, .int (iI 0), .int (iI 0), .int (iI 0)])), (q25, .inl (K 4, 32, .inr (.inr (.inr (.inr f241)))))] ++ fd dom234 σ235) _ _ []
  refine v_iinc B (k := 0) (v := iI 18) (lv' := [(1, .int (iI 18)), (0, .ref h)]) dX4_init_58 rfl (by decide +kernel) (by decide +kernel) rfl ?_
  refine v_goto B (tgt := 34) dX4_init_61 (by decide +kernel) ?_
  refine v_iload_n B dX4_init_34 rfl rfl ?_
  refine v_aload_n B dX4_init_35 rfl rfl ?_
  refine v_get B (k0 := 0) (C := RX4) (T := TX4) (N := 6) (ci := 4) hi_k_Diary_X4 rfl rfl 2 (by decide +kernel) (List.mem_of_getElem? (i := 9) rfl) rfl dX4_init_36 ?_
  refine v_alen B (k0 := 1) (t0 := 4) (v := iI 32) rfl rfl (show Int32.ofNat 32 = iI 32 by decide +kernel) dX4_init_39 ?_
  refine v_icmp_ge B (tgt := 64) dX4_init_40 (by decide +kernel) (fun q => absurd q (by decide +kernel)) (fun _ => ?_)
  refine v_aload_n B dX4_init_43 rfl rfl ?_
  refine v_get B (k0 := 0) (C := RX4) (T := TX4) (N := 6) (ci := 4) hi_k_Diary_X4 rfl rfl 2 (by decide +kernel) (List.mem_of_getElem? (i := 9) rfl) rfl dX4_init_44 ?_
  refine v_iload_n B dX4_init_47 rfl rfl ?_
  refine v_new B (C := RX9) (T := TX9) (N := 2) (ci := 9) (fs := [.null, .int (iI 0)]) hi_k_Diary_X9 tyX9 tyX9_ok (List.mem_of_getElem? (i := 8) rfl) (List.mem_of_getElem? (i := 10) rfl) (List.mem_of_getElem? (i := 11) rfl) rfl (by decide +kernel) (by decide +kernel) (by decide +kernel) dX4_init_48 (fun q243 => ?_)
  show V _ _ _ _ _ _ _ _ _ _ _ _ _ _ (72, 950) (([(h, .inr (4, [.ref q1, .ref q9, .ref q25, .int (iI 0), .int (iI 0), .int (iI 0)])), (q25, .inl (K 4, 32, .inr (.inr (.inr (.inr f241)))))] ++ fd dom234 σ235) ++ [(q243, .inr (9, [.null, .int (iI 0)]))]) _ _ [.ref q243, .int (iI 18), .ref q25]
  refine v_perm (pm1 [(h, .inr (4, [.ref q1, .ref q9, .ref q25, .int (iI 0), .int (iI 0), .int (iI 0)])), (q25, .inl (K 4, 32, .inr (.inr (.inr (.inr f241)))))] (fd dom234 σ235) (q243, .inr (9, [.null, .int (iI 0)]))) ?_
  refine v_dup B dX4_init_51 rfl ?_
  refine v_bipush B (v := iI 40) dX4_init_52 (by decide +kernel) ?_
  refine v_callIv B (b := q243) (n := 1) (As := [.int (iI 40)]) (rest := [.ref q243, .int (iI 18), .ref q25]) (wc := (q243, .inr (9, [.null, .int (iI 0)])) :: fd dom234 σ235) (wr := [(h, .inr (4, [.ref q1, .ref q9, .ref q25, .int (iI 0), .int (iI 0), .int (iI 0)])), (q25, .inl (K 4, 32, .inr (.inr (.inr (.inr f241)))))]) (k_Row l D K Z237 G238 q243 16 40 (iI 40) (by decide +kernel)) gd_k_Diary_k_Row_26 rfl rfl rfl (by decide +kernel) ⟨by decide +kernel, by decide +kernel⟩ (List.mem_of_getElem? (i := 11) rfl) (List.mem_of_getElem? (i := 12) rfl) (List.mem_of_getElem? (i := 13) rfl) rfl (sp_app _ _) rfl rfl (Nat.le_of_ble_eq_true rfl) dX4_init_54 ⟨by decide +kernel, by decide +kernel⟩ (fun u244 hp245 => ?_)
  obtain ⟨dom246, σ247, τ248⟩ := u244
  obtain ⟨Z249, G250, t251, m252⟩ := hp245
  show V _ _ _ _ _ _ _ _ _ _ _ _ _ _ (73, 990) ([(h, .inr (4, [.ref q1, .ref q9, .ref q25, .int (iI 0), .int (iI 0), .int (iI 0)])), (q25, .inl (K 4, 32, .inr (.inr (.inr (.inr f241)))))] ++ fd dom246 σ247) _ _ [.ref q243, .int (iI 18), .ref q25]
  refine v_aastT B Z249 (E := [(h, .inr (4, [.ref q1, .ref q9, .ref q25, .int (iI 0), .int (iI 0), .int (iI 0)])), (q25, .inl (K 4, 32, .inr (.inr (.inr (.inr f241)))))]) (k0 := 1) (t0 := 4) (ci := 9) (rr := (RX9, TX9, 2)) (i := 18) (E' := [(h, .inr (4, [.ref q1, .ref q9, .ref q25, .int (iI 0), .int (iI 0), .int (iI 0)])), (q25, .inl (K 4, 32, .inr (.inr (.inr (.inr (va_up f241 18 (some q243)))))))]) rfl rfl t251 (cls_Row G250 t251) rfl (vpi (by decide +kernel)) (by decide +kernel) rfl dX4_init_57 ?_
  have H254 := rows_step (i := 18) (r := q243) H242 m252 t251
  generalize va_up f241 18 (some q243) = f253 at H254 ⊢
  show V _ _ _ _ _ _ _ _ _ _ _ _ _ _ (73, 990) ([(h, .inr (4, [.ref q1, .ref q9, .ref q25, .int (iI 0), .int (iI 0), .int (iI 0)])), (q25, .inl (K 4, 32, .inr (.inr (.inr (.inr f253)))))] ++ fd dom246 σ247) _ _ []
  refine v_iinc B (k := 0) (v := iI 19) (lv' := [(1, .int (iI 19)), (0, .ref h)]) dX4_init_58 rfl (by decide +kernel) (by decide +kernel) rfl ?_
  refine v_goto B (tgt := 34) dX4_init_61 (by decide +kernel) ?_
  refine v_iload_n B dX4_init_34 rfl rfl ?_
  refine v_aload_n B dX4_init_35 rfl rfl ?_
  refine v_get B (k0 := 0) (C := RX4) (T := TX4) (N := 6) (ci := 4) hi_k_Diary_X4 rfl rfl 2 (by decide +kernel) (List.mem_of_getElem? (i := 9) rfl) rfl dX4_init_36 ?_
  refine v_alen B (k0 := 1) (t0 := 4) (v := iI 32) rfl rfl (show Int32.ofNat 32 = iI 32 by decide +kernel) dX4_init_39 ?_
  refine v_icmp_ge B (tgt := 64) dX4_init_40 (by decide +kernel) (fun q => absurd q (by decide +kernel)) (fun _ => ?_)
  refine v_aload_n B dX4_init_43 rfl rfl ?_
  refine v_get B (k0 := 0) (C := RX4) (T := TX4) (N := 6) (ci := 4) hi_k_Diary_X4 rfl rfl 2 (by decide +kernel) (List.mem_of_getElem? (i := 9) rfl) rfl dX4_init_44 ?_
  refine v_iload_n B dX4_init_47 rfl rfl ?_
  refine v_new B (C := RX9) (T := TX9) (N := 2) (ci := 9) (fs := [.null, .int (iI 0)]) hi_k_Diary_X9 tyX9 tyX9_ok (List.mem_of_getElem? (i := 8) rfl) (List.mem_of_getElem? (i := 10) rfl) (List.mem_of_getElem? (i := 11) rfl) rfl (by decide +kernel) (by decide +kernel) (by decide +kernel) dX4_init_48 (fun q255 => ?_)
  show V _ _ _ _ _ _ _ _ _ _ _ _ _ _ (74, 992) (([(h, .inr (4, [.ref q1, .ref q9, .ref q25, .int (iI 0), .int (iI 0), .int (iI 0)])), (q25, .inl (K 4, 32, .inr (.inr (.inr (.inr f253)))))] ++ fd dom246 σ247) ++ [(q255, .inr (9, [.null, .int (iI 0)]))]) _ _ [.ref q255, .int (iI 19), .ref q25]
  refine v_perm (pm1 [(h, .inr (4, [.ref q1, .ref q9, .ref q25, .int (iI 0), .int (iI 0), .int (iI 0)])), (q25, .inl (K 4, 32, .inr (.inr (.inr (.inr f253)))))] (fd dom246 σ247) (q255, .inr (9, [.null, .int (iI 0)]))) ?_
  refine v_dup B dX4_init_51 rfl ?_
  refine v_bipush B (v := iI 40) dX4_init_52 (by decide +kernel) ?_
  refine v_callIv B (b := q255) (n := 1) (As := [.int (iI 40)]) (rest := [.ref q255, .int (iI 19), .ref q25]) (wc := (q255, .inr (9, [.null, .int (iI 0)])) :: fd dom246 σ247) (wr := [(h, .inr (4, [.ref q1, .ref q9, .ref q25, .int (iI 0), .int (iI 0), .int (iI 0)])), (q25, .inl (K 4, 32, .inr (.inr (.inr (.inr f253)))))]) (k_Row l D K Z249 G250 q255 16 40 (iI 40) (by decide +kernel)) gd_k_Diary_k_Row_26 rfl rfl rfl (by decide +kernel) ⟨by decide +kernel, by decide +kernel⟩ (List.mem_of_getElem? (i := 11) rfl) (List.mem_of_getElem? (i := 12) rfl) (List.mem_of_getElem? (i := 13) rfl) rfl (sp_app _ _) rfl rfl (Nat.le_of_ble_eq_true rfl) dX4_init_54 ⟨by decide +kernel, by decide +kernel⟩ (fun u256 hp257 => ?_)
  obtain ⟨dom258, σ259, τ260⟩ := u256
  obtain ⟨Z261, G262, t263, m264⟩ := hp257
  show V _ _ _ _ _ _ _ _ _ _ _ _ _ _ (75, 1032) ([(h, .inr (4, [.ref q1, .ref q9, .ref q25, .int (iI 0), .int (iI 0), .int (iI 0)])), (q25, .inl (K 4, 32, .inr (.inr (.inr (.inr f253)))))] ++ fd dom258 σ259) _ _ [.ref q255, .int (iI 19), .ref q25]
  refine v_aastT B Z261 (E := [(h, .inr (4, [.ref q1, .ref q9, .ref q25, .int (iI 0), .int (iI 0), .int (iI 0)])), (q25, .inl (K 4, 32, .inr (.inr (.inr (.inr f253)))))]) (k0 := 1) (t0 := 4) (ci := 9) (rr := (RX9, TX9, 2)) (i := 19) (E' := [(h, .inr (4, [.ref q1, .ref q9, .ref q25, .int (iI 0), .int (iI 0), .int (iI 0)])), (q25, .inl (K 4, 32, .inr (.inr (.inr (.inr (va_up f253 19 (some q255)))))))]) rfl rfl t263 (cls_Row G262 t263) rfl (vpi (by decide +kernel)) (by decide +kernel) rfl dX4_init_57 ?_
  have H266 := rows_step (i := 19) (r := q255) H254 m264 t263
  generalize va_up f253 19 (some q255) = f265 at H266 ⊢
  show V _ _ _ _ _ _ _ _ _ _ _ _ _ _ (75, 1032) ([(h, .inr (4, [.ref q1, .ref q9, .ref q25, .int (iI 0), .int (iI 0), .int (iI 0)])), (q25, .inl (K 4, 32, .inr (.inr (.inr (.inr f265)))))] ++ fd dom258 σ259) _ _ []
  refine v_iinc B (k := 0) (v := iI 20) (lv' := [(1, .int (iI 20)), (0, .ref h)]) dX4_init_58 rfl (by decide +kernel) (by decide +kernel) rfl ?_
  refine v_goto B (tgt := 34) dX4_init_61 (by decide +kernel) ?_
  refine v_iload_n B dX4_init_34 rfl rfl ?_
  refine v_aload_n B dX4_init_35 rfl rfl ?_
  refine v_get B (k0 := 0) (C := RX4) (T := TX4) (N := 6) (ci := 4) hi_k_Diary_X4 rfl rfl 2 (by decide +kernel) (List.mem_of_getElem? (i := 9) rfl) rfl dX4_init_36 ?_
  refine v_alen B (k0 := 1) (t0 := 4) (v := iI 32) rfl rfl (show Int32.ofNat 32 = iI 32 by decide +kernel) dX4_init_39 ?_
  refine v_icmp_ge B (tgt := 64) dX4_init_40 (by decide +kernel) (fun q => absurd q (by decide +kernel)) (fun _ => ?_)
  refine v_aload_n B dX4_init_43 rfl rfl ?_
  refine v_get B (k0 := 0) (C := RX4) (T := TX4) (N := 6) (ci := 4) hi_k_Diary_X4 rfl rfl 2 (by decide +kernel) (List.mem_of_getElem? (i := 9) rfl) rfl dX4_init_44 ?_
  refine v_iload_n B dX4_init_47 rfl rfl ?_
  refine v_new B (C := RX9) (T := TX9) (N := 2) (ci := 9) (fs := [.null, .int (iI 0)]) hi_k_Diary_X9 tyX9 tyX9_ok (List.mem_of_getElem? (i := 8) rfl) (List.mem_of_getElem? (i := 10) rfl) (List.mem_of_getElem? (i := 11) rfl) rfl (by decide +kernel) (by decide +kernel) (by decide +kernel) dX4_init_48 (fun q267 => ?_)
  show V _ _ _ _ _ _ _ _ _ _ _ _ _ _ (76, 1034) (([(h, .inr (4, [.ref q1, .ref q9, .ref q25, .int (iI 0), .int (iI 0), .int (iI 0)])), (q25, .inl (K 4, 32, .inr (.inr (.inr (.inr f265)))))] ++ fd dom258 σ259) ++ [(q267, .inr (9, [.null, .int (iI 0)]))]) _ _ [.ref q267, .int (iI 20), .ref q25]
  refine v_perm (pm1 [(h, .inr (4, [.ref q1, .ref q9, .ref q25, .int (iI 0), .int (iI 0), .int (iI 0)])), (q25, .inl (K 4, 32, .inr (.inr (.inr (.inr f265)))))] (fd dom258 σ259) (q267, .inr (9, [.null, .int (iI 0)]))) ?_
  refine v_dup B dX4_init_51 rfl ?_
  refine v_bipush B (v := iI 40) dX4_init_52 (by decide +kernel) ?_
  refine v_callIv B (b := q267) (n := 1) (As := [.int (iI 40)]) (rest := [.ref q267, .int (iI 20), .ref q25]) (wc := (q267, .inr (9, [.null, .int (iI 0)])) :: fd dom258 σ259) (wr := [(h, .inr (4, [.ref q1, .ref q9, .ref q25, .int (iI 0), .int (iI 0), .int (iI 0)])), (q25, .inl (K 4, 32, .inr (.inr (.inr (.inr f265)))))]) (k_Row l D K Z261 G262 q267 16 40 (iI 40) (by decide +kernel)) gd_k_Diary_k_Row_26 rfl rfl rfl (by decide +kernel) ⟨by decide +kernel, by decide +kernel⟩ (List.mem_of_getElem? (i := 11) rfl) (List.mem_of_getElem? (i := 12) rfl) (List.mem_of_getElem? (i := 13) rfl) rfl (sp_app _ _) rfl rfl (Nat.le_of_ble_eq_true rfl) dX4_init_54 ⟨by decide +kernel, by decide +kernel⟩ (fun u268 hp269 => ?_)
  obtain ⟨dom270, σ271, τ272⟩ := u268
  obtain ⟨Z273, G274, t275, m276⟩ := hp269
  show V _ _ _ _ _ _ _ _ _ _ _ _ _ _ (77, 1074) ([(h, .inr (4, [.ref q1, .ref q9, .ref q25, .int (iI 0), .int (iI 0), .int (iI 0)])), (q25, .inl (K 4, 32, .inr (.inr (.inr (.inr f265)))))] ++ fd dom270 σ271) _ _ [.ref q267, .int (iI 20), .ref q25]
  refine v_aastT B Z273 (E := [(h, .inr (4, [.ref q1, .ref q9, .ref q25, .int (iI 0), .int (iI 0), .int (iI 0)])), (q25, .inl (K 4, 32, .inr (.inr (.inr (.inr f265)))))]) (k0 := 1) (t0 := 4) (ci := 9) (rr := (RX9, TX9, 2)) (i := 20) (E' := [(h, .inr (4, [.ref q1, .ref q9, .ref q25, .int (iI 0), .int (iI 0), .int (iI 0)])), (q25, .inl (K 4, 32, .inr (.inr (.inr (.inr (va_up f265 20 (some q267)))))))]) rfl rfl t275 (cls_Row G274 t275) rfl (vpi (by decide +kernel)) (by decide +kernel) rfl dX4_init_57 ?_
  have H278 := rows_step (i := 20) (r := q267) H266 m276 t275
  generalize va_up f265 20 (some q267) = f277 at H278 ⊢
  show V _ _ _ _ _ _ _ _ _ _ _ _ _ _ (77, 1074) ([(h, .inr (4, [.ref q1, .ref q9, .ref q25, .int (iI 0), .int (iI 0), .int (iI 0)])), (q25, .inl (K 4, 32, .inr (.inr (.inr (.inr f277)))))] ++ fd dom270 σ271) _ _ []
  refine v_iinc B (k := 0) (v := iI 21) (lv' := [(1, .int (iI 21)), (0, .ref h)]) dX4_init_58 rfl (by decide +kernel) (by decide +kernel) rfl ?_
  refine v_goto B (tgt := 34) dX4_init_61 (by decide +kernel) ?_
  refine v_iload_n B dX4_init_34 rfl rfl ?_
  refine v_aload_n B dX4_init_35 rfl rfl ?_
  refine v_get B (k0 := 0) (C := RX4) (T := TX4) (N := 6) (ci := 4) hi_k_Diary_X4 rfl rfl 2 (by decide +kernel) (List.mem_of_getElem? (i := 9) rfl) rfl dX4_init_36 ?_
  refine v_alen B (k0 := 1) (t0 := 4) (v := iI 32) rfl rfl (show Int32.ofNat 32 = iI 32 by decide +kernel) dX4_init_39 ?_
  refine v_icmp_ge B (tgt := 64) dX4_init_40 (by decide +kernel) (fun q => absurd q (by decide +kernel)) (fun _ => ?_)
  refine v_aload_n B dX4_init_43 rfl rfl ?_
  refine v_get B (k0 := 0) (C := RX4) (T := TX4) (N := 6) (ci := 4) hi_k_Diary_X4 rfl rfl 2 (by decide +kernel) (List.mem_of_getElem? (i := 9) rfl) rfl dX4_init_44 ?_
  refine v_iload_n B dX4_init_47 rfl rfl ?_
  refine v_new B (C := RX9) (T := TX9) (N := 2) (ci := 9) (fs := [.null, .int (iI 0)]) hi_k_Diary_X9 tyX9 tyX9_ok (List.mem_of_getElem? (i := 8) rfl) (List.mem_of_getElem? (i := 10) rfl) (List.mem_of_getElem? (i := 11) rfl) rfl (by decide +kernel) (by decide +kernel) (by decide +kernel) dX4_init_48 (fun q279 => ?_)
  show V _ _ _ _ _ _ _ _ _ _ _ _ _ _ (78, 1076) (([(h, .inr (4, [.ref q1, .ref q9, .ref q25, .int (iI 0), .int (iI 0), .int (iI 0)])), (q25, .inl (K 4, 32, .inr (.inr (.inr (.inr f277)))))] ++ fd dom270 σ271) ++ [(q279, .inr (9, [.null, .int (iI 0)]))]) _ _ [.ref q279, .int (iI 21), .ref q25]
  refine v_perm (pm1 [(h, .inr (4, [.ref q1, .ref q9, .ref q25, .int (iI 0), .int (iI 0), .int (iI 0)])), (q25, .inl (K 4, 32, .inr (.inr (.inr (.inr f277)))))] (fd dom270 σ271) (q279, .inr (9, [.null, .int (iI 0)]))) ?_
  refine v_dup B dX4_init_51 rfl ?_
  refine v_bipush B (v := iI 40) dX4_init_52 (by decide +kernel) ?_
  refine v_callIv B (b := q279) (n := 1) (As := [.int (iI 40)]) (rest := [.ref q279, .int (iI 21), .ref q25]) (wc := (q279, .inr (9, [.null, .int (iI 0)])) :: fd dom270 σ271) (wr := [(h, .inr (4, [.ref q1, .ref q9, .ref q25, .int (iI 0), .int (iI 0), .int (iI 0)])), (q25, .inl (K 4, 32, .inr (.inr (.inr (.inr f277)))))]) (k_Row l D K Z273 G274 q279 16 40 (iI 40) (by decide +kernel)) gd_k_Diary_k_Row_26 rfl rfl rfl (by decide +kernel) ⟨by decide +kernel, by decide +kernel⟩ (List.mem_of_getElem? (i := 11) rfl) (List.mem_of_getElem? (i := 12) rfl) (List.mem_of_getElem? (i := 13) rfl) rfl (sp_app _ _) rfl rfl (Nat.le_of_ble_eq_true rfl) dX4_init_54 ⟨by decide +kernel, by decide +kernel⟩ (fun u280 hp281 => ?_)
  obtain ⟨dom282, σ283, τ284⟩ := u280
  obtain ⟨Z285, G286, t287, m288⟩ := hp281
  show V _ _ _ _ _ _ _ _ _ _ _ _ _ _ (79, 1116) ([(h, .inr (4, [.ref q1, .ref q9, .ref q25, .int (iI 0), .int (iI 0), .int (iI 0)])), (q25, .inl (K 4, 32, .inr (.inr (.inr (.inr f277)))))] ++ fd dom282 σ283) _ _ [.ref q279, .int (iI 21), .ref q25]
  refine v_aastT B Z285 (E := [(h, .inr (4, [.ref q1, .ref q9, .ref q25, .int (iI 0), .int (iI 0), .int (iI 0)])), (q25, .inl (K 4, 32, .inr (.inr (.inr (.inr f277)))))]) (k0 := 1) (t0 := 4) (ci := 9) (rr := (RX9, TX9, 2)) (i := 21) (E' := [(h, .inr (4, [.ref q1, .ref q9, .ref q25, .int (iI 0), .int (iI 0), .int (iI 0)])), (q25, .inl (K 4, 32, .inr (.inr (.inr (.inr (va_up f277 21 (some q279)))))))]) rfl rfl t287 (cls_Row G286 t287) rfl (vpi (by decide +kernel)) (by decide +kernel) rfl dX4_init_57 ?_
  have H290 := rows_step (i := 21) (r := q279) H278 m288 t287
  generalize va_up f277 21 (some q279) = f289 at H290 ⊢
  show V _ _ _ _ _ _ _ _ _ _ _ _ _ _ (79, 1116) ([(h, .inr (4, [.ref q1, .ref q9, .ref q25, .int (iI 0), .int (iI 0), .int (iI 0)])), (q25, .inl (K 4, 32, .inr (.inr (.inr (.inr f289)))))] ++ fd dom282 σ283) _ _ []
  refine v_iinc B (k := 0) (v := iI 22) (lv' := [(1, .int (iI 22)), (0, .ref h)]) dX4_init_58 rfl (by decide +kernel) (by decide +kernel) rfl ?_
  refine v_goto B (tgt := 34) dX4_init_61 (by decide +kernel) ?_
  refine v_iload_n B dX4_init_34 rfl rfl ?_
  refine v_aload_n B dX4_init_35 rfl rfl ?_
  refine v_get B (k0 := 0) (C := RX4) (T := TX4) (N := 6) (ci := 4) hi_k_Diary_X4 rfl rfl 2 (by decide +kernel) (List.mem_of_getElem? (i := 9) rfl) rfl dX4_init_36 ?_
  refine v_alen B (k0 := 1) (t0 := 4) (v := iI 32) rfl rfl (show Int32.ofNat 32 = iI 32 by decide +kernel) dX4_init_39 ?_
  refine v_icmp_ge B (tgt := 64) dX4_init_40 (by decide +kernel) (fun q => absurd q (by decide +kernel)) (fun _ => ?_)
  refine v_aload_n B dX4_init_43 rfl rfl ?_
  refine v_get B (k0 := 0) (C := RX4) (T := TX4) (N := 6) (ci := 4) hi_k_Diary_X4 rfl rfl 2 (by decide +kernel) (List.mem_of_getElem? (i := 9) rfl) rfl dX4_init_44 ?_
  refine v_iload_n B dX4_init_47 rfl rfl ?_
  refine v_new B (C := RX9) (T := TX9) (N := 2) (ci := 9) (fs := [.null, .int (iI 0)]) hi_k_Diary_X9 tyX9 tyX9_ok (List.mem_of_getElem? (i := 8) rfl) (List.mem_of_getElem? (i := 10) rfl) (List.mem_of_getElem? (i := 11) rfl) rfl (by decide +kernel) (by decide +kernel) (by decide +kernel) dX4_init_48 (fun q291 => ?_)
  show V _ _ _ _ _ _ _ _ _ _ _ _ _ _ (80, 1118) (([(h, .inr (4, [.ref q1, .ref q9, .ref q25, .int (iI 0), .int (iI 0), .int (iI 0)])), (q25, .inl (K 4, 32, .inr (.inr (.inr (.inr f289)))))] ++ fd dom282 σ283) ++ [(q291, .inr (9, [.null, .int (iI 0)]))]) _ _ [.ref q291, .int (iI 22), .ref q25]
  refine v_perm (pm1 [(h, .inr (4, [.ref q1, .ref q9, .ref q25, .int (iI 0), .int (iI 0), .int (iI 0)])), (q25, .inl (K 4, 32, .inr (.inr (.inr (.inr f289)))))] (fd dom282 σ283) (q291, .inr (9, [.null, .int (iI 0)]))) ?_
  refine v_dup B dX4_init_51 rfl ?_
  refine v_bipush B (v := iI 40) dX4_init_52 (by decide +kernel) ?_
  refine v_callIv B (b := q291) (n := 1) (As := [.int (iI 40)]) (rest := [.ref q291, .int (iI 22), .ref q25]) (wc := (q291, .inr (9, [.null, .int (iI 0)])) :: fd dom282 σ283) (wr := [(h, .inr (4, [.ref q1, .ref q9, .ref q25, .int (iI 0), .int (iI 0), .int (iI 0)])), (q25, .inl (K 4, 32, .inr (.inr (.inr (.inr f289)))))]) (k_Row l D K Z285 G286 q291 16 40 (iI 40) (by decide +kernel)) gd_k_Diary_k_Row_26 rfl rfl rfl (by decide +kernel) ⟨by decide +kernel, by decide +kernel⟩ (List.mem_of_getElem? (i := 11) rfl) (List.mem_of_getElem? (i := 12) rfl) (List.mem_of_getElem? (i := 13) rfl) rfl (sp_app _ _) rfl rfl (Nat.le_of_ble_eq_true rfl) dX4_init_54 ⟨by decide +kernel, by decide +kernel⟩ (fun u292 hp293 => ?_)
  obtain ⟨dom294, σ295, τ296⟩ := u292
  obtain ⟨Z297, G298, t299, m300⟩ := hp293
  show V _ _ _ _ _ _ _ _ _ _ _ _ _ _ (81, 1158) ([(h, .inr (4, [.ref q1, .ref q9, .ref q25, .int (iI 0), .int (iI 0), .int (iI 0)])), (q25, .inl (K 4, 32, .inr (.inr (.inr (.inr f289)))))] ++ fd dom294 σ295) _ _ [.ref q291, .int (iI 22), .ref q25]
  refine v_aastT B Z297 (E := [(h, .inr (4, [.ref q1, .ref q9, .ref q25, .int (iI 0), .int (iI 0), .int (iI 0)])), (q25, .inl (K 4, 32, .inr (.inr (.inr (.inr f289)))))]) (k0 := 1) (t0 := 4) (ci := 9) (rr := (RX9, TX9, 2)) (i := 22) (E' := [(h, .inr (4, [.ref q1, .ref q9, .ref q25, .int (iI 0), .int (iI 0), .int (iI 0)])), (q25, .inl (K 4, 32, .inr (.inr (.inr (.inr (va_up f289 22 (some q291)))))))]) rfl rfl t299 (cls_Row G298 t299) rfl (vpi (by decide +kernel)) (by decide +kernel) rfl dX4_init_57 ?_
  have H302 := rows_step (i := 22) (r := q291) H290 m300 t299
  generalize va_up f289 22 (some q291) = f301 at H302 ⊢
  show V _ _ _ _ _ _ _ _ _ _ _ _ _ _ (81, 1158) ([(h, .inr (4, [.ref q1, .ref q9, .ref q25, .int (iI 0), .int (iI 0), .int (iI 0)])), (q25, .inl (K 4, 32, .inr (.inr (.inr (.inr f301)))))] ++ fd dom294 σ295) _ _ []
  refine v_iinc B (k := 0) (v := iI 23) (lv' := [(1, .int (iI 23)), (0, .ref h)]) dX4_init_58 rfl (by decide +kernel) (by decide +kernel) rfl ?_
  refine v_goto B (tgt := 34) dX4_init_61 (by decide +kernel) ?_
  refine v_iload_n B dX4_init_34 rfl rfl ?_
  refine v_aload_n B dX4_init_35 rfl rfl ?_
  refine v_get B (k0 := 0) (C := RX4) (T := TX4) (N := 6) (ci := 4) hi_k_Diary_X4 rfl rfl 2 (by decide +kernel) (List.mem_of_getElem? (i := 9) rfl) rfl dX4_init_36 ?_
  refine v_alen B (k0 := 1) (t0 := 4) (v := iI 32) rfl rfl (show Int32.ofNat 32 = iI 32 by decide +kernel) dX4_init_39 ?_
  refine v_icmp_ge B (tgt := 64) dX4_init_40 (by decide +kernel) (fun q => absurd q (by decide +kernel)) (fun _ => ?_)
  refine v_aload_n B dX4_init_43 rfl rfl ?_
  refine v_get B (k0 := 0) (C := RX4) (T := TX4) (N := 6) (ci := 4) hi_k_Diary_X4 rfl rfl 2 (by decide +kernel) (List.mem_of_getElem? (i := 9) rfl) rfl dX4_init_44 ?_
  refine v_iload_n B dX4_init_47 rfl rfl ?_
  refine v_new B (C := RX9) (T := TX9) (N := 2) (ci := 9) (fs := [.null, .int (iI 0)]) hi_k_Diary_X9 tyX9 tyX9_ok (List.mem_of_getElem? (i := 8) rfl) (List.mem_of_getElem? (i := 10) rfl) (List.mem_of_getElem? (i := 11) rfl) rfl (by decide +kernel) (by decide +kernel) (by decide +kernel) dX4_init_48 (fun q303 => ?_)
  show V _ _ _ _ _ _ _ _ _ _ _ _ _ _ (82, 1160) (([(h, .inr (4, [.ref q1, .ref q9, .ref q25, .int (iI 0), .int (iI 0), .int (iI 0)])), (q25, .inl (K 4, 32, .inr (.inr (.inr (.inr f301)))))] ++ fd dom294 σ295) ++ [(q303, .inr (9, [.null, .int (iI 0)]))]) _ _ [.ref q303, .int (iI 23), .ref q25]
  refine v_perm (pm1 [(h, .inr (4, [.ref q1, .ref q9, .ref q25, .int (iI 0), .int (iI 0), .int (iI 0)])), (q25, .inl (K 4, 32, .inr (.inr (.inr (.inr f301)))))] (fd dom294 σ295) (q303, .inr (9, [.null, .int (iI 0)]))) ?_
  refine v_dup B dX4_init_51 rfl ?_
  refine v_bipush B (v := iI 40) dX4_init_52 (by decide +kernel) ?_
  refine v_callIv B (b := q303) (n := 1) (As := [.int (iI 40)]) (rest := [.ref q303, .int (iI 23), .ref q25]) (wc := (q303, .inr (9, [.null, .int (iI 0)])) :: fd dom294 σ295) (wr := [(h, .inr (4, [.ref q1, .ref q9, .ref q25, .int (iI 0), .int (iI 0), .int (iI 0)])), (q25, .inl (K 4, 32, .inr (.inr (.inr (.inr f301)))))]) (k_Row l D K Z297 G298 q303 16 40 (iI 40) (by decide +kernel)) gd_k_Diary_k_Row_26 rfl rfl rfl (by decide +kernel) ⟨by decide +kernel, by decide +kernel⟩ (List.mem_of_getElem? (i := 11) rfl) (List.mem_of_getElem? (i := 12) rfl) (List.mem_of_getElem? (i := 13) rfl) rfl (sp_app _ _) rfl rfl (Nat.le_of_ble_eq_true rfl) dX4_init_54 ⟨by decide +kernel, by decide +kernel⟩ (fun u304 hp305 => ?_)
  obtain ⟨dom306, σ307, τ308⟩ := u304
  obtain ⟨Z309, G310, t311, m312⟩ := hp305
  show V _ _ _ _ _ _ _ _ _ _ _ _ _ _ (83, 1200) ([(h, .inr (4, [.ref q1, .ref q9, .ref q25, .int (iI 0), .int (iI 0), .int (iI 0)])), (q25, .inl (K 4, 32, .inr (.inr (.inr (.inr f301)))))] ++ fd dom306 σ307) _ _ [.ref q303, .int (iI 23), .ref q25]
  refine v_aastT B Z309 (E := [(h, .inr (4, [.ref q1, .ref q9, .ref q25, .int (iI 0), .int (iI 0), .int (iI 0)])), (q25, .inl (K 4, 32, .inr (.inr (.inr (.inr f301)))))]) (k0 := 1) (t0 := 4) (ci := 9) (rr := (RX9, TX9, 2)) (i := 23) (E' := [(h, .inr (4, [.ref q1, .ref q9, .ref q25, .int (iI 0), .int (iI 0), .int (iI 0)])), (q25, .inl (K 4, 32, .inr (.inr (.inr (.inr (va_up f301 23 (some q303)))))))]) rfl rfl t311 (cls_Row G310 t311) rfl (vpi (by decide +kernel)) (by decide +kernel) rfl dX4_init_57 ?_
  have H314 := rows_step (i := 23) (r := q303) H302 m312 t311
  generalize va_up f301 23 (some q303) = f313 at H314 ⊢
  show V _ _ _ _ _ _ _ _ _ _ _ _ _ _ (83, 1200) ([(h, .inr (4, [.ref q1, .ref q9, .ref q25, .int (iI 0), .int (iI 0), .int (iI 0)])), (q25, .inl (K 4, 32, .inr (.inr (.inr (.inr f313)))))] ++ fd dom306 σ307) _ _ []
  refine v_iinc B (k := 0) (v := iI 24) (lv' := [(1, .int (iI 24)), (0, .ref h)]) dX4_init_58 rfl (by decide +kernel) (by decide +kernel) rfl ?_
  refine v_goto B (tgt := 34) dX4_init_61 (by decide +kernel) ?_
  refine v_iload_n B dX4_init_34 rfl rfl ?_
  refine v_aload_n B dX4_init_35 rfl rfl ?_
  refine v_get B (k0 := 0) (C := RX4) (T := TX4) (N := 6) (ci := 4) hi_k_Diary_X4 rfl rfl 2 (by decide +kernel) (List.mem_of_getElem? (i := 9) rfl) rfl dX4_init_36 ?_
  refine v_alen B (k0 := 1) (t0 := 4) (v := iI 32) rfl rfl (show Int32.ofNat 32 = iI 32 by decide +kernel) dX4_init_39 ?_
  refine v_icmp_ge B (tgt := 64) dX4_init_40 (by decide +kernel) (fun q => absurd q (by decide +kernel)) (fun _ => ?_)
  refine v_aload_n B dX4_init_43 rfl rfl ?_
  refine v_get B (k0 := 0) (C := RX4) (T := TX4) (N := 6) (ci := 4) hi_k_Diary_X4 rfl rfl 2 (by decide +kernel) (List.mem_of_getElem? (i := 9) rfl) rfl dX4_init_44 ?_
  refine v_iload_n B dX4_init_47 rfl rfl ?_
  refine v_new B (C := RX9) (T := TX9) (N := 2) (ci := 9) (fs := [.null, .int (iI 0)]) hi_k_Diary_X9 tyX9 tyX9_ok (List.mem_of_getElem? (i := 8) rfl) (List.mem_of_getElem? (i := 10) rfl) (List.mem_of_getElem? (i := 11) rfl) rfl (by decide +kernel) (by decide +kernel) (by decide +kernel) dX4_init_48 (fun q315 => ?_)
  show V _ _ _ _ _ _ _ _ _ _ _ _ _ _ (84, 1202) (([(h, .inr (4, [.ref q1, .ref q9, .ref q25, .int (iI 0), .int (iI 0), .int (iI 0)])), (q25, .inl (K 4, 32, .inr (.inr (.inr (.inr f313)))))] ++ fd dom306 σ307) ++ [(q315, .inr (9, [.null, .int (iI 0)]))]) _ _ [.ref q315, .int (iI 24), .ref q25]
  refine v_perm (pm1 [(h, .inr (4, [.ref q1, .ref q9, .ref q25, .int (iI 0), .int (iI 0), .int (iI 0)])), (q25, .inl (K 4, 32, .inr (.inr (.inr (.inr f313)))))] (fd dom306 σ307) (q315, .inr (9, [.null, .int (iI 0)]))) ?_
  refine v_dup B dX4_init_51 rfl ?_
  refine v_bipush B (v := iI 40) dX4_init_52 (by decide +kernel) ?_
  refine v_callIv B (b := q315) (n := 1) (As := [.int (iI 40)]) (rest := [.ref q315, .int (iI 24), .ref q25]) (wc := (q315, .inr (9, [.null, .int (iI 0)])) :: fd dom306 σ307) (wr := [(h, .inr (4, [.ref q1, .ref q9, .ref q25, .int (iI 0), .int (iI 0), .int (iI 0)])), (q25, .inl (K 4, 32, .inr (.inr (.inr (.inr f313)))))]) (k_Row l D K Z309 G310 q315 16 40 (iI 40) (by decide +kernel)) gd_k_Diary_k_Row_26 rfl rfl rfl (by decide +kernel) ⟨by decide +kernel, by decide +kernel⟩ (List.mem_of_getElem? (i := 11) rfl) (List.mem_of_getElem? (i := 12) rfl) (List.mem_of_getElem? (i := 13) rfl) rfl (sp_app _ _) rfl rfl (Nat.le_of_ble_eq_true rfl) dX4_init_54 ⟨by decide +kernel, by decide +kernel⟩ (fun u316 hp317 => ?_)
  obtain ⟨dom318, σ319, τ320⟩ := u316
  obtain ⟨Z321, G322, t323, m324⟩ := hp317
  show V _ _ _ _ _ _ _ _ _ _ _ _ _ _ (85, 1242) ([(h, .inr (4, [.ref q1, .ref q9, .ref q25, .int (iI 0), .int (iI 0), .int (iI 0)])), (q25, .inl (K 4, 32, .inr (.inr (.inr (.inr f313)))))] ++ fd dom318 σ319) _ _ [.ref q315, .int (iI 24), .ref q25]
  refine v_aastT B Z321 (E := [(h, .inr (4, [.ref q1, .ref q9, .ref q25, .int (iI 0), .int (iI 0), .int (iI 0)])), (q25, .inl (K 4, 32, .inr (.inr (.inr (.inr f313)))))]) (k0 := 1) (t0 := 4) (ci := 9) (rr := (RX9, TX9, 2)) (i := 24) (E' := [(h, .inr (4, [.ref q1, .ref q9, .ref q25, .int (iI 0), .int (iI 0), .int (iI 0)])), (q25, .inl (K 4, 32, .inr (.inr (.inr (.inr (va_up f313 24 (some q315)))))))]) rfl rfl t323 (cls_Row G322 t323) rfl (vpi (by decide +kernel)) (by decide +kernel) rfl dX4_init_57 ?_
  have H326 := rows_step (i := 24) (r := q315) H314 m324 t323
  generalize va_up f313 24 (some q315) = f325 at H326 ⊢
  show V _ _ _ _ _ _ _ _ _ _ _ _ _ _ (85, 1242) ([(h, .inr (4, [.ref q1, .ref q9, .ref q25, .int (iI 0), .int (iI 0), .int (iI 0)])), (q25, .inl (K 4, 32, .inr (.inr (.inr (.inr f325)))))] ++ fd dom318 σ319) _ _ []
  refine v_iinc B (k := 0) (v := iI 25) (lv' := [(1, .int (iI 25)), (0, .ref h)]) dX4_init_58 rfl (by decide +kernel) (by decide +kernel) rfl ?_
  refine v_goto B (tgt := 34) dX4_init_61 (by decide +kernel) ?_
  refine v_iload_n B dX4_init_34 rfl rfl ?_
  refine v_aload_n B dX4_init_35 rfl rfl ?_
  refine v_get B (k0 := 0) (C := RX4) (T := TX4) (N := 6) (ci := 4) hi_k_Diary_X4 rfl rfl 2 (by decide +kernel) (List.mem_of_getElem? (i := 9) rfl) rfl dX4_init_36 ?_
  refine v_alen B (k0 := 1) (t0 := 4) (v := iI 32) rfl rfl (show Int32.ofNat 32 = iI 32 by decide +kernel) dX4_init_39 ?_
  refine v_icmp_ge B (tgt := 64) dX4_init_40 (by decide +kernel) (fun q => absurd q (by decide +kernel)) (fun _ => ?_)
  refine v_aload_n B dX4_init_43 rfl rfl ?_
  refine v_get B (k0 := 0) (C := RX4) (T := TX4) (N := 6) (ci := 4) hi_k_Diary_X4 rfl rfl 2 (by decide +kernel) (List.mem_of_getElem? (i := 9) rfl) rfl dX4_init_44 ?_
  refine v_iload_n B dX4_init_47 rfl rfl ?_
  refine v_new B (C := RX9) (T := TX9) (N := 2) (ci := 9) (fs := [.null, .int (iI 0)]) hi_k_Diary_X9 tyX9 tyX9_ok (List.mem_of_getElem? (i := 8) rfl) (List.mem_of_getElem? (i := 10) rfl) (List.mem_of_getElem? (i := 11) rfl) rfl (by decide +kernel) (by decide +kernel) (by decide +kernel) dX4_init_48 (fun q327 => ?_)
  show V _ _ _ _ _ _ _ _ _ _ _ _ _ _ (86, 1244) (([(h, .inr (4, [.ref q1, .ref q9, .ref q25, .int (iI 0), .int (iI 0), .int (iI 0)])), (q25, .inl (K 4, 32, .inr (.inr (.inr (.inr f325)))))] ++ fd dom318 σ319) ++ [(q327, .inr (9, [.null, .int (iI 0)]))]) _ _ [.ref q327, .int (iI 25), .ref q25]
  refine v_perm (pm1 [(h, .inr (4, [.ref q1, .ref q9, .ref q25, .int (iI 0), .int (iI 0), .int (iI 0)])), (q25, .inl (K 4, 32, .inr (.inr (.inr (.inr f325)))))] (fd dom318 σ319) (q327, .inr (9, [.null, .int (iI 0)]))) ?_
  refine v_dup B dX4_init_51 rfl ?_
  refine v_bipush B (v := iI 40) dX4_init_52 (by decide +kernel) ?_
  refine v_callIv B (b := q327) (n := 1) (As := [.int (iI 40)]) (rest := [.ref q327, .int (iI 25), .ref q25]) (wc := (q327, .inr (9, [.null, .int (iI 0)])) :: fd dom318 σ319) (wr := [(h, .inr (4, [.ref q1, .ref q9, .ref q25, .int (iI 0), .int (iI 0), .int (iI 0)])), (q25, .inl (K 4, 32, .inr (.inr (.inr (.inr f325)))))]) (k_Row l D K Z321 G322 q327 16 40 (iI 40) (by decide +kernel)) gd_k_Diary_k_Row_26 rfl rfl rfl (by decide +kernel) ⟨by decide +kernel, by decide +kernel⟩ (List.mem_of_getElem? (i := 11) rfl) (List.mem_of_getElem? (i := 12) rfl) (List.mem_of_getElem? (i := 13) rfl) rfl (sp_app _ _) rfl rfl (Nat.le_of_ble_eq_true rfl) dX4_init_54 ⟨by decide +kernel, by decide +kernel⟩ (fun u328 hp329 => ?_)
  obtain ⟨dom330, σ331, τ332⟩ := u328
  obtain ⟨Z333, G334, t335, m336⟩ := hp329
  show V _ _ _ _ _ _ _ _ _ _ _ _ _ _ (87, 1284) ([(h, .inr (4, [.ref q1, .ref q9, .ref q25, .int (iI 0), .int (iI 0), .int (iI 0)])), (q25, .inl (K 4, 32, .inr (.inr (.inr (.inr f325)))))] ++ fd dom330 σ331) _ _ [.ref q327, .int (iI 25), .ref q25]
  refine v_aastT B Z333 (E := [(h, .inr (4, [.ref q1, .ref q9, .ref q25, .int (iI 0), .int (iI 0), .int (iI 0)])), (q25, .inl (K 4, 32, .inr (.inr (.inr (.inr f325)))))]) (k0 := 1) (t0 := 4) (ci := 9) (rr := (RX9, TX9, 2)) (i := 25) (E' := [(h, .inr (4, [.ref q1, .ref q9, .ref q25, .int (iI 0), .int (iI 0), .int (iI 0)])), (q25, .inl (K 4, 32, .inr (.inr (.inr (.inr (va_up f325 25 (some q327)))))))]) rfl rfl t335 (cls_Row G334 t335) rfl (vpi (by decide +kernel)) (by decide +kernel) rfl dX4_init_57 ?_
  have H338 := rows_step (i := 25) (r := q327) H326 m336 t335
  generalize va_up f325 25 (some q327) = f337 at H338 ⊢
  show V _ _ _ _ _ _ _ _ _ _ _ _ _ _ (87, 1284) ([(h, .inr (4, [.ref q1, .ref q9, .ref q25, .int (iI 0), .int (iI 0), .int (iI 0)])), (q25, .inl (K 4, 32, .inr (.inr (.inr (.inr f337)))))] ++ fd dom330 σ331) _ _ []
  refine v_iinc B (k := 0) (v := iI 26) (lv' := [(1, .int (iI 26)), (0, .ref h)]) dX4_init_58 rfl (by decide +kernel) (by decide +kernel) rfl ?_
  refine v_goto B (tgt := 34) dX4_init_61 (by decide +kernel) ?_
  refine v_iload_n B dX4_init_34 rfl rfl ?_
  refine v_aload_n B dX4_init_35 rfl rfl ?_
  refine v_get B (k0 := 0) (C := RX4) (T := TX4) (N := 6) (ci := 4) hi_k_Diary_X4 rfl rfl 2 (by decide +kernel) (List.mem_of_getElem? (i := 9) rfl) rfl dX4_init_36 ?_
  refine v_alen B (k0 := 1) (t0 := 4) (v := iI 32) rfl rfl (show Int32.ofNat 32 = iI 32 by decide +kernel) dX4_init_39 ?_
  refine v_icmp_ge B (tgt := 64) dX4_init_40 (by decide +kernel) (fun q => absurd q (by decide +kernel)) (fun _ => ?_)
  refine v_aload_n B dX4_init_43 rfl rfl ?_
  refine v_get B (k0 := 0) (C := RX4) (T := TX4) (N := 6) (ci := 4) hi_k_Diary_X4 rfl rfl 2 (by decide +kernel) (List.mem_of_getElem? (i := 9) rfl) rfl dX4_init_44 ?_
  refine v_iload_n B dX4_init_47 rfl rfl ?_
  refine v_new B (C := RX9) (T := TX9) (N := 2) (ci := 9) (fs := [.null, .int (iI 0)]) hi_k_Diary_X9 tyX9 tyX9_ok (List.mem_of_getElem? (i := 8) rfl) (List.mem_of_getElem? (i := 10) rfl) (List.mem_of_getElem? (i := 11) rfl) rfl (by decide +kernel) (by decide +kernel) (by decide +kernel) dX4_init_48 (fun q339 => ?_)
  show V _ _ _ _ _ _ _ _ _ _ _ _ _ _ (88, 1286) (([(h, .inr (4, [.ref q1, .ref q9, .ref q25, .int (iI 0), .int (iI 0), .int (iI 0)])), (q25, .inl (K 4, 32, .inr (.inr (.inr (.inr f337)))))] ++ fd dom330 σ331) ++ [(q339, .inr (9, [.null, .int (iI 0)]))]) _ _ [.ref q339, .int (iI 26), .ref q25]
  refine v_perm (pm1 [(h, .inr (4, [.ref q1, .ref q9, .ref q25, .int (iI 0), .int (iI 0), .int (iI 0)])), (q25, .inl (K 4, 32, .inr (.inr (.inr (.inr f337)))))] (fd dom330 σ331) (q339, .inr (9, [.null, .int (iI 0)]))) ?_
  refine v_dup B dX4_init_51 rfl ?_
  refine v_bipush B (v := iI 40) dX4_init_52 (by decide +kernel) ?_
  refine v_callIv B (b := q339) (n := 1) (As := [.int (iI 40)]) (rest := [.ref q339, .int (iI 26), .ref q25]) (wc := (q339, .inr (9, [.null, .int (iI 0)])) :: fd dom330 σ331) (wr := [(h, .inr (4, [.ref q1, .ref q9, .ref q25, .int (iI 0), .int (iI 0), .int (iI 0)])), (q25, .inl (K 4, 32, .inr (.inr (.inr (.inr f337)))))]) (k_Row l D K Z333 G334 q339 16 40 (iI 40) (by decide +kernel)) gd_k_Diary_k_Row_26 rfl rfl rfl (by decide +kernel) ⟨by decide +kernel, by decide +kernel⟩ (List.mem_of_getElem? (i := 11) rfl) (List.mem_of_getElem? (i := 12) rfl) (List.mem_of_getElem? (i := 13) rfl) rfl (sp_app _ _) rfl rfl (Nat.le_of_ble_eq_true rfl) dX4_init_54 ⟨by decide +kernel, by decide +kernel⟩ (fun u340 hp341 => ?_)
  obtain ⟨dom342, σ343, τ344⟩ := u340
  obtain ⟨Z345, G346, t347, m348⟩ := hp341
  show V _ _ _ _ _ _ _ _ _ _ _ _ _ _ (89, 1326) ([(h, .inr (4, [.ref q1, .ref q9, .ref q25, .int (iI 0), .int (iI 0), .int (iI 0)])), (q25, .inl (K 4, 32, .inr (.inr (.inr (.inr f337)))))] ++ fd dom342 σ343) _ _ [.ref q339, .int (iI 26), .ref q25]
  refine v_aastT B Z345 (E := [(h, .inr (4, [.ref q1, .ref q9, .ref q25, .int (iI 0), .int (iI 0), .int (iI 0)])), (q25, .inl (K 4, 32, .inr (.inr (.inr (.inr f337)))))]) (k0 := 1) (t0 := 4) (ci := 9) (rr := (RX9, TX9, 2)) (i := 26) (E' := [(h, .inr (4, [.ref q1, .ref q9, .ref q25, .int (iI 0), .int (iI 0), .int (iI 0)])), (q25, .inl (K 4, 32, .inr (.inr (.inr (.inr (va_up f337 26 (some q339)))))))]) rfl rfl t347 (cls_Row G346 t347) rfl (vpi (by decide +kernel)) (by decide +kernel) rfl dX4_init_57 ?_
  have H350 := rows_step (i := 26) (r := q339) H338 m348 t347
  generalize va_up f337 26 (some q339) = f349 at H350 ⊢
  show V _ _ _ _ _ _ _ _ _ _ _ _ _ _ (89, 1326) ([(h, .inr (4, [.ref q1, .ref q9, .ref q25, .int (iI 0), .int (iI 0), .int (iI 0)])), (q25, .inl (K 4, 32, .inr (.inr (.inr (.inr f349)))))] ++ fd dom342 σ343) _ _ []
  refine v_iinc B (k := 0) (v := iI 27) (lv' := [(1, .int (iI 27)), (0, .ref h)]) dX4_init_58 rfl (by decide +kernel) (by decide +kernel) rfl ?_
  refine v_goto B (tgt := 34) dX4_init_61 (by decide +kernel) ?_
  refine v_iload_n B dX4_init_34 rfl rfl ?_
  refine v_aload_n B dX4_init_35 rfl rfl ?_
  refine v_get B (k0 := 0) (C := RX4) (T := TX4) (N := 6) (ci := 4) hi_k_Diary_X4 rfl rfl 2 (by decide +kernel) (List.mem_of_getElem? (i := 9) rfl) rfl dX4_init_36 ?_
  refine v_alen B (k0 := 1) (t0 := 4) (v := iI 32) rfl rfl (show Int32.ofNat 32 = iI 32 by decide +kernel) dX4_init_39 ?_
  refine v_icmp_ge B (tgt := 64) dX4_init_40 (by decide +kernel) (fun q => absurd q (by decide +kernel)) (fun _ => ?_)
  refine v_aload_n B dX4_init_43 rfl rfl ?_
  refine v_get B (k0 := 0) (C := RX4) (T := TX4) (N := 6) (ci := 4) hi_k_Diary_X4 rfl rfl 2 (by decide +kernel) (List.mem_of_getElem? (i := 9) rfl) rfl dX4_init_44 ?_
  refine v_iload_n B dX4_init_47 rfl rfl ?_
  refine v_new B (C := RX9) (T := TX9) (N := 2) (ci := 9) (fs := [.null, .int (iI 0)]) hi_k_Diary_X9 tyX9 tyX9_ok (List.mem_of_getElem? (i := 8) rfl) (List.mem_of_getElem? (i := 10) rfl) (List.mem_of_getElem? (i := 11) rfl) rfl (by decide +kernel) (by decide +kernel) (by decide +kernel) dX4_init_48 (fun q351 => ?_)
  show V _ _ _ _ _ _ _ _ _ _ _ _ _ _ (90, 1328) (([(h, .inr (4, [.ref q1, .ref q9, .ref q25, .int (iI 0), .int (iI 0), .int (iI 0)])), (q25, .inl (K 4, 32, .inr (.inr (.inr (.inr f349)))))] ++ fd dom342 σ343) ++ [(q351, .inr (9, [.null, .int (iI 0)]))]) _ _ [.ref q351, .int (iI 27), .ref q25]
  refine v_perm (pm1 [(h, .inr (4, [.ref q1, .ref q9, .ref q25, .int (iI 0), .int (iI 0), .int (iI 0)])), (q25, .inl (K 4, 32, .inr (.inr (.inr (.inr f349)))))] (fd dom342 σ343) (q351, .inr (9, [.null, .int (iI 0)]))) ?_
  refine v_dup B dX4_init_51 rfl ?_
  refine v_bipush B (v := iI 40) dX4_init_52 (by decide +kernel) ?_
  refine v_callIv B (b := q351) (n := 1) (As := [.int (iI 40)]) (rest := [.ref q351, .int (iI 27), .ref q25]) (wc := (q351, .inr (9, [.null, .int (iI 0)])) :: fd dom342 σ343) (wr := [(h, .inr (4, [.ref q1, .ref q9, .ref q25, .int (iI 0), .int (iI 0), .int (iI 0)])), (q25, .inl (K 4, 32, .inr (.inr (.inr (.inr f349)))))]) (k_Row l D K Z345 G346 q351 16 40 (iI 40) (by decide +kernel)) gd_k_Diary_k_Row_26 rfl rfl rfl (by decide +kernel) ⟨by decide +kernel, by decide +kernel⟩ (List.mem_of_getElem? (i := 11) rfl) (List.mem_of_getElem? (i := 12) rfl) (List.mem_of_getElem? (i := 13) rfl) rfl (sp_app _ _) rfl rfl (Nat.le_of_ble_eq_true rfl) dX4_init_54 ⟨by decide +kernel, by decide +kernel⟩ (fun u352 hp353 => ?_)
  obtain ⟨dom354, σ355, τ356⟩ := u352
  obtain ⟨Z357, G358, t359, m360⟩ := hp353
  show V _ _ _ _ _ _ _ _ _ _ _ _ _ _ (91, 1368) ([(h, .inr (4, [.ref q1, .ref q9, .ref q25, .int (iI 0), .int (iI 0), .int (iI 0)])), (q25, .inl (K 4, 32, .inr (.inr (.inr (.inr f349)))))] ++ fd dom354 σ355) _ _ [.ref q351, .int (iI 27), .ref q25]
  refine v_aastT B Z357 (E := [(h, .inr (4, [.ref q1, .ref q9, .ref q25, .int (iI 0), .int (iI 0), .int (iI 0)])), (q25, .inl (K 4, 32, .inr (.inr (.inr (.inr f349)))))]) (k0 := 1) (t0 := 4) (ci := 9) (rr := (RX9, TX9, 2)) (i := 27) (E' := [(h, .inr (4, [.ref q1, .ref q9, .ref q25, .int (iI 0), .int (iI 0), .int (iI 0)])), (q25, .inl (K 4, 32, .inr (.inr (.inr (.inr (va_up f349 27 (some q351)))))))]) rfl rfl t359 (cls_Row G358 t359) rfl (vpi (by decide +kernel)) (by decide +kernel) rfl dX4_init_57 ?_
  have H362 := rows_step (i := 27) (r := q351) H350 m360 t359
  generalize va_up f349 27 (some q351) = f361 at H362 ⊢
  show V _ _ _ _ _ _ _ _ _ _ _ _ _ _ (91, 1368) ([(h, .inr (4, [.ref q1, .ref q9, .ref q25, .int (iI 0), .int (iI 0), .int (iI 0)])), (q25, .inl (K 4, 32, .inr (.inr (.inr (.inr f361)))))] ++ fd dom354 σ355) _ _ []
  refine v_iinc B (k := 0) (v := iI 28) (lv' := [(1, .int (iI 28)), (0, .ref h)]) dX4_init_58 rfl (by decide +kernel) (by decide +kernel) rfl ?_
  refine v_goto B (tgt := 34) dX4_init_61 (by decide +kernel) ?_
  refine v_iload_n B dX4_init_34 rfl rfl ?_
  refine v_aload_n B dX4_init_35 rfl rfl ?_
  refine v_get B (k0 := 0) (C := RX4) (T := TX4) (N := 6) (ci := 4) hi_k_Diary_X4 rfl rfl 2 (by decide +kernel) (List.mem_of_getElem? (i := 9) rfl) rfl dX4_init_36 ?_
  refine v_alen B (k0 := 1) (t0 := 4) (v := iI 32) rfl rfl (show Int32.ofNat 32 = iI 32 by decide +kernel) dX4_init_39 ?_
  refine v_icmp_ge B (tgt := 64) dX4_init_40 (by decide +kernel) (fun q => absurd q (by decide +kernel)) (fun _ => ?_)
  refine v_aload_n B dX4_init_43 rfl rfl ?_
  refine v_get B (k0 := 0) (C := RX4) (T := TX4) (N := 6) (ci := 4) hi_k_Diary_X4 rfl rfl 2 (by decide +kernel) (List.mem_of_getElem? (i := 9) rfl) rfl dX4_init_44 ?_
  refine v_iload_n B dX4_init_47 rfl rfl ?_
  refine v_new B (C := RX9) (T := TX9) (N := 2) (ci := 9) (fs := [.null, .int (iI 0)]) hi_k_Diary_X9 tyX9 tyX9_ok (List.mem_of_getElem? (i := 8) rfl) (List.mem_of_getElem? (i := 10) rfl) (List.mem_of_getElem? (i := 11) rfl) rfl (by decide +kernel) (by decide +kernel) (by decide +kernel) dX4_init_48 (fun q363 => ?_)
  show V _ _ _ _ _ _ _ _ _ _ _ _ _ _ (92, 1370) (([(h, .inr (4, [.ref q1, .ref q9, .ref q25, .int (iI 0), .int (iI 0), .int (iI 0)])), (q25, .inl (K 4, 32, .inr (.inr (.inr (.inr f361)))))] ++ fd dom354 σ355) ++ [(q363, .inr (9, [.null, .int (iI 0)]))]) _ _ [.ref q363, .int (iI 28), .ref q25]
  refine v_perm (pm1 [(h, .inr (4, [.ref q1, .ref q9, .ref q25, .int (iI 0), .int (iI 0), .int (iI 0)])), (q25, .inl (K 4, 32, .inr (.inr (.inr (.inr f361)))))] (fd dom354 σ355) (q363, .inr (9, [.null, .int (iI 0)]))) ?_
  refine v_dup B dX4_init_51 rfl ?_
  refine v_bipush B (v := iI 40) dX4_init_52 (by decide +kernel) ?_
  refine v_callIv B (b := q363) (n := 1) (As := [.int (iI 40)]) (rest := [.ref q363, .int (iI 28), .ref q25]) (wc := (q363, .inr (9, [.null, .int (iI 0)])) :: fd dom354 σ355) (wr := [(h, .inr (4, [.ref q1, .ref q9, .ref q25, .int (iI 0), .int (iI 0), .int (iI 0)])), (q25, .inl (K 4, 32, .inr (.inr (.inr (.inr f361)))))]) (k_Row l D K Z357 G358 q363 16 40 (iI 40) (by decide +kernel)) gd_k_Diary_k_Row_26 rfl rfl rfl (by decide +kernel) ⟨by decide +kernel, by decide +kernel⟩ (List.mem_of_getElem? (i := 11) rfl) (List.mem_of_getElem? (i := 12) rfl) (List.mem_of_getElem? (i := 13) rfl) rfl (sp_app _ _) rfl rfl (Nat.le_of_ble_eq_true rfl) dX4_init_54 ⟨by decide +kernel, by decide +kernel⟩ (fun u364 hp365 => ?_)
  obtain ⟨dom366, σ367, τ368⟩ := u364
  obtain ⟨Z369, G370, t371, m372⟩ := hp365
  show V _ _ _ _ _ _ _ _ _ _ _ _ _ _ (93, 1410) ([(h, .inr (4, [.ref q1, .ref q9, .ref q25, .int (iI 0), .int (iI 0), .int (iI 0)])), (q25, .inl (K 4, 32, .inr (.inr (.inr (.inr f361)))))] ++ fd dom366 σ367) _ _ [.ref q363, .int (iI 28), .ref q25]
  refine v_aastT B Z369 (E := [(h, .inr (4, [.ref q1, .ref q9, .ref q25, .int (iI 0), .int (iI 0), .int (iI 0)])), (q25, .inl (K 4, 32, .inr (.inr (.inr (.inr f361)))))]) (k0 := 1) (t0 := 4) (ci := 9) (rr := (RX9, TX9, 2)) (i := 28) (E' := [(h, .inr (4, [.ref q1, .ref q9, .ref q25, .int (iI 0), .int (iI 0), .int (iI 0)])), (q25, .inl (K 4, 32, .inr (.inr (.inr (.inr (va_up f361 28 (some q363)))))))]) rfl rfl t371 (cls_Row G370 t371) rfl (vpi (by decide +kernel)) (by decide +kernel) rfl dX4_init_57 ?_
  have H374 := rows_step (i := 28) (r := q363) H362 m372 t371
  generalize va_up f361 28 (some q363) = f373 at H374 ⊢
  show V _ _ _ _ _ _ _ _ _ _ _ _ _ _ (93, 1410) ([(h, .inr (4, [.ref q1, .ref q9, .ref q25, .int (iI 0), .int (iI 0), .int (iI 0)])), (q25, .inl (K 4, 32, .inr (.inr (.inr (.inr f373)))))] ++ fd dom366 σ367) _ _ []
  refine v_iinc B (k := 0) (v := iI 29) (lv' := [(1, .int (iI 29)), (0, .ref h)]) dX4_init_58 rfl (by decide +kernel) (by decide +kernel) rfl ?_
  refine v_goto B (tgt := 34) dX4_init_61 (by decide +kernel) ?_
  refine v_iload_n B dX4_init_34 rfl rfl ?_
  refine v_aload_n B dX4_init_35 rfl rfl ?_
  refine v_get B (k0 := 0) (C := RX4) (T := TX4) (N := 6) (ci := 4) hi_k_Diary_X4 rfl rfl 2 (by decide +kernel) (List.mem_of_getElem? (i := 9) rfl) rfl dX4_init_36 ?_
  refine v_alen B (k0 := 1) (t0 := 4) (v := iI 32) rfl rfl (show Int32.ofNat 32 = iI 32 by decide +kernel) dX4_init_39 ?_
  refine v_icmp_ge B (tgt := 64) dX4_init_40 (by decide +kernel) (fun q => absurd q (by decide +kernel)) (fun _ => ?_)
  refine v_aload_n B dX4_init_43 rfl rfl ?_
  refine v_get B (k0 := 0) (C := RX4) (T := TX4) (N := 6) (ci := 4) hi_k_Diary_X4 rfl rfl 2 (by decide +kernel) (List.mem_of_getElem? (i := 9) rfl) rfl dX4_init_44 ?_
  refine v_iload_n B dX4_init_47 rfl rfl ?_
  refine v_new B (C := RX9) (T := TX9) (N := 2) (ci := 9) (fs := [.null, .int (iI 0)]) hi_k_Diary_X9 tyX9 tyX9_ok (List.mem_of_getElem? (i := 8) rfl) (List.mem_of_getElem? (i := 10) rfl) (List.mem_of_getElem? (i := 11) rfl) rfl (by decide +kernel) (by decide +kernel) (by decide +kernel) dX4_init_48 (fun q375 => ?_)
  show V _ _ _ _ _ _ _ _ _ _ _ _ _ _ (94, 1412) (([(h, .inr (4, [.ref q1, .ref q9, .ref q25, .int (iI 0), .int (iI 0), .int (iI 0)])), (q25, .inl (K 4, 32, .inr (.inr (.inr (.inr f373)))))] ++ fd dom366 σ367) ++ [(q375, .inr (9, [.null, .int (iI 0)]))]) _ _ [.ref q375, .int (iI 29), .ref q25]
  refine v_perm (pm1 [(h, .inr (4, [.ref q1, .ref q9, .ref q25, .int (iI 0), .int (iI 0), .int (iI 0)])), (q25, .inl (K 4, 32, .inr (.inr (.inr (.inr f373)))))] (fd dom366 σ367) (q375, .inr (9, [.null, .int (iI 0)]))) ?_
  refine v_dup B dX4_init_51 rfl ?_
  refine v_bipush B (v := iI 40) dX4_init_52 (by decide +kernel) ?_
  refine v_callIv B (b := q375) (n := 1) (As := [.int (iI 40)]) (rest := [.ref q375, .int (iI 29), .ref q25]) (wc := (q375, .inr (9, [.null, .int (iI 0)])) :: fd dom366 σ367) (wr := [(h, .inr (4, [.ref q1, .ref q9, .ref q25, .int (iI 0), .int (iI 0), .int (iI 0)])), (q25, .inl (K 4, 32, .inr (.inr (.inr (.inr f373)))))]) (k_Row l D K Z369 G370 q375 16 40 (iI 40) (by decide +kernel)) gd_k_Diary_k_Row_26 rfl rfl rfl (by decide +kernel) ⟨by decide +kernel, by decide +kernel⟩ (List.mem_of_getElem? (i := 11) rfl) (List.mem_of_getElem? (i := 12) rfl) (List.mem_of_getElem? (i := 13) rfl) rfl (sp_app _ _) rfl rfl (Nat.le_of_ble_eq_true rfl) dX4_init_54 ⟨by decide +kernel, by decide +kernel⟩ (fun u376 hp377 => ?_)
  obtain ⟨dom378, σ379, τ380⟩ := u376
  obtain ⟨Z381, G382, t383, m384⟩ := hp377
  show V _ _ _ _ _ _ _ _ _ _ _ _ _ _ (95, 1452) ([(h, .inr (4, [.ref q1, .ref q9, .ref q25, .int (iI 0), .int (iI 0), .int (iI 0)])), (q25, .inl (K 4, 32, .inr (.inr (.inr (.inr f373)))))] ++ fd dom378 σ379) _ _ [.ref q375, .int (iI 29), .ref q25]
  refine v_aastT B Z381 (E := [(h, .inr (4, [.ref q1, .ref q9, .ref q25, .int (iI 0), .int (iI 0), .int (iI 0)])), (q25, .inl (K 4, 32, .inr (.inr (.inr (.inr f373)))))]) (k0 := 1) (t0 := 4) (ci := 9) (rr := (RX9, TX9, 2)) (i := 29) (E' := [(h, .inr (4, [.ref q1, .ref q9, .ref q25, .int (iI 0), .int (iI 0), .int (iI 0)])), (q25, .inl (K 4, 32, .inr (.inr (.inr (.inr (va_up f373 29 (some q375)))))))]) rfl rfl t383 (cls_Row G382 t383) rfl (vpi (by decide +kernel)) (by decide +kernel) rfl dX4_init_57 ?_
  have H386 := rows_step (i := 29) (r := q375) H374 m384 t383
  generalize va_up f373 29 (some q375) = f385 at H386 ⊢
  show V _ _ _ _ _ _ _ _ _ _ _ _ _ _ (95, 1452) ([(h, .inr (4, [.ref q1, .ref q9, .ref q25, .int (iI 0), .int (iI 0), .int (iI 0)])), (q25, .inl (K 4, 32, .inr (.inr (.inr (.inr f385)))))] ++ fd dom378 σ379) _ _ []
  refine v_iinc B (k := 0) (v := iI 30) (lv' := [(1, .int (iI 30)), (0, .ref h)]) dX4_init_58 rfl (by decide +kernel) (by decide +kernel) rfl ?_
  refine v_goto B (tgt := 34) dX4_init_61 (by decide +kernel) ?_
  refine v_iload_n B dX4_init_34 rfl rfl ?_
  refine v_aload_n B dX4_init_35 rfl rfl ?_
  refine v_get B (k0 := 0) (C := RX4) (T := TX4) (N := 6) (ci := 4) hi_k_Diary_X4 rfl rfl 2 (by decide +kernel) (List.mem_of_getElem? (i := 9) rfl) rfl dX4_init_36 ?_
  refine v_alen B (k0 := 1) (t0 := 4) (v := iI 32) rfl rfl (show Int32.ofNat 32 = iI 32 by decide +kernel) dX4_init_39 ?_
  refine v_icmp_ge B (tgt := 64) dX4_init_40 (by decide +kernel) (fun q => absurd q (by decide +kernel)) (fun _ => ?_)
  refine v_aload_n B dX4_init_43 rfl rfl ?_
  refine v_get B (k0 := 0) (C := RX4) (T := TX4) (N := 6) (ci := 4) hi_k_Diary_X4 rfl rfl 2 (by decide +kernel) (List.mem_of_getElem? (i := 9) rfl) rfl dX4_init_44 ?_
  refine v_iload_n B dX4_init_47 rfl rfl ?_
  refine v_new B (C := RX9) (T := TX9) (N := 2) (ci := 9) (fs := [.null, .int (iI 0)]) hi_k_Diary_X9 tyX9 tyX9_ok (List.mem_of_getElem? (i := 8) rfl) (List.mem_of_getElem? (i := 10) rfl) (List.mem_of_getElem? (i := 11) rfl) rfl (by decide +kernel) (by decide +kernel) (by decide +kernel) dX4_init_48 (fun q387 => ?_)
  show V _ _ _ _ _ _ _ _ _ _ _ _ _ _ (96, 1454) (([(h, .inr (4, [.ref q1, .ref q9, .ref q25, .int (iI 0), .int (iI 0), .int (iI 0)])), (q25, .inl (K 4, 32, .inr (.inr (.inr (.inr f385)))))] ++ fd dom378 σ379) ++ [(q387, .inr (9, [.null, .int (iI 0)]))]) _ _ [.ref q387, .int (iI 30), .ref q25]
  refine v_perm (pm1 [(h, .inr (4, [.ref q1, .ref q9, .ref q25, .int (iI 0), .int (iI 0), .int (iI 0)])), (q25, .inl (K 4, 32, .inr (.inr (.inr (.inr f385)))))] (fd dom378 σ379) (q387, .inr (9, [.null, .int (iI 0)]))) ?_
  refine v_dup B dX4_init_51 rfl ?_
  refine v_bipush B (v := iI 40) dX4_init_52 (by decide +kernel) ?_
  refine v_callIv B (b := q387) (n := 1) (As := [.int (iI 40)]) (rest := [.ref q387, .int (iI 30), .ref q25]) (wc := (q387, .inr (9, [.null, .int (iI 0)])) :: fd dom378 σ379) (wr := [(h, .inr (4, [.ref q1, .ref q9, .ref q25, .int (iI 0), .int (iI 0), .int (iI 0)])), (q25, .inl (K 4, 32, .inr (.inr (.inr (.inr f385)))))]) (k_Row l D K Z381 G382 q387 16 40 (iI 40) (by decide +kernel)) gd_k_Diary_k_Row_26 rfl rfl rfl (by decide +kernel) ⟨by decide +kernel, by decide +kernel⟩ (List.mem_of_getElem? (i := 11) rfl) (List.mem_of_getElem? (i := 12) rfl) (List.mem_of_getElem? (i := 13) rfl) rfl (sp_app _ _) rfl rfl (Nat.le_of_ble_eq_true rfl) dX4_init_54 ⟨by decide +kernel, by decide +kernel⟩ (fun u388 hp389 => ?_)
  obtain ⟨dom390, σ391, τ392⟩ := u388
  obtain ⟨Z393, G394, t395, m396⟩ := hp389
  show V _ _ _ _ _ _ _ _ _ _ _ _ _ _ (97, 1494) ([(h, .inr (4, [.ref q1, .ref q9, .ref q25, .int (iI 0), .int (iI 0), .int (iI 0)])), (q25, .inl (K 4, 32, .inr (.inr (.inr (.inr f385)))))] ++ fd dom390 σ391) _ _ [.ref q387, .int (iI 30), .ref q25]
  refine v_aastT B Z393 (E := [(h, .inr (4, [.ref q1, .ref q9, .ref q25, .int (iI 0), .int (iI 0), .int (iI 0)])), (q25, .inl (K 4, 32, .inr (.inr (.inr (.inr f385)))))]) (k0 := 1) (t0 := 4) (ci := 9) (rr := (RX9, TX9, 2)) (i := 30) (E' := [(h, .inr (4, [.ref q1, .ref q9, .ref q25, .int (iI 0), .int (iI 0), .int (iI 0)])), (q25, .inl (K 4, 32, .inr (.inr (.inr (.inr (va_up f385 30 (some q387)))))))]) rfl rfl t395 (cls_Row G394 t395) rfl (vpi (by decide +kernel)) (by decide +kernel) rfl dX4_init_57 ?_
  have H398 := rows_step (i := 30) (r := q387) H386 m396 t395
  generalize va_up f385 30 (some q387) = f397 at H398 ⊢
  show V _ _ _ _ _ _ _ _ _ _ _ _ _ _ (97, 1494) ([(h, .inr (4, [.ref q1, .ref q9, .ref q25, .int (iI 0), .int (iI 0), .int (iI 0)])), (q25, .inl (K 4, 32, .inr (.inr (.inr (.inr f397)))))] ++ fd dom390 σ391) _ _ []
  refine v_iinc B (k := 0) (v := iI 31) (lv' := [(1, .int (iI 31)), (0, .ref h)]) dX4_init_58 rfl (by decide +kernel) (by decide +kernel) rfl ?_
  refine v_goto B (tgt := 34) dX4_init_61 (by decide +kernel) ?_
  refine v_iload_n B dX4_init_34 rfl rfl ?_
  refine v_aload_n B dX4_init_35 rfl rfl ?_
  refine v_get B (k0 := 0) (C := RX4) (T := TX4) (N := 6) (ci := 4) hi_k_Diary_X4 rfl rfl 2 (by decide +kernel) (List.mem_of_getElem? (i := 9) rfl) rfl dX4_init_36 ?_
  refine v_alen B (k0 := 1) (t0 := 4) (v := iI 32) rfl rfl (show Int32.ofNat 32 = iI 32 by decide +kernel) dX4_init_39 ?_
  refine v_icmp_ge B (tgt := 64) dX4_init_40 (by decide +kernel) (fun q => absurd q (by decide +kernel)) (fun _ => ?_)
  refine v_aload_n B dX4_init_43 rfl rfl ?_
  refine v_get B (k0 := 0) (C := RX4) (T := TX4) (N := 6) (ci := 4) hi_k_Diary_X4 rfl rfl 2 (by decide +kernel) (List.mem_of_getElem? (i := 9) rfl) rfl dX4_init_44 ?_
  refine v_iload_n B dX4_init_47 rfl rfl ?_
  refine v_new B (C := RX9) (T := TX9) (N := 2) (ci := 9) (fs := [.null, .int (iI 0)]) hi_k_Diary_X9 tyX9 tyX9_ok (List.mem_of_getElem? (i := 8) rfl) (List.mem_of_getElem? (i := 10) rfl) (List.mem_of_getElem? (i := 11) rfl) rfl (by decide +kernel) (by decide +kernel) (by decide +kernel) dX4_init_48 (fun q399 => ?_)
  show V _ _ _ _ _ _ _ _ _ _ _ _ _ _ (98, 1496) (([(h, .inr (4, [.ref q1, .ref q9, .ref q25, .int (iI 0), .int (iI 0), .int (iI 0)])), (q25, .inl (K 4, 32, .inr (.inr (.inr (.inr f397)))))] ++ fd dom390 σ391) ++ [(q399, .inr (9, [.null, .int (iI 0)]))]) _ _ [.ref q399, .int (iI 31), .ref q25]
  refine v_perm (pm1 [(h, .inr (4, [.ref q1, .ref q9, .ref q25, .int (iI 0), .int (iI 0), .int (iI 0)])), (q25, .inl (K 4, 32, .inr (.inr (.inr (.inr f397)))))] (fd dom390 σ391) (q399, .inr (9, [.null, .int (iI 0)]))) ?_
  refine v_dup B dX4_init_51 rfl ?_
  refine v_bipush B (v := iI 40) dX4_init_52 (by decide +kernel) ?_
  refine v_callIv B (b := q399) (n := 1) (As := [.int (iI 40)]) (rest := [.ref q399, .int (iI 31), .ref q25]) (wc := (q399, .inr (9, [.null, .int (iI 0)])) :: fd dom390 σ391) (wr := [(h, .inr (4, [.ref q1, .ref q9, .ref q25, .int (iI 0), .int (iI 0), .int (iI 0)])), (q25, .inl (K 4, 32, .inr (.inr (.inr (.inr f397)))))]) (k_Row l D K Z393 G394 q399 16 40 (iI 40) (by decide +kernel)) gd_k_Diary_k_Row_26 rfl rfl rfl (by decide +kernel) ⟨by decide +kernel, by decide +kernel⟩ (List.mem_of_getElem? (i := 11) rfl) (List.mem_of_getElem? (i := 12) rfl) (List.mem_of_getElem? (i := 13) rfl) rfl (sp_app _ _) rfl rfl (Nat.le_of_ble_eq_true rfl) dX4_init_54 ⟨by decide +kernel, by decide +kernel⟩ (fun u400 hp401 => ?_)
  obtain ⟨dom402, σ403, τ404⟩ := u400
  obtain ⟨Z405, G406, t407, m408⟩ := hp401
  show V _ _ _ _ _ _ _ _ _ _ _ _ _ _ (99, 1536) ([(h, .inr (4, [.ref q1, .ref q9, .ref q25, .int (iI 0), .int (iI 0), .int (iI 0)])), (q25, .inl (K 4, 32, .inr (.inr (.inr (.inr f397)))))] ++ fd dom402 σ403) _ _ [.ref q399, .int (iI 31), .ref q25]
  refine v_aastT B Z405 (E := [(h, .inr (4, [.ref q1, .ref q9, .ref q25, .int (iI 0), .int (iI 0), .int (iI 0)])), (q25, .inl (K 4, 32, .inr (.inr (.inr (.inr f397)))))]) (k0 := 1) (t0 := 4) (ci := 9) (rr := (RX9, TX9, 2)) (i := 31) (E' := [(h, .inr (4, [.ref q1, .ref q9, .ref q25, .int (iI 0), .int (iI 0), .int (iI 0)])), (q25, .inl (K 4, 32, .inr (.inr (.inr (.inr (va_up f397 31 (some q399)))))))]) rfl rfl t407 (cls_Row G406 t407) rfl (vpi (by decide +kernel)) (by decide +kernel) rfl dX4_init_57 ?_
  have H410 := rows_step (i := 31) (r := q399) H398 m408 t407
  generalize va_up f397 31 (some q399) = f409 at H410 ⊢
  show V _ _ _ _ _ _ _ _ _ _ _ _ _ _ (99, 1536) ([(h, .inr (4, [.ref q1, .ref q9, .ref q25, .int (iI 0), .int (iI 0), .int (iI 0)])), (q25, .inl (K 4, 32, .inr (.inr (.inr (.inr f409)))))] ++ fd dom402 σ403) _ _ []
  refine v_iinc B (k := 0) (v := iI 32) (lv' := [(1, .int (iI 32)), (0, .ref h)]) dX4_init_58 rfl (by decide +kernel) (by decide +kernel) rfl ?_
  refine v_goto B (tgt := 34) dX4_init_61 (by decide +kernel) ?_
  refine v_iload_n B dX4_init_34 rfl rfl ?_
  refine v_aload_n B dX4_init_35 rfl rfl ?_
  refine v_get B (k0 := 0) (C := RX4) (T := TX4) (N := 6) (ci := 4) hi_k_Diary_X4 rfl rfl 2 (by decide +kernel) (List.mem_of_getElem? (i := 9) rfl) rfl dX4_init_36 ?_
  refine v_alen B (k0 := 1) (t0 := 4) (v := iI 32) rfl rfl (show Int32.ofNat 32 = iI 32 by decide +kernel) dX4_init_39 ?_
  refine v_icmp_ge B (tgt := 64) dX4_init_40 (by decide +kernel) (fun _ => ?_) (fun q => absurd q (by decide +kernel))
  refine v_perm (pm3 [(h, .inr (4, [.ref q1, .ref q9, .ref q25, .int (iI 0), .int (iI 0), .int (iI 0)]))] [] (fd dom402 σ403) (q25, .inl (K 4, 32, .inr (.inr (.inr (.inr f409)))))) ?_
  show V _ _ _ _ _ _ _ _ _ _ _ _ _ _ (99, 1536) ([(h, .inr (4, [.ref q1, .ref q9, .ref q25, .int (iI 0), .int (iI 0), .int (iI 0)]))] ++ ((q25, .inl (K 4, 32, .inr (.inr (.inr (.inr f409))))) :: fd dom402 σ403)) _ _ []
  refine v_absorb (E := [(h, .inr (4, [.ref q1, .ref q9, .ref q25, .int (iI 0), .int (iI 0), .int (iI 0)]))]) (q := q25) (e0 := .inl (K 4, 32, .inr (.inr (.inr (.inr f409))))) (t := (5, 16, 32)) Z405 G406 (fun τ9 s9 _ => ⟨_, rfl, rows_sub H410 (Sub.tr Sub.rf s9)⟩) (fun dom411 σ412 τ413 Z414 G415 t416 m417 => ?_)
  show V _ _ _ _ _ _ _ _ _ _ _ _ _ _ (99, 1536) ([(h, .inr (4, [.ref q1, .ref q9, .ref q25, .int (iI 0), .int (iI 0), .int (iI 0)]))] ++ fd dom411 σ412) _ _ []
  show V _ _ _ _ _ _ _ _ _ _ _ _ _ _ (99, 1536) ([] ++ ((h, .inr (4, [.ref q1, .ref q9, .ref q25, .int (iI 0), .int (iI 0), .int (iI 0)])) :: fd dom411 σ412)) _ _ []
  refine v_absorb (E := []) (q := h) (e0 := .inr (4, [.ref q1, .ref q9, .ref q25, .int (iI 0), .int (iI 0), .int (iI 0)])) (t := (34, 0, 0)) Z414 G415 (fun τ9 s9 _ => ⟨q1, q9, q25, 0, 0, 0, rfl, s9 _ _ (m417 _ _ (m408 _ _ (m396 _ _ (m384 _ _ (m372 _ _ (m360 _ _ (m348 _ _ (m336 _ _ (m324 _ _ (m312 _ _ (m300 _ _ (m288 _ _ (m276 _ _ (m264 _ _ (m252 _ _ (m240 _ _ (m228 _ _ (m216 _ _ (m204 _ _ (m192 _ _ (m180 _ _ (m168 _ _ (m156 _ _ (m144 _ _ (m132 _ _ (m120 _ _ (m108 _ _ (m96 _ _ (m84 _ _ (m72 _ _ (m60 _ _ (m48 _ _ (m36 _ _ (m24 _ _ (m17 _ _ t7))))))))))))))))))))))))))))))))))), s9 _ _ (m417 _ _ (m408 _ _ (m396 _ _ (m384 _ _ (m372 _ _ (m360 _ _ (m348 _ _ (m336 _ _ (m324 _ _ (m312 _ _ (m300 _ _ (m288 _ _ (m276 _ _ (m264 _ _ (m252 _ _ (m240 _ _ (m228 _ _ (m216 _ _ (m204 _ _ (m192 _ _ (m180 _ _ (m168 _ _ (m156 _ _ (m144 _ _ (m132 _ _ (m120 _ _ (m108 _ _ (m96 _ _ (m84 _ _ (m72 _ _ (m60 _ _ (m48 _ _ (m36 _ _ t23))))))))))))))))))))))))))))))))), s9 _ _ t416, ⟨by decide, by decide⟩, ⟨by decide, by decide⟩, ⟨by decide, by decide⟩⟩) (fun dom418 σ419 τ420 Z421 G422 t423 m424 => ?_)
  exact v_vret B hr hlk (dom418, σ419, τ420) ⟨Z421, G422, t423, (Sub.tr (Sub.tr (Sub.tr (Sub.tr (Sub.tr (Sub.tr (Sub.tr (Sub.tr (Sub.tr (Sub.tr (Sub.tr (Sub.tr (Sub.tr (Sub.tr (Sub.tr (Sub.tr (Sub.tr (Sub.tr (Sub.tr (Sub.tr (Sub.tr (Sub.tr (Sub.tr (Sub.tr (Sub.tr (Sub.tr (Sub.tr (Sub.tr (Sub.tr (Sub.tr (Sub.tr (Sub.tr (Sub.tr (Sub.tr (Sub.tr (Sub.tr m8 m17) m24) m36) m48) m60) m72) m84) m96) m108) m120) m132) m144) m156) m168) m180) m192) m204) m216) m228) m240) m252) m264) m276) m288) m300) m312) m324) m336) m348) m360) m372) m384) m396) m408) m417) m424)⟩ rfl (by decide +kernel) (by decide +kernel) dX4_init_64

def wp_k_Mail : List Cond := .code yX7_init cX7_init 2 none :: (([.methodLink RX7 3 Lib.objectInit, .instanceMethod Lib.objectInit, .code Lib.objectInit ⟨#[0xb1]⟩ 1 none, .classLink RX7 9 RX9, .instantiable RX9 2, .initialized RX9, .methodLink RX7 11 yX9_init, .instanceMethod yX9_init, .code yX9_init cX9_init 2 none, .methodLink RX9 3 Lib.objectInit, .methodLink RX9 9 Lib.Math.max.name, .static Lib.Math.max.name, .initialized "java/lang/Math", .code Lib.Math.max.name Lib.Math.max.code 2 (some .int), .arrayClass .int, .fieldLink RX9 15 "LowEnergy$Row" "bytes" "[I", .fieldLink RX7 14 "LowEnergy$Mail" "current" "LLowEnergy$Row;", .fieldLink RX7 20 "LowEnergy$Mail" "controls" "[LLowEnergy$Row;", .fieldLink RX7 24 "LowEnergy$Mail" "messages" "[LLowEnergy$Row;", .fieldLink RX7 27 "LowEnergy$Mail" "gathered" "LLowEnergy$Row;", .fieldLink RX7 30 "LowEnergy$Mail" "letter" "LLowEnergy$Row;", .fieldLink RX7 33 "LowEnergy$Mail" "spare" "LLowEnergy$Row;"] : List Cond) ++ (wsX90 ++ (wsX70 ++ ([]))))
theorem hi_k_Mail_X9 : ∀ x ∈ u_ws RX9 TX9 2, x ∈ wp_k_Mail := fun _ h => List.mem_cons_of_mem _ (List.mem_append_right _ (List.mem_append_left _ h))
theorem hi_k_Mail_X7 : ∀ x ∈ u_ws RX7 TX7 16, x ∈ wp_k_Mail := fun _ h => List.mem_cons_of_mem _ (List.mem_append_right _ (List.mem_append_right _ (List.mem_append_left _ h)))
set_option maxRecDepth 100000 in
theorem gd_k_Mail_k_Row_11 : GoodIn wp_k_Mail (wp_k_Row) := goodIn_ca (goodIn_r _ [9, 10, 2, 3, 11, 12, 13, 14, 15, 16] rfl rfl) (goodIn_app (goodIn_cls hi_k_Mail_X9 gw_X9) (goodIn_nil))
set_option maxHeartbeats 4000000 in
set_option maxRecDepth 100000 in
theorem k_Mail (l : Launch) (D : va_G) (K : Nat → ClassId) {τ : Nat → Option Ty} {dom : List Nat} {σ : Nat → va_E} (Z : Sk τ dom) (G : Good K τ σ) (h : Nat) : MG l yX7_init wp_k_Mail ({ frames := 2, cells := 38, slots := 1230, locals := 35 }) D (tysA K) [.ref h] ((h, .inr (7, [.null, .int (iI 0), .int (iI 0), .null, .int (iI 0), .int (iI 0), .int (iI 0), .null, .int (iI 0), .int (iI 0), .int (iI 0), .null, .int (iI 0), .null, .int (iI 0), .null])) :: fd dom σ) (Qv D (fun u : List Nat × (Nat → va_E) × (Nat → Option Ty) => Sk u.2.2 u.1 ∧ Good K u.2.2 u.2.1 ∧ u.2.2 h = some (37, 0, 0) ∧ Sub τ u.2.2) (fun u => fd u.1 u.2.1)) 38 1230 := by
  refine mg_of (cc := cX7_init) (maxL := 2) (ret := none) (by decide +kernel) rfl (Nat.le_of_ble_eq_true rfl) ?_
  intro p e s m below meth c A B hr hlk hnam
  show V _ _ _ _ _ _ _ _ _ _ _ _ _ _ _ ([(h, .inr (7, [.null, .int (iI 0), .int (iI 0), .null, .int (iI 0), .int (iI 0), .int (iI 0), .null, .int (iI 0), .int (iI 0), .int (iI 0), .null, .int (iI 0), .null, .int (iI 0), .null]))] ++ fd dom σ) [(0, .ref h)] _ _
  refine v_aload_n B dX7_init_0 rfl rfl ?_
  refine v_objInit B (List.mem_of_getElem? (i := 1) rfl) (List.mem_of_getElem? (i := 2) rfl) (List.mem_of_getElem? (i := 3) rfl) dX7_init_1 (by decide +kernel) (Nat.le_of_ble_eq_true rfl) ?_
  refine v_aload_n B dX7_init_4 rfl rfl ?_
  refine v_new B (C := RX9) (T := TX9) (N := 2) (ci := 9) (fs := [.null, .int (iI 0)]) hi_k_Mail_X9 tyX9 tyX9_ok (List.mem_of_getElem? (i := 4) rfl) (List.mem_of_getElem? (i := 5) rfl) (List.mem_of_getElem? (i := 6) rfl) rfl (by decide +kernel) (by decide +kernel) (by decide +kernel) dX7_init_5 (fun q1 => ?_)
  show V _ _ _ _ _ _ _ _ _ _ _ _ _ _ (1, 2) (([(h, .inr (7, [.null, .int (iI 0), .int (iI 0), .null, .int (iI 0), .int (iI 0), .int (iI 0), .null, .int (iI 0), .int (iI 0), .int (iI 0), .null, .int (iI 0), .null, .int (iI 0), .null]))] ++ fd dom σ) ++ [(q1, .inr (9, [.null, .int (iI 0)]))]) _ _ [.ref q1, .ref h]
  refine v_perm (pm1 [(h, .inr (7, [.null, .int (iI 0), .int (iI 0), .null, .int (iI 0), .int (iI 0), .int (iI 0), .null, .int (iI 0), .int (iI 0), .int (iI 0), .null, .int (iI 0), .null, .int (iI 0), .null]))] (fd dom σ) (q1, .inr (9, [.null, .int (iI 0)]))) ?_
  refine v_dup B dX7_init_8 rfl ?_
  refine v_bipush B (v := iI 31) dX7_init_9 (by decide +kernel) ?_
  refine v_callIv B (b := q1) (n := 1) (As := [.int (iI 31)]) (rest := [.ref q1, .ref h]) (wc := (q1, .inr (9, [.null, .int (iI 0)])) :: fd dom σ) (wr := [(h, .inr (7, [.null, .int (iI 0), .int (iI 0), .null, .int (iI 0), .int (iI 0), .int (iI 0), .null, .int (iI 0), .int (iI 0), .int (iI 0), .null, .int (iI 0), .null, .int (iI 0), .null]))]) (k_Row l D K Z G q1 2 31 (iI 31) (by decide +kernel)) gd_k_Mail_k_Row_11 rfl rfl rfl (by decide +kernel) ⟨by decide +kernel, by decide +kernel⟩ (List.mem_of_getElem? (i := 6) rfl) (List.mem_of_getElem? (i := 7) rfl) (List.mem_of_getElem? (i := 8) rfl) rfl (sp_app _ _) rfl rfl (Nat.le_of_ble_eq_true rfl) dX7_init_11 ⟨by decide +kernel, by decide +kernel⟩ (fun u2 hp3 => ?_)
  obtain ⟨dom4, σ5, τ6⟩ := u2
  obtain ⟨Z7, G8, t9, m10⟩ := hp3
  show V _ _ _ _ _ _ _ _ _ _ _ _ _ _ (2, 33) ([(h, .inr (7, [.null, .int (iI 0), .int (iI 0), .null, .int (iI 0), .int (iI 0), .int (iI 0), .null, .int (iI 0), .int (iI 0), .int (iI 0), .null, .int (iI 0), .null, .int (iI 0), .null]))] ++ fd dom4 σ5) _ _ [.ref q1, .ref h]
  refine v_putF B (k0 := 0) (C := RX7) (T := TX7) (N := 16) (ci := 7) hi_k_Mail_X7 rfl rfl 0 (by decide +kernel) tyX7 tyX7_ok nmX7 (List.mem_of_getElem? (i := 17) rfl) rfl hnam rfl (ty := .object "LowEnergy$Row") (tyX7_ok 0 (by decide +kernel)) rfl rfl (Nat.le_of_ble_eq_true rfl) (w' := [(h, .inr (7, [.ref q1, .int (iI 0), .int (iI 0), .null, .int (iI 0), .int (iI 0), .int (iI 0), .null, .int (iI 0), .int (iI 0), .int (iI 0), .null, .int (iI 0), .null, .int (iI 0), .null]))] ++ fd dom4 σ5) rfl dX7_init_14 ?_
  refine v_aload_n B dX7_init_17 rfl rfl ?_
  refine v_bipush B (v := iI 6) dX7_init_18 (by decide +kernel) ?_
  refine v_newq B (C := RX9) (cA := K 4) (t0 := 4) (N' := 6) (List.mem_of_getElem? (i := 4) rfl) B.2.2.2.2.2.1.2.2.1 rfl (by decide +kernel) (by decide +kernel) (by decide +kernel) (by decide +kernel) (by decide +kernel) dX7_init_20 (fun q11 => ?_)
  show V _ _ _ _ _ _ _ _ _ _ _ _ _ _ (3, 39) (([(h, .inr (7, [.ref q1, .int (iI 0), .int (iI 0), .null, .int (iI 0), .int (iI 0), .int (iI 0), .null, .int (iI 0), .int (iI 0), .int (iI 0), .null, .int (iI 0), .null, .int (iI 0), .null]))] ++ fd dom4 σ5) ++ [(q11, .inl (K 4, 6, .inr (.inr (.inr (.inr (fun _ => none))))))]) _ _ [.ref q11, .ref h]
  refine v_perm (pm5 [(h, .inr (7, [.ref q1, .int (iI 0), .int (iI 0), .null, .int (iI 0), .int (iI 0), .int (iI 0), .null, .int (iI 0), .int (iI 0), .int (iI 0), .null, .int (iI 0), .null, .int (iI 0), .null]))] (fd dom4 σ5) (q11, .inl (K 4, 6, .inr (.inr (.inr (.inr (fun _ => none))))))) ?_
  show V _ _ _ _ _ _ _ _ _ _ _ _ _ _ (3, 39) ([(h, .inr (7, [.ref q1, .int (iI 0), .int (iI 0), .null, .int (iI 0), .int (iI 0), .int (iI 0), .null, .int (iI 0), .int (iI 0), .int (iI 0), .null, .int (iI 0), .null, .int (iI 0), .null])), (q11, .inl (K 4, 6, .inr (.inr (.inr (.inr (fun _ => none))))))] ++ fd dom4 σ5) _ _ [.ref q11, .ref h]
  have H12 : ∀ j : Nat, j < 0 → ∃ a : Nat, (fun _ : Nat => (none : Option Nat)) j = some a ∧ τ6 a = some (1, 9, 0) := fun _ h => by omega
  refine v_putF B (k0 := 0) (C := RX7) (T := TX7) (N := 16) (ci := 7) hi_k_Mail_X7 rfl rfl 3 (by decide +kernel) tyX7 tyX7_ok nmX7 (List.mem_of_getElem? (i := 18) rfl) rfl hnam rfl (ty := .array (.object "LowEnergy$Row")) (tyX7_ok 3 (by decide +kernel)) rfl rfl (Nat.le_of_ble_eq_true rfl) (w' := [(h, .inr (7, [.ref q1, .int (iI 0), .int (iI 0), .ref q11, .int (iI 0), .int (iI 0), .int (iI 0), .null, .int (iI 0), .int (iI 0), .int (iI 0), .null, .int (iI 0), .null, .int (iI 0), .null])), (q11, .inl (K 4, 6, .inr (.inr (.inr (.inr (fun _ => none))))))] ++ fd dom4 σ5) rfl dX7_init_23 ?_
  refine v_aload_n B dX7_init_26 rfl rfl ?_
  refine v_bipush B (v := iI 8) dX7_init_27 (by decide +kernel) ?_
  refine v_newq B (C := RX9) (cA := K 4) (t0 := 4) (N' := 8) (List.mem_of_getElem? (i := 4) rfl) B.2.2.2.2.2.1.2.2.1 rfl (by decide +kernel) (by decide +kernel) (by decide +kernel) (by decide +kernel) (by decide +kernel) dX7_init_29 (fun q13 => ?_)
  show V _ _ _ _ _ _ _ _ _ _ _ _ _ _ (4, 47) (([(h, .inr (7, [.ref q1, .int (iI 0), .int (iI 0), .ref q11, .int (iI 0), .int (iI 0), .int (iI 0), .null, .int (iI 0), .int (iI 0), .int (iI 0), .null, .int (iI 0), .null, .int (iI 0), .null])), (q11, .inl (K 4, 6, .inr (.inr (.inr (.inr (fun _ => none))))))] ++ fd dom4 σ5) ++ [(q13, .inl (K 4, 8, .inr (.inr (.inr (.inr (fun _ => none))))))]) _ _ [.ref q13, .ref h]
  refine v_perm (pm5 [(h, .inr (7, [.ref q1, .int (iI 0), .int (iI 0), .ref q11, .int (iI 0), .int (iI 0), .int (iI 0), .null, .int (iI 0), .int (iI 0), .int (iI 0), .null, .int (iI 0), .null, .int (iI 0), .null])), (q11, .inl (K 4, 6, .inr (.inr (.inr (.inr (fun _ => none))))))] (fd dom4 σ5) (q13, .inl (K 4, 8, .inr (.inr (.inr (.inr (fun _ => none))))))) ?_
  show V _ _ _ _ _ _ _ _ _ _ _ _ _ _ (4, 47) ([(h, .inr (7, [.ref q1, .int (iI 0), .int (iI 0), .ref q11, .int (iI 0), .int (iI 0), .int (iI 0), .null, .int (iI 0), .int (iI 0), .int (iI 0), .null, .int (iI 0), .null, .int (iI 0), .null])), (q11, .inl (K 4, 6, .inr (.inr (.inr (.inr (fun _ => none)))))), (q13, .inl (K 4, 8, .inr (.inr (.inr (.inr (fun _ => none))))))] ++ fd dom4 σ5) _ _ [.ref q13, .ref h]
  have H14 : ∀ j : Nat, j < 0 → ∃ a : Nat, (fun _ : Nat => (none : Option Nat)) j = some a ∧ τ6 a = some (1, 10, 0) := fun _ h => by omega
  refine v_putF B (k0 := 0) (C := RX7) (T := TX7) (N := 16) (ci := 7) hi_k_Mail_X7 rfl rfl 7 (by decide +kernel) tyX7 tyX7_ok nmX7 (List.mem_of_getElem? (i := 19) rfl) rfl hnam rfl (ty := .array (.object "LowEnergy$Row")) (tyX7_ok 7 (by decide +kernel)) rfl rfl (Nat.le_of_ble_eq_true rfl) (w' := [(h, .inr (7, [.ref q1, .int (iI 0), .int (iI 0), .ref q11, .int (iI 0), .int (iI 0), .int (iI 0), .ref q13, .int (iI 0), .int (iI 0), .int (iI 0), .null, .int (iI 0), .null, .int (iI 0), .null])), (q11, .inl (K 4, 6, .inr (.inr (.inr (.inr (fun _ => none)))))), (q13, .inl (K 4, 8, .inr (.inr (.inr (.inr (fun _ => none))))))] ++ fd dom4 σ5) rfl dX7_init_32 ?_
  refine v_aload_n B dX7_init_35 rfl rfl ?_
  refine v_new B (C := RX9) (T := TX9) (N := 2) (ci := 9) (fs := [.null, .int (iI 0)]) hi_k_Mail_X9 tyX9 tyX9_ok (List.mem_of_getElem? (i := 4) rfl) (List.mem_of_getElem? (i := 5) rfl) (List.mem_of_getElem? (i := 6) rfl) rfl (by decide +kernel) (by decide +kernel) (by decide +kernel) dX7_init_36 (fun q15 => ?_)
  show V _ _ _ _ _ _ _ _ _ _ _ _ _ _ (5, 49) (([(h, .inr (7, [.ref q1, .int (iI 0), .int (iI 0), .ref q11, .int (iI 0), .int (iI 0), .int (iI 0), .ref q13, .int (iI 0), .int (iI 0), .int (iI 0), .null, .int (iI 0), .null, .int (iI 0), .null])), (q11, .inl (K 4, 6, .inr (.inr (.inr (.inr (fun _ => none)))))), (q13, .inl (K 4, 8, .inr (.inr (.inr (.inr (fun _ => none))))))] ++ fd dom4 σ5) ++ [(q15, .inr (9, [.null, .int (iI 0)]))]) _ _ [.ref q15, .ref h]
  refine v_perm (pm1 [(h, .inr (7, [.ref q1, .int (iI 0), .int (iI 0), .ref q11, .int (iI 0), .int (iI 0), .int (iI 0), .ref q13, .int (iI 0), .int (iI 0), .int (iI 0), .null, .int (iI 0), .null, .int (iI 0), .null])), (q11, .inl (K 4, 6, .inr (.inr (.inr (.inr (fun _ => none)))))), (q13, .inl (K 4, 8, .inr (.inr (.inr (.inr (fun _ => none))))))] (fd dom4 σ5) (q15, .inr (9, [.null, .int (iI 0)]))) ?_
  refine v_dup B dX7_init_39 rfl ?_
  refine v_bipush B (v := iI 96) dX7_init_40 (by decide +kernel) ?_
  refine v_callIv B (b := q15) (n := 1) (As := [.int (iI 96)]) (rest := [.ref q15, .ref h]) (wc := (q15, .inr (9, [.null, .int (iI 0)])) :: fd dom4 σ5) (wr := [(h, .inr (7, [.ref q1, .int (iI 0), .int (iI 0), .ref q11, .int (iI 0), .int (iI 0), .int (iI 0), .ref q13, .int (iI 0), .int (iI 0), .int (iI 0), .null, .int (iI 0), .null, .int (iI 0), .null])), (q11, .inl (K 4, 6, .inr (.inr (.inr (.inr (fun _ => none)))))), (q13, .inl (K 4, 8, .inr (.inr (.inr (.inr (fun _ => none))))))]) (k_Row l D K Z7 G8 q15 11 96 (iI 96) (by decide +kernel)) gd_k_Mail_k_Row_11 rfl rfl rfl (by decide +kernel) ⟨by decide +kernel, by decide +kernel⟩ (List.mem_of_getElem? (i := 6) rfl) (List.mem_of_getElem? (i := 7) rfl) (List.mem_of_getElem? (i := 8) rfl) rfl (sp_app _ _) rfl rfl (Nat.le_of_ble_eq_true rfl) dX7_init_42 ⟨by decide +kernel, by decide +kernel⟩ (fun u16 hp17 => ?_)
  obtain ⟨dom18, σ19, τ20⟩ := u16
  obtain ⟨Z21, G22, t23, m24⟩ := hp17
  show V _ _ _ _ _ _ _ _ _ _ _ _ _ _ (6, 145) ([(h, .inr (7, [.ref q1, .int (iI 0), .int (iI 0), .ref q11, .int (iI 0), .int (iI 0), .int (iI 0), .ref q13, .int (iI 0), .int (iI 0), .int (iI 0), .null, .int (iI 0), .null, .int (iI 0), .null])), (q11, .inl (K 4, 6, .inr (.inr (.inr (.inr (fun _ => none)))))), (q13, .inl (K 4, 8, .inr (.inr (.inr (.inr (fun _ => none))))))] ++ fd dom18 σ19) _ _ [.ref q15, .ref h]
  refine v_putF B (k0 := 0) (C := RX7) (T := TX7) (N := 16) (ci := 7) hi_k_Mail_X7 rfl rfl 11 (by decide +kernel) tyX7 tyX7_ok nmX7 (List.mem_of_getElem? (i := 20) rfl) rfl hnam rfl (ty := .object "LowEnergy$Row") (tyX7_ok 11 (by decide +kernel)) rfl rfl (Nat.le_of_ble_eq_true rfl) (w' := [(h, .inr (7, [.ref q1, .int (iI 0), .int (iI 0), .ref q11, .int (iI 0), .int (iI 0), .int (iI 0), .ref q13, .int (iI 0), .int (iI 0), .int (iI 0), .ref q15, .int (iI 0), .null, .int (iI 0), .null])), (q11, .inl (K 4, 6, .inr (.inr (.inr (.inr (fun _ => none)))))), (q13, .inl (K 4, 8, .inr (.inr (.inr (.inr (fun _ => none))))))] ++ fd dom18 σ19) rfl dX7_init_45 ?_
  refine v_aload_n B dX7_init_48 rfl rfl ?_
  refine v_new B (C := RX9) (T := TX9) (N := 2) (ci := 9) (fs := [.null, .int (iI 0)]) hi_k_Mail_X9 tyX9 tyX9_ok (List.mem_of_getElem? (i := 4) rfl) (List.mem_of_getElem? (i := 5) rfl) (List.mem_of_getElem? (i := 6) rfl) rfl (by decide +kernel) (by decide +kernel) (by decide +kernel) dX7_init_49 (fun q25 => ?_)
  show V _ _ _ _ _ _ _ _ _ _ _ _ _ _ (7, 147) (([(h, .inr (7, [.ref q1, .int (iI 0), .int (iI 0), .ref q11, .int (iI 0), .int (iI 0), .int (iI 0), .ref q13, .int (iI 0), .int (iI 0), .int (iI 0), .ref q15, .int (iI 0), .null, .int (iI 0), .null])), (q11, .inl (K 4, 6, .inr (.inr (.inr (.inr (fun _ => none)))))), (q13, .inl (K 4, 8, .inr (.inr (.inr (.inr (fun _ => none))))))] ++ fd dom18 σ19) ++ [(q25, .inr (9, [.null, .int (iI 0)]))]) _ _ [.ref q25, .ref h]
  refine v_perm (pm1 [(h, .inr (7, [.ref q1, .int (iI 0), .int (iI 0), .ref q11, .int (iI 0), .int (iI 0), .int (iI 0), .ref q13, .int (iI 0), .int (iI 0), .int (iI 0), .ref q15, .int (iI 0), .null, .int (iI 0), .null])), (q11, .inl (K 4, 6, .inr (.inr (.inr (.inr (fun _ => none)))))), (q13, .inl (K 4, 8, .inr (.inr (.inr (.inr (fun _ => none))))))] (fd dom18 σ19) (q25, .inr (9, [.null, .int (iI 0)]))) ?_
  refine v_dup B dX7_init_52 rfl ?_
  refine v_bipush B (v := iI 92) dX7_init_53 (by decide +kernel) ?_
  refine v_callIv B (b := q25) (n := 1) (As := [.int (iI 92)]) (rest := [.ref q25, .ref h]) (wc := (q25, .inr (9, [.null, .int (iI 0)])) :: fd dom18 σ19) (wr := [(h, .inr (7, [.ref q1, .int (iI 0), .int (iI 0), .ref q11, .int (iI 0), .int (iI 0), .int (iI 0), .ref q13, .int (iI 0), .int (iI 0), .int (iI 0), .ref q15, .int (iI 0), .null, .int (iI 0), .null])), (q11, .inl (K 4, 6, .inr (.inr (.inr (.inr (fun _ => none)))))), (q13, .inl (K 4, 8, .inr (.inr (.inr (.inr (fun _ => none))))))]) (k_Row l D K Z21 G22 q25 12 92 (iI 92) (by decide +kernel)) gd_k_Mail_k_Row_11 rfl rfl rfl (by decide +kernel) ⟨by decide +kernel, by decide +kernel⟩ (List.mem_of_getElem? (i := 6) rfl) (List.mem_of_getElem? (i := 7) rfl) (List.mem_of_getElem? (i := 8) rfl) rfl (sp_app _ _) rfl rfl (Nat.le_of_ble_eq_true rfl) dX7_init_55 ⟨by decide +kernel, by decide +kernel⟩ (fun u26 hp27 => ?_)
  obtain ⟨dom28, σ29, τ30⟩ := u26
  obtain ⟨Z31, G32, t33, m34⟩ := hp27
  show V _ _ _ _ _ _ _ _ _ _ _ _ _ _ (8, 239) ([(h, .inr (7, [.ref q1, .int (iI 0), .int (iI 0), .ref q11, .int (iI 0), .int (iI 0), .int (iI 0), .ref q13, .int (iI 0), .int (iI 0), .int (iI 0), .ref q15, .int (iI 0), .null, .int (iI 0), .null])), (q11, .inl (K 4, 6, .inr (.inr (.inr (.inr (fun _ => none)))))), (q13, .inl (K 4, 8, .inr (.inr (.inr (.inr (fun _ => none))))))] ++ fd dom28 σ29) _ _ [.ref q25, .ref h]
  refine v_putF B (k0 := 0) (C := RX7) (T := TX7) (N := 16) (ci := 7) hi_k_Mail_X7 rfl rfl 13 (by decide +kernel) tyX7 tyX7_ok nmX7 (List.mem_of_getElem? (i := 21) rfl) rfl hnam rfl (ty := .object "LowEnergy$Row") (tyX7_ok 13 (by decide +kernel)) rfl rfl (Nat.le_of_ble_eq_true rfl) (w' := [(h, .inr (7, [.ref q1, .int (iI 0), .int (iI 0), .ref q11, .int (iI 0), .int (iI 0), .int (iI 0), .ref q13, .int (iI 0), .int (iI 0), .int (iI 0), .ref q15, .int (iI 0), .ref q25, .int (iI 0), .null])), (q11, .inl (K 4, 6, .inr (.inr (.inr (.inr (fun _ => none)))))), (q13, .inl (K 4, 8, .inr (.inr (.inr (.inr (fun _ => none))))))] ++ fd dom28 σ29) rfl dX7_init_58 ?_
  refine v_aload_n B dX7_init_61 rfl rfl ?_
  refine v_new B (C := RX9) (T := TX9) (N := 2) (ci := 9) (fs := [.null, .int (iI 0)]) hi_k_Mail_X9 tyX9 tyX9_ok (List.mem_of_getElem? (i := 4) rfl) (List.mem_of_getElem? (i := 5) rfl) (List.mem_of_getElem? (i := 6) rfl) rfl (by decide +kernel) (by decide +kernel) (by decide +kernel) dX7_init_62 (fun q35 => ?_)
  show V _ _ _ _ _ _ _ _ _ _ _ _ _ _ (9, 241) (([(h, .inr (7, [.ref q1, .int (iI 0), .int (iI 0), .ref q11, .int (iI 0), .int (iI 0), .int (iI 0), .ref q13, .int (iI 0), .int (iI 0), .int (iI 0), .ref q15, .int (iI 0), .ref q25, .int (iI 0), .null])), (q11, .inl (K 4, 6, .inr (.inr (.inr (.inr (fun _ => none)))))), (q13, .inl (K 4, 8, .inr (.inr (.inr (.inr (fun _ => none))))))] ++ fd dom28 σ29) ++ [(q35, .inr (9, [.null, .int (iI 0)]))]) _ _ [.ref q35, .ref h]
  refine v_perm (pm1 [(h, .inr (7, [.ref q1, .int (iI 0), .int (iI 0), .ref q11, .int (iI 0), .int (iI 0), .int (iI 0), .ref q13, .int (iI 0), .int (iI 0), .int (iI 0), .ref q15, .int (iI 0), .ref q25, .int (iI 0), .null])), (q11, .inl (K 4, 6, .inr (.inr (.inr (.inr (fun _ => none)))))), (q13, .inl (K 4, 8, .inr (.inr (.inr (.inr (fun _ => none))))))] (fd dom28 σ29) (q35, .inr (9, [.null, .int (iI 0)]))) ?_
  refine v_dup B dX7_init_65 rfl ?_
  refine v_bipush B (v := iI 31) dX7_init_66 (by decide +kernel) ?_
  refine v_callIv B (b := q35) (n := 1) (As := [.int (iI 31)]) (rest := [.ref q35, .ref h]) (wc := (q35, .inr (9, [.null, .int (iI 0)])) :: fd dom28 σ29) (wr := [(h, .inr (7, [.ref q1, .int (iI 0), .int (iI 0), .ref q11, .int (iI 0), .int (iI 0), .int (iI 0), .ref q13, .int (iI 0), .int (iI 0), .int (iI 0), .ref q15, .int (iI 0), .ref q25, .int (iI 0), .null])), (q11, .inl (K 4, 6, .inr (.inr (.inr (.inr (fun _ => none)))))), (q13, .inl (K 4, 8, .inr (.inr (.inr (.inr (fun _ => none))))))]) (k_Row l D K Z31 G32 q35 9 31 (iI 31) (by decide +kernel)) gd_k_Mail_k_Row_11 rfl rfl rfl (by decide +kernel) ⟨by decide +kernel, by decide +kernel⟩ (List.mem_of_getElem? (i := 6) rfl) (List.mem_of_getElem? (i := 7) rfl) (List.mem_of_getElem? (i := 8) rfl) rfl (sp_app _ _) rfl rfl (Nat.le_of_ble_eq_true rfl) dX7_init_68 ⟨by decide +kernel, by decide +kernel⟩ (fun u36 hp37 => ?_)
  obtain ⟨dom38, σ39, τ40⟩ := u36
  obtain ⟨Z41, G42, t43, m44⟩ := hp37
  show V _ _ _ _ _ _ _ _ _ _ _ _ _ _ (10, 272) ([(h, .inr (7, [.ref q1, .int (iI 0), .int (iI 0), .ref q11, .int (iI 0), .int (iI 0), .int (iI 0), .ref q13, .int (iI 0), .int (iI 0), .int (iI 0), .ref q15, .int (iI 0), .ref q25, .int (iI 0), .null])), (q11, .inl (K 4, 6, .inr (.inr (.inr (.inr (fun _ => none)))))), (q13, .inl (K 4, 8, .inr (.inr (.inr (.inr (fun _ => none))))))] ++ fd dom38 σ39) _ _ [.ref q35, .ref h]
  refine v_putF B (k0 := 0) (C := RX7) (T := TX7) (N := 16) (ci := 7) hi_k_Mail_X7 rfl rfl 15 (by decide +kernel) tyX7 tyX7_ok nmX7 (List.mem_of_getElem? (i := 22) rfl) rfl hnam rfl (ty := .object "LowEnergy$Row") (tyX7_ok 15 (by decide +kernel)) rfl rfl (Nat.le_of_ble_eq_true rfl) (w' := [(h, .inr (7, [.ref q1, .int (iI 0), .int (iI 0), .ref q11, .int (iI 0), .int (iI 0), .int (iI 0), .ref q13, .int (iI 0), .int (iI 0), .int (iI 0), .ref q15, .int (iI 0), .ref q25, .int (iI 0), .ref q35])), (q11, .inl (K 4, 6, .inr (.inr (.inr (.inr (fun _ => none)))))), (q13, .inl (K 4, 8, .inr (.inr (.inr (.inr (fun _ => none))))))] ++ fd dom38 σ39) rfl dX7_init_71 ?_
  refine v_iconst B (v := iI 0) dX7_init_74 rfl ?_
  refine v_istore_n B (lv' := [(1, .int (iI 0)), (0, .ref h)]) dX7_init_75 rfl (by decide +kernel) rfl ?_
  refine v_iload_n B dX7_init_76 rfl rfl ?_
  refine v_aload_n B dX7_init_77 rfl rfl ?_
  refine v_get B (k0 := 0) (C := RX7) (T := TX7) (N := 16) (ci := 7) hi_k_Mail_X7 rfl rfl 3 (by decide +kernel) (List.mem_of_getElem? (i := 18) rfl) rfl dX7_init_78 ?_
  refine v_alen B (k0 := 1) (t0 := 4) (v := iI 6) rfl rfl (show Int32.ofNat 6 = iI 6 by decide +kernel) dX7_init_81 ?_
  refine v_icmp_ge B (tgt := 106) dX7_init_82 (by decide +kernel) (fun q => absurd q (by decide +kernel)) (fun _ => ?_)
  refine v_aload_n B dX7_init_85 rfl rfl ?_
  refine v_get B (k0 := 0) (C := RX7) (T := TX7) (N := 16) (ci := 7) hi_k_Mail_X7 rfl rfl 3 (by decide +kernel) (List.mem_of_getElem? (i := 18) rfl) rfl dX7_init_86 ?_
  refine v_iload_n B dX7_init_89 rfl rfl ?_
  refine v_new B (C := RX9) (T := TX9) (N := 2) (ci := 9) (fs := [.null, .int (iI 0)]) hi_k_Mail_X9 tyX9 tyX9_ok (List.mem_of_getElem? (i := 4) rfl) (List.mem_of_getElem? (i := 5) rfl) (List.mem_of_getElem? (i := 6) rfl) rfl (by decide +kernel) (by decide +kernel) (by decide +kernel) dX7_init_90 (fun q45 => ?_)
  show V _ _ _ _ _ _ _ _ _ _ _ _ _ _ (11, 274) (([(h, .inr (7, [.ref q1, .int (iI 0), .int (iI 0), .ref q11, .int (iI 0), .int (iI 0), .int (iI 0), .ref q13, .int (iI 0), .int (iI 0), .int (iI 0), .ref q15, .int (iI 0), .ref q25, .int (iI 0), .ref q35])), (q11, .inl (K 4, 6, .inr (.inr (.inr (.inr (fun _ => none)))))), (q13, .inl (K 4, 8, .inr (.inr (.inr (.inr (fun _ => none))))))] ++ fd dom38 σ39) ++ [(q45, .inr (9, [.null, .int (iI 0)]))]) _ _ [.ref q45, .int (iI 0), .ref q11]
  refine v_perm (pm1 [(h, .inr (7, [.ref q1, .int (iI 0), .int (iI 0), .ref q11, .int (iI 0), .int (iI 0), .int (iI 0), .ref q13, .int (iI 0), .int (iI 0), .int (iI 0), .ref q15, .int (iI 0), .ref q25, .int (iI 0), .ref q35])), (q11, .inl (K 4, 6, .inr (.inr (.inr (.inr (fun _ => none)))))), (q13, .inl (K 4, 8, .inr (.inr (.inr (.inr (fun _ => none))))))] (fd dom38 σ39) (q45, .inr (9, [.null, .int (iI 0)]))) ?_
  refine v_dup B dX7_init_93 rfl ?_
  refine v_bipush B (v := iI 27) dX7_init_94 (by decide +kernel) ?_
  refine v_callIv B (b := q45) (n := 1) (As := [.int (iI 27)]) (rest := [.ref q45, .int (iI 0), .ref q11]) (wc := (q45, .inr (9, [.null, .int (iI 0)])) :: fd dom38 σ39) (wr := [(h, .inr (7, [.ref q1, .int (iI 0), .int (iI 0), .ref q11, .int (iI 0), .int (iI 0), .int (iI 0), .ref q13, .int (iI 0), .int (iI 0), .int (iI 0), .ref q15, .int (iI 0), .ref q25, .int (iI 0), .ref q35])), (q11, .inl (K 4, 6, .inr (.inr (.inr (.inr (fun _ => none)))))), (q13, .inl (K 4, 8, .inr (.inr (.inr (.inr (fun _ => none))))))]) (k_Row l D K Z41 G42 q45 9 27 (iI 27) (by decide +kernel)) gd_k_Mail_k_Row_11 rfl rfl rfl (by decide +kernel) ⟨by decide +kernel, by decide +kernel⟩ (List.mem_of_getElem? (i := 6) rfl) (List.mem_of_getElem? (i := 7) rfl) (List.mem_of_getElem? (i := 8) rfl) rfl (sp_app _ _) rfl rfl (Nat.le_of_ble_eq_true rfl) dX7_init_96 ⟨by decide +kernel, by decide +kernel⟩ (fun u46 hp47 => ?_)
  obtain ⟨dom48, σ49, τ50⟩ := u46
  obtain ⟨Z51, G52, t53, m54⟩ := hp47
  show V _ _ _ _ _ _ _ _ _ _ _ _ _ _ (12, 301) ([(h, .inr (7, [.ref q1, .int (iI 0), .int (iI 0), .ref q11, .int (iI 0), .int (iI 0), .int (iI 0), .ref q13, .int (iI 0), .int (iI 0), .int (iI 0), .ref q15, .int (iI 0), .ref q25, .int (iI 0), .ref q35])), (q11, .inl (K 4, 6, .inr (.inr (.inr (.inr (fun _ => none)))))), (q13, .inl (K 4, 8, .inr (.inr (.inr (.inr (fun _ => none))))))] ++ fd dom48 σ49) _ _ [.ref q45, .int (iI 0), .ref q11]
  refine v_aastT B Z51 (E := [(h, .inr (7, [.ref q1, .int (iI 0), .int (iI 0), .ref q11, .int (iI 0), .int (iI 0), .int (iI 0), .ref q13, .int (iI 0), .int (iI 0), .int (iI 0), .ref q15, .int (iI 0), .ref q25, .int (iI 0), .ref q35])), (q11, .inl (K 4, 6, .inr (.inr (.inr (.inr (fun _ => none)))))), (q13, .inl (K 4, 8, .inr (.inr (.inr (.inr (fun _ => none))))))]) (k0 := 1) (t0 := 4) (ci := 9) (rr := (RX9, TX9, 2)) (i := 0) (E' := [(h, .inr (7, [.ref q1, .int (iI 0), .int (iI 0), .ref q11, .int (iI 0), .int (iI 0), .int (iI 0), .ref q13, .int (iI 0), .int (iI 0), .int (iI 0), .ref q15, .int (iI 0), .ref q25, .int (iI 0), .ref q35])), (q11, .inl (K 4, 6, .inr (.inr (.inr (.inr (va_up (fun _ => none) 0 (some q45))))))), (q13, .inl (K 4, 8, .inr (.inr (.inr (.inr (fun _ => none))))))]) rfl rfl t53 (cls_Row G52 t53) rfl (vpi (by decide +kernel)) (by decide +kernel) rfl dX7_init_99 ?_
  have H56 := rows_step (i := 0) (r := q45) H12 (Sub.tr (Sub.tr (Sub.tr m24 m34) m44) m54) t53
  generalize va_up (fun _ => none) 0 (some q45) = f55 at H56 ⊢
  show V _ _ _ _ _ _ _ _ _ _ _ _ _ _ (12, 301) ([(h, .inr (7, [.ref q1, .int (iI 0), .int (iI 0), .ref q11, .int (iI 0), .int (iI 0), .int (iI 0), .ref q13, .int (iI 0), .int (iI 0), .int (iI 0), .ref q15, .int (iI 0), .ref q25, .int (iI 0), .ref q35])), (q11, .inl (K 4, 6, .inr (.inr (.inr (.inr f55))))), (q13, .inl (K 4, 8, .inr (.inr (.inr (.inr (fun _ => none))))))] ++ fd dom48 σ49) _ _ []
  refine v_iinc B (k := 0) (v := iI 1) (lv' := [(1, .int (iI 1)), (0, .ref h)]) dX7_init_100 rfl (by decide +kernel) (by decide +kernel) rfl ?_
  refine v_goto B (tgt := 76) dX7_init_103 (by decide +kernel) ?_
  refine v_iload_n B dX7_init_76 rfl rfl ?_
  refine v_aload_n B dX7_init_77 rfl rfl ?_
  refine v_get B (k0 := 0) (C := RX7) (T := TX7) (N := 16) (ci := 7) hi_k_Mail_X7 rfl rfl 3 (by decide +kernel) (List.mem_of_getElem? (i := 18) rfl) rfl dX7_init_78 ?_
  refine v_alen B (k0 := 1) (t0 := 4) (v := iI 6) rfl rfl (show Int32.ofNat 6 = iI 6 by decide +kernel) dX7_init_81 ?_
  refine v_icmp_ge B (tgt := 106) dX7_init_82 (by decide +kernel) (fun q => absurd q (by decide +kernel)) (fun _ => ?_)
  refine v_aload_n B dX7_init_85 rfl rfl ?_
  refine v_get B (k0 := 0) (C := RX7) (T := TX7) (N := 16) (ci := 7) hi_k_Mail_X7 rfl rfl 3 (by decide +kernel) (List.mem_of_getElem? (i := 18) rfl) rfl dX7_init_86 ?_
  refine v_iload_n B dX7_init_89 rfl rfl ?_
  refine v_new B (C := RX9) (T := TX9) (N := 2) (ci := 9) (fs := [.null, .int (iI 0)]) hi_k_Mail_X9 tyX9 tyX9_ok (List.mem_of_getElem? (i := 4) rfl) (List.mem_of_getElem? (i := 5) rfl) (List.mem_of_getElem? (i := 6) rfl) rfl (by decide +kernel) (by decide +kernel) (by decide +kernel) dX7_init_90 (fun q57 => ?_)
  show V _ _ _ _ _ _ _ _ _ _ _ _ _ _ (13, 303) (([(h, .inr (7, [.ref q1, .int (iI 0), .int (iI 0), .ref q11, .int (iI 0), .int (iI 0), .int (iI 0), .ref q13, .int (iI 0), .int (iI 0), .int (iI 0), .ref q15, .int (iI 0), .ref q25, .int (iI 0), .ref q35])), (q11, .inl (K 4, 6, .inr (.inr (.inr (.inr f55))))), (q13, .inl (K 4, 8, .inr (.inr (.inr (.inr (fun _ => none))))))] ++ fd dom48 σ49) ++ [(q57, .inr (9, [.null, .int (iI 0)]))]) _ _ [.ref q57, .int (iI 1), .ref q11]
  refine v_perm (pm1 [(h, .inr (7, [.ref q1, .int (iI 0), .int (iI 0), .ref q11, .int (iI 0), .int (iI 0), .int (iI 0), .ref q13, .int (iI 0), .int (iI 0), .int (iI 0), .ref q15, .int (iI 0), .ref q25, .int (iI 0), .ref q35])), (q11, .inl (K 4, 6, .inr (.inr (.inr (.inr f55))))), (q13, .inl (K 4, 8, .inr (.inr (.inr (.inr (fun _ => none))))))] (fd dom48 σ49) (q57, .inr (9, [.null, .int (iI 0)]))) ?_
  refine v_dup B dX7_init_93 rfl ?_
  refine v_bipush B (v := iI 27) dX7_init_94 (by decide +kernel) ?_
  refine v_callIv B (b := q57) (n := 1) (As := [.int (iI 27)]) (rest := [.ref q57, .int (iI 1), .ref q11]) (wc := (q57, .inr (9, [.null, .int (iI 0)])) :: fd dom48 σ49) (wr := [(h, .inr (7, [.ref q1, .int (iI 0), .int (iI 0), .ref q11, .int (iI 0), .int (iI 0), .int (iI 0), .ref q13, .int (iI 0), .int (iI 0), .int (iI 0), .ref q15, .int (iI 0), .ref q25, .int (iI 0), .ref q35])), (q11, .inl (K 4, 6, .inr (.inr (.inr (.inr f55))))), (q13, .inl (K 4, 8, .inr (.inr (.inr (.inr (fun _ => none))))))]) (k_Row l D K Z51 G52 q57 9 27 (iI 27) (by decide +kernel)) gd_k_Mail_k_Row_11 rfl rfl rfl (by decide +kernel) ⟨by decide +kernel, by decide +kernel⟩ (List.mem_of_getElem? (i := 6) rfl) (List.mem_of_getElem? (i := 7) rfl) (List.mem_of_getElem? (i := 8) rfl) rfl (sp_app _ _) rfl rfl (Nat.le_of_ble_eq_true rfl) dX7_init_96 ⟨by decide +kernel, by decide +kernel⟩ (fun u58 hp59 => ?_)
  obtain ⟨dom60, σ61, τ62⟩ := u58
  obtain ⟨Z63, G64, t65, m66⟩ := hp59
  show V _ _ _ _ _ _ _ _ _ _ _ _ _ _ (14, 330) ([(h, .inr (7, [.ref q1, .int (iI 0), .int (iI 0), .ref q11, .int (iI 0), .int (iI 0), .int (iI 0), .ref q13, .int (iI 0), .int (iI 0), .int (iI 0), .ref q15, .int (iI 0), .ref q25, .int (iI 0), .ref q35])), (q11, .inl (K 4, 6, .inr (.inr (.inr (.inr f55))))), (q13, .inl (K 4, 8, .inr (.inr (.inr (.inr (fun _ => none))))))] ++ fd dom60 σ61) _ _ [.ref q57, .int (iI 1), .ref q11]
  refine v_aastT B Z63 (E := [(h, .inr (7, [.ref q1, .int (iI 0), .int (iI 0), .ref q11, .int (iI 0), .int (iI 0), .int (iI 0), .ref q13, .int (iI 0), .int (iI 0), .int (iI 0), .ref q15, .int (iI 0), .ref q25, .int (iI 0), .ref q35])), (q11, .inl (K 4, 6, .inr (.inr (.inr (.inr f55))))), (q13, .inl (K 4, 8, .inr (.inr (.inr (.inr (fun _ => none))))))]) (k0 := 1) (t0 := 4) (ci := 9) (rr := (RX9, TX9, 2)) (i := 1) (E' := [(h, .inr (7, [.ref q1, .int (iI 0), .int (iI 0), .ref q11, .int (iI 0), .int (iI 0), .int (iI 0), .ref q13, .int (iI 0), .int (iI 0), .int (iI 0), .ref q15, .int (iI 0), .ref q25, .int (iI 0), .ref q35])), (q11, .inl (K 4, 6, .inr (.inr (.inr (.inr (va_up f55 1 (some q57))))))), (q13, .inl (K 4, 8, .inr (.inr (.inr (.inr (fun _ => none))))))]) rfl rfl t65 (cls_Row G64 t65) rfl (vpi (by decide +kernel)) (by decide +kernel) rfl dX7_init_99 ?_
  have H68 := rows_step (i := 1) (r := q57) H56 m66 t65
  generalize va_up f55 1 (some q57) = f67 at H68 ⊢
  show V _ _ _ _ _ _ _ _ _ _ _ _ _ _ (14, 330) ([(h, .inr (7, [.ref q1, .int (iI 0), .int (iI 0), .ref q11, .int (iI 0), .int (iI 0), .int (iI 0), .ref q13, .int (iI 0), .int (iI 0), .int (iI 0), .ref q15, .int (iI 0), .ref q25, .int (iI 0), .ref q35])), (q11, .inl (K 4, 6, .inr (.inr (.inr (.inr f67))))), (q13, .inl (K 4, 8, .inr (.inr (.inr (.inr (fun _ => none))))))] ++ fd dom60 σ61) _ _ []
  refine v_iinc B (k := 0) (v := iI 2) (lv' := [(1, .int (iI 2)), (0, .ref h)]) dX7_init_100 rfl (by decide +kernel) (by decide +kernel) rfl ?_
  refine v_goto B (tgt := 76) dX7_init_103 (by decide +kernel) ?_
  refine v_iload_n B dX7_init_76 rfl rfl ?_
  refine v_aload_n B dX7_init_77 rfl rfl ?_
  refine v_get B (k0 := 0) (C := RX7) (T := TX7) (N := 16) (ci := 7) hi_k_Mail_X7 rfl rfl 3 (by decide +kernel) (List.mem_of_getElem? (i := 18) rfl) rfl dX7_init_78 ?_
  refine v_alen B (k0 := 1) (t0 := 4) (v := iI 6) rfl rfl (show Int32.ofNat 6 = iI 6 by decide +kernel) dX7_init_81 ?_
  refine v_icmp_ge B (tgt := 106) dX7_init_82 (by decide +kernel) (fun q => absurd q (by decide +kernel)) (fun _ => ?_)
  refine v_aload_n B dX7_init_85 rfl rfl ?_
  refine v_get B (k0 := 0) (C := RX7) (T := TX7) (N := 16) (ci := 7) hi_k_Mail_X7 rfl rfl 3 (by decide +kernel) (List.mem_of_getElem? (i := 18) rfl) rfl dX7_init_86 ?_
  refine v_iload_n B dX7_init_89 rfl rfl ?_
  refine v_new B (C := RX9) (T := TX9) (N := 2) (ci := 9) (fs := [.null, .int (iI 0)]) hi_k_Mail_X9 tyX9 tyX9_ok (List.mem_of_getElem? (i := 4) rfl) (List.mem_of_getElem? (i := 5) rfl) (List.mem_of_getElem? (i := 6) rfl) rfl (by decide +kernel) (by decide +kernel) (by decide +kernel) dX7_init_90 (fun q69 => ?_)
  show V _ _ _ _ _ _ _ _ _ _ _ _ _ _ (15, 332) (([(h, .inr (7, [.ref q1, .int (iI 0), .int (iI 0), .ref q11, .int (iI 0), .int (iI 0), .int (iI 0), .ref q13, .int (iI 0), .int (iI 0), .int (iI 0), .ref q15, .int (iI 0), .ref q25, .int (iI 0), .ref q35])), (q11, .inl (K 4, 6, .inr (.inr (.inr (.inr f67))))), (q13, .inl (K 4, 8, .inr (.inr (.inr (.inr (fun _ => none))))))] ++ fd dom60 σ61) ++ [(q69, .inr (9, [.null, .int (iI 0)]))]) _ _ [.ref q69, .int (iI 2), .ref q11]
  refine v_perm (pm1 [(h, .inr (7, [.ref q1, .int (iI 0), .int (iI 0), .ref q11, .int (iI 0), .int (iI 0), .int (iI 0), .ref q13, .int (iI 0), .int (iI 0), .int (iI 0), .ref q15, .int (iI 0), .ref q25, .int (iI 0), .ref q35])), (q11, .inl (K 4, 6, .inr (.inr (.inr (.inr f67))))), (q13, .inl (K 4, 8, .inr (.inr (.inr (.inr (fun _ => none))))))] (fd dom60 σ61) (q69, .inr (9, [.null, .int (iI 0)]))) ?_
  refine v_dup B dX7_init_93 rfl ?_
  refine v_bipush B (v := iI 27) dX7_init_94 (by decide +kernel) ?_
  refine v_callIv B (b := q69) (n := 1) (As := [.int (iI 27)]) (rest := [.ref q69, .int (iI 2), .ref q11]) (wc := (q69, .inr (9, [.null, .int (iI 0)])) :: fd dom60 σ61) (wr := [(h, .inr (7, [.ref q1, .int (iI 0), .int (iI 0), .ref q11, .int (iI 0), .int (iI 0), .int (iI 0), .ref q13, .int (iI 0), .int (iI 0), .int (iI 0), .ref q15, .int (iI 0), .ref q25, .int (iI 0), .ref q35])), (q11, .inl (K 4, 6, .inr (.inr (.inr (.inr f67))))), (q13, .inl (K 4, 8, .inr (.inr (.inr (.inr (fun _ => none))))))]) (k_Row l D K Z63 G64 q69 9 27 (iI 27) (by decide +kernel)) gd_k_Mail_k_Row_11 rfl rfl rfl (by decide +kernel) ⟨by decide +kernel, by decide +kernel⟩ (List.mem_of_getElem? (i := 6) rfl) (List.mem_of_getElem? (i := 7) rfl) (List.mem_of_getElem? (i := 8) rfl) rfl (sp_app _ _) rfl rfl (Nat.le_of_ble_eq_true rfl) dX7_init_96 ⟨by decide +kernel, by decide +kernel⟩ (fun u70 hp71 => ?_)
  obtain ⟨dom72, σ73, τ74⟩ := u70
  obtain ⟨Z75, G76, t77, m78⟩ := hp71
  show V _ _ _ _ _ _ _ _ _ _ _ _ _ _ (16, 359) ([(h, .inr (7, [.ref q1, .int (iI 0), .int (iI 0), .ref q11, .int (iI 0), .int (iI 0), .int (iI 0), .ref q13, .int (iI 0), .int (iI 0), .int (iI 0), .ref q15, .int (iI 0), .ref q25, .int (iI 0), .ref q35])), (q11, .inl (K 4, 6, .inr (.inr (.inr (.inr f67))))), (q13, .inl (K 4, 8, .inr (.inr (.inr (.inr (fun _ => none))))))] ++ fd dom72 σ73) _ _ [.ref q69, .int (iI 2), .ref q11]
  refine v_aastT B Z75 (E := [(h, .inr (7, [.ref q1, .int (iI 0), .int (iI 0), .ref q11, .int (iI 0), .int (iI 0), .int (iI 0), .ref q13, .int (iI 0), .int (iI 0), .int (iI 0), .ref q15, .int (iI 0), .ref q25, .int (iI 0), .ref q35])), (q11, .inl (K 4, 6, .inr (.inr (.inr (.inr f67))))), (q13, .inl (K 4, 8, .inr (.inr (.inr (.inr (fun _ => none))))))]) (k0 := 1) (t0 := 4) (ci := 9) (rr := (RX9, TX9, 2)) (i := 2) (E' := [(h, .inr (7, [.ref q1, .int (iI 0), .int (iI 0), .ref q11, .int (iI 0), .int (iI 0), .int (iI 0), .ref q13, .int (iI 0), .int (iI 0), .int (iI 0), .ref q15, .int (iI 0), .ref q25, .int (iI 0), .ref q35])), (q11, .inl (K 4, 6, .inr (.inr (.inr (.inr (va_up f67 2 (some q69))))))), (q13, .inl (K 4, 8, .inr (.inr (.inr (.inr (fun _ => none))))))]) rfl rfl t77 (cls_Row G76 t77) rfl (vpi (by decide +kernel)) (by decide +kernel) rfl dX7_init_99 ?_
  have H80 := rows_step (i := 2) (r := q69) H68 m78 t77
  generalize va_up f67 2 (some q69) = f79 at H80 ⊢
  show V _ _ _ _ _ _ _ _ _ _ _ _ _ _ (16, 359) ([(h, .inr (7, [.ref q1, .int (iI 0), .int (iI 0), .ref q11, .int (iI 0), .int (iI 0), .int (iI 0), .ref q13, .int (iI 0), .int (iI 0), .int (iI 0), .ref q15, .int (iI 0), .ref q25, .int (iI 0), .ref q35])), (q11, .inl (K 4, 6, .inr (.inr (.inr (.inr f79))))), (q13, .inl (K 4, 8, .inr (.inr (.inr (.inr (fun _ => none))))))] ++ fd dom72 σ73) _ _ []
  refine v_iinc B (k := 0) (v := iI 3) (lv' := [(1, .int (iI 3)), (0, .ref h)]) dX7_init_100 rfl (by decide +kernel) (by decide +kernel) rfl ?_
  refine v_goto B (tgt := 76) dX7_init_103 (by decide +kernel) ?_
  refine v_iload_n B dX7_init_76 rfl rfl ?_
  refine v_aload_n B dX7_init_77 rfl rfl ?_
  refine v_get B (k0 := 0) (C := RX7) (T := TX7) (N := 16) (ci := 7) hi_k_Mail_X7 rfl rfl 3 (by decide +kernel) (List.mem_of_getElem? (i := 18) rfl) rfl dX7_init_78 ?_
  refine v_alen B (k0 := 1) (t0 := 4) (v := iI 6) rfl rfl (show Int32.ofNat 6 = iI 6 by decide +kernel) dX7_init_81 ?_
  refine v_icmp_ge B (tgt := 106) dX7_init_82 (by decide +kernel) (fun q => absurd q (by decide +kernel)) (fun _ => ?_)
  refine v_aload_n B dX7_init_85 rfl rfl ?_
  refine v_get B (k0 := 0) (C := RX7) (T := TX7) (N := 16) (ci := 7) hi_k_Mail_X7 rfl rfl 3 (by decide +kernel) (List.mem_of_getElem? (i := 18) rfl) rfl dX7_init_86 ?_
  refine v_iload_n B dX7_init_89 rfl rfl ?_
  refine v_new B (C := RX9) (T := TX9) (N := 2) (ci := 9) (fs := [.null, .int (iI 0)]) hi_k_Mail_X9 tyX9 tyX9_ok (List.mem_of_getElem? (i := 4) rfl) (List.mem_of_getElem? (i := 5) rfl) (List.mem_of_getElem? (i := 6) rfl) rfl (by decide +kernel) (by decide +kernel) (by decide +kernel) dX7_init_90 (fun q81 => ?_)
  show V _ _ _ _ _ _ _ _ _ _ _ _ _ _ (17, 361) (([(h, .inr (7, [.ref q1, .int (iI 0), .int (iI 0), .ref q11, .int (iI 0), .int (iI 0), .int (iI 0), .ref q13, .int (iI 0), .int (iI 0), .int (iI 0), .ref q15, .int (iI 0), .ref q25, .int (iI 0), .ref q35])), (q11, .inl (K 4, 6, .inr (.inr (.inr (.inr f79))))), (q13, .inl (K 4, 8, .inr (.inr (.inr (.inr (fun _ => none))))))] ++ fd dom72 σ73) ++ [(q81, .inr (9, [.null, .int (iI 0)]))]) _ _ [.ref q81, .int (iI 3), .ref q11]
  refine v_perm (pm1 [(h, .inr (7, [.ref q1, .int (iI 0), .int (iI 0), .ref q11, .int (iI 0), .int (iI 0), .int (iI 0), .ref q13, .int (iI 0), .int (iI 0), .int (iI 0), .ref q15, .int (iI 0), .ref q25, .int (iI 0), .ref q35])), (q11, .inl (K 4, 6, .inr (.inr (.inr (.inr f79))))), (q13, .inl (K 4, 8, .inr (.inr (.inr (.inr (fun _ => none))))))] (fd dom72 σ73) (q81, .inr (9, [.null, .int (iI 0)]))) ?_
  refine v_dup B dX7_init_93 rfl ?_
  refine v_bipush B (v := iI 27) dX7_init_94 (by decide +kernel) ?_
  refine v_callIv B (b := q81) (n := 1) (As := [.int (iI 27)]) (rest := [.ref q81, .int (iI 3), .ref q11]) (wc := (q81, .inr (9, [.null, .int (iI 0)])) :: fd dom72 σ73) (wr := [(h, .inr (7, [.ref q1, .int (iI 0), .int (iI 0), .ref q11, .int (iI 0), .int (iI 0), .int (iI 0), .ref q13, .int (iI 0), .int (iI 0), .int (iI 0), .ref q15, .int (iI 0), .ref q25, .int (iI 0), .ref q35])), (q11, .inl (K 4, 6, .inr (.inr (.inr (.inr f79))))), (q13, .inl (K 4, 8, .inr (.inr (.inr (.inr (fun _ => none))))))]) (k_Row l D K Z75 G76 q81 9 27 (iI 27) (by decide +kernel)) gd_k_Mail_k_Row_11 rfl rfl rfl (by decide +kernel) ⟨by decide +kernel, by decide +kernel⟩ (List.mem_of_getElem? (i := 6) rfl) (List.mem_of_getElem? (i := 7) rfl) (List.mem_of_getElem? (i := 8) rfl) rfl (sp_app _ _) rfl rfl (Nat.le_of_ble_eq_true rfl) dX7_init_96 ⟨by decide +kernel, by decide +kernel⟩ (fun u82 hp83 => ?_)
  obtain ⟨dom84, σ85, τ86⟩ := u82
  obtain ⟨Z87, G88, t89, m90⟩ := hp83
  show V _ _ _ _ _ _ _ _ _ _ _ _ _ _ (18, 388) ([(h, .inr (7, [.ref q1, .int (iI 0), .int (iI 0), .ref q11, .int (iI 0), .int (iI 0), .int (iI 0), .ref q13, .int (iI 0), .int (iI 0), .int (iI 0), .ref q15, .int (iI 0), .ref q25, .int (iI 0), .ref q35])), (q11, .inl (K 4, 6, .inr (.inr (.inr (.inr f79))))), (q13, .inl (K 4, 8, .inr (.inr (.inr (.inr (fun _ => none))))))] ++ fd dom84 σ85) _ _ [.ref q81, .int (iI 3), .ref q11]
  refine v_aastT B Z87 (E := [(h, .inr (7, [.ref q1, .int (iI 0), .int (iI 0), .ref q11, .int (iI 0), .int (iI 0), .int (iI 0), .ref q13, .int (iI 0), .int (iI 0), .int (iI 0), .ref q15, .int (iI 0), .ref q25, .int (iI 0), .ref q35])), (q11, .inl (K 4, 6, .inr (.inr (.inr (.inr f79))))), (q13, .inl (K 4, 8, .inr (.inr (.inr (.inr (fun _ => none))))))]) (k0 := 1) (t0 := 4) (ci := 9) (rr := (RX9, TX9, 2)) (i := 3) (E' := [(h, .inr (7, [.ref q1, .int (iI 0), .int (iI 0), .ref q11, .int (iI 0), .int (iI 0), .int (iI 0), .ref q13, .int (iI 0), .int (iI 0), .int (iI 0), .ref q15, .int (iI 0), .ref q25, .int (iI 0), .ref q35])), (q11, .inl (K 4, 6, .inr (.inr (.inr (.inr (va_up f79 3 (some q81))))))), (q13, .inl (K 4, 8, .inr (.inr (.inr (.inr (fun _ => none))))))]) rfl rfl t89 (cls_Row G88 t89) rfl (vpi (by decide +kernel)) (by decide +kernel) rfl dX7_init_99 ?_
  have H92 := rows_step (i := 3) (r := q81) H80 m90 t89
  generalize va_up f79 3 (some q81) = f91 at H92 ⊢
  show V _ _ _ _ _ _ _ _ _ _ _ _ _ _ (18, 388) ([(h, .inr (7, [.ref q1, .int (iI 0), .int (iI 0), .ref q11, .int (iI 0), .int (iI 0), .int (iI 0), .ref q13, .int (iI 0), .int (iI 0), .int (iI 0), .ref q15, .int (iI 0), .ref q25, .int (iI 0), .ref q35])), (q11, .inl (K 4, 6, .inr (.inr (.inr (.inr f91))))), (q13, .inl (K 4, 8, .inr (.inr (.inr (.inr (fun _ => none))))))] ++ fd dom84 σ85) _ _ []
  refine v_iinc B (k := 0) (v := iI 4) (lv' := [(1, .int (iI 4)), (0, .ref h)]) dX7_init_100 rfl (by decide +kernel) (by decide +kernel) rfl ?_
  refine v_goto B (tgt := 76) dX7_init_103 (by decide +kernel) ?_
  refine v_iload_n B dX7_init_76 rfl rfl ?_
  refine v_aload_n B dX7_init_77 rfl rfl ?_
  refine v_get B (k0 := 0) (C := RX7) (T := TX7) (N := 16) (ci := 7) hi_k_Mail_X7 rfl rfl 3 (by decide +kernel) (List.mem_of_getElem? (i := 18) rfl) rfl dX7_init_78 ?_
  refine v_alen B (k0 := 1) (t0 := 4) (v := iI 6) rfl rfl (show Int32.ofNat 6 = iI 6 by decide +kernel) dX7_init_81 ?_
  refine v_icmp_ge B (tgt := 106) dX7_init_82 (by decide +kernel) (fun q => absurd q (by decide +kernel)) (fun _ => ?_)
  refine v_aload_n B dX7_init_85 rfl rfl ?_
  refine v_get B (k0 := 0) (C := RX7) (T := TX7) (N := 16) (ci := 7) hi_k_Mail_X7 rfl rfl 3 (by decide +kernel) (List.mem_of_getElem? (i := 18) rfl) rfl dX7_init_86 ?_
  refine v_iload_n B dX7_init_89 rfl rfl ?_
  refine v_new B (C := RX9) (T := TX9) (N := 2) (ci := 9) (fs := [.null, .int (iI 0)]) hi_k_Mail_X9 tyX9 tyX9_ok (List.mem_of_getElem? (i := 4) rfl) (List.mem_of_getElem? (i := 5) rfl) (List.mem_of_getElem? (i := 6) rfl) rfl (by decide +kernel) (by decide +kernel) (by decide +kernel) dX7_init_90 (fun q93 => ?_)
  show V _ _ _ _ _ _ _ _ _ _ _ _ _ _ (19, 390) (([(h, .inr (7, [.ref q1, .int (iI 0), .int (iI 0), .ref q11, .int (iI 0), .int (iI 0), .int (iI 0), .ref q13, .int (iI 0), .int (iI 0), .int (iI 0), .ref q15, .int (iI 0), .ref q25, .int (iI 0), .ref q35])), (q11, .inl (K 4, 6, .inr (.inr (.inr (.inr f91))))), (q13, .inl (K 4, 8, .inr (.inr (.inr (.inr (fun _ => none))))))] ++ fd dom84 σ85) ++ [(q93, .inr (9, [.null, .int (iI 0)]))]) _ _ [.ref q93, .int (iI 4), .ref q11]
  refine v_perm (pm1 [(h, .inr (7, [.ref q1, .int (iI 0), .int (iI 0), .ref q11, .int (iI 0), .int (iI 0), .int (iI 0), .ref q13, .int (iI 0), .int (iI 0), .int (iI 0), .ref q15, .int (iI 0), .ref q25, .int (iI 0), .ref q35])), (q11, .inl (K 4, 6, .inr (.inr (.inr (.inr f91))))), (q13, .inl (K 4, 8, .inr (.inr (.inr (.inr (fun _ => none))))))] (fd dom84 σ85) (q93, .inr (9, [.null, .int (iI 0)]))) ?_
  refine v_dup B dX7_init_93 rfl ?_
  refine v_bipush B (v := iI 27) dX7_init_94 (by decide +kernel) ?_
  refine v_callIv B (b := q93) (n := 1) (As := [.int (iI 27)]) (rest := [.ref q93, .int (iI 4), .ref q11]) (wc := (q93, .inr (9, [.null, .int (iI 0)])) :: fd dom84 σ85) (wr := [(h, .inr (7, [.ref q1, .int (iI 0), .int (iI 0), .ref q11, .int (iI 0), .int (iI 0), .int (iI 0), .ref q13, .int (iI 0), .int (iI 0), .int (iI 0), .ref q15, .int (iI 0), .ref q25, .int (iI 0), .ref q35])), (q11, .inl (K 4, 6, .inr (.inr (.inr (.inr f91))))), (q13, .inl (K 4, 8, .inr (.inr (.inr (.inr (fun _ => none))))))]) (k_Row l D K Z87 G88 q93 9 27 (iI 27) (by decide +kernel)) gd_k_Mail_k_Row_11 rfl rfl rfl (by decide +kernel) ⟨by decide +kernel, by decide +kernel⟩ (List.mem_of_getElem? (i := 6) rfl) (List.mem_of_getElem? (i := 7) rfl) (List.mem_of_getElem? (i := 8) rfl) rfl (sp_app _ _) rfl rfl (Nat.le_of_ble_eq_true rfl) dX7_init_96 ⟨by decide +kernel, by decide +kernel⟩ (fun u94 hp95 => ?_)
  obtain ⟨dom96, σ97, τ98⟩ := u94
  obtain ⟨Z99, G100, t101, m102⟩ := hp95
  show V _ _ _ _ _ _ _ _ _ _ _ _ _ _ (20, 417) ([(h, .inr (7, [.ref q1, .int (iI 0), .int (iI 0), .ref q11, .int (iI 0), .int (iI 0), .int (iI 0), .ref q13, .int (iI 0), .int (iI 0), .int (iI 0), .ref q15, .int (iI 0), .ref q25, .int (iI 0), .ref q35])), (q11, .inl (K 4, 6, .inr (.inr (.inr (.inr f91))))), (q13, .inl (K 4, 8, .inr (.inr (.inr (.inr (fun _ => none))))))] ++ fd dom96 σ97) _ _ [.ref q93, .int (iI 4), .ref q11]
  refine v_aastT B Z99 (E := [(h, .inr (7, [.ref q1, .int (iI 0), .int (iI 0), .ref q11, .int (iI 0), .int (iI 0), .int (iI 0), .ref q13, .int (iI 0), .int (iI 0), .int (iI 0), .ref q15, .int (iI 0), .ref q25, .int (iI 0), .ref q35])), (q11, .inl (K 4, 6, .inr (.inr (.inr (.inr f91))))), (q13, .inl (K 4, 8, .inr (.inr (.inr (.inr (fun _ => none))))))]) (k0 := 1) (t0 := 4) (ci := 9) (rr := (RX9, TX9, 2)) (i := 4) (E' := [(h, .inr (7, [.ref q1, .int (iI 0), .int (iI 0), .ref q11, .int (iI 0), .int (iI 0), .int (iI 0), .ref q13, .int (iI 0), .int (iI 0), .int (iI 0), .ref q15, .int (iI 0), .ref q25, .int (iI 0), .ref q35])), (q11, .inl (K 4, 6, .inr (.inr (.inr (.inr (va_up f91 4 (some q93))))))), (q13, .inl (K 4, 8, .inr (.inr (.inr (.inr (fun _ => none))))))]) rfl rfl t101 (cls_Row G100 t101) rfl (vpi (by decide +kernel)) (by decide +kernel) rfl dX7_init_99 ?_
  have H104 := rows_step (i := 4) (r := q93) H92 m102 t101
  generalize va_up f91 4 (some q93) = f103 at H104 ⊢
  show V _ _ _ _ _ _ _ _ _ _ _ _ _ _ (20, 417) ([(h, .inr (7, [.ref q1, .int (iI 0), .int (iI 0), .ref q11, .int (iI 0), .int (iI 0), .int (iI 0), .ref q13, .int (iI 0), .int (iI 0), .int (iI 0), .ref q15, .int (iI 0), .ref q25, .int (iI 0), .ref q35])), (q11, .inl (K 4, 6, .inr (.inr (.inr (.inr f103))))), (q13, .inl (K 4, 8, .inr (.inr (.inr (.inr (fun _ => none))))))] ++ fd dom96 σ97) _ _ []
  refine v_iinc B (k := 0) (v := iI 5) (lv' := [(1, .int (iI 5)), (0, .ref h)]) dX7_init_100 rfl (by decide +kernel) (by decide +kernel) rfl ?_
  refine v_goto B (tgt := 76) dX7_init_103 (by decide +kernel) ?_
  refine v_iload_n B dX7_init_76 rfl rfl ?_
  refine v_aload_n B dX7_init_77 rfl rfl ?_
  refine v_get B (k0 := 0) (C := RX7) (T := TX7) (N := 16) (ci := 7) hi_k_Mail_X7 rfl rfl 3 (by decide +kernel) (List.mem_of_getElem? (i := 18) rfl) rfl dX7_init_78 ?_
  refine v_alen B (k0 := 1) (t0 := 4) (v := iI 6) rfl rfl (show Int32.ofNat 6 = iI 6 by decide +kernel) dX7_init_81 ?_
  refine v_icmp_ge B (tgt := 106) dX7_init_82 (by decide +kernel) (fun q => absurd q (by decide +kernel)) (fun _ => ?_)
  refine v_aload_n B dX7_init_85 rfl rfl ?_
  refine v_get B (k0 := 0) (C := RX7) (T := TX7) (N := 16) (ci := 7) hi_k_Mail_X7 rfl rfl 3 (by decide +kernel) (List.mem_of_getElem? (i := 18) rfl) rfl dX7_init_86 ?_
  refine v_iload_n B dX7_init_89 rfl rfl ?_
  refine v_new B (C := RX9) (T := TX9) (N := 2) (ci := 9) (fs := [.null, .int (iI 0)]) hi_k_Mail_X9 tyX9 tyX9_ok (List.mem_of_getElem? (i := 4) rfl) (List.mem_of_getElem? (i := 5) rfl) (List.mem_of_getElem? (i := 6) rfl) rfl (by decide +kernel) (by decide +kernel) (by decide +kernel) dX7_init_90 (fun q105 => ?_)
  show V _ _ _ _ _ _ _ _ _ _ _ _ _ _ (21, 419) (([(h, .inr (7, [.ref q1, .int (iI 0), .int (iI 0), .ref q11, .int (iI 0), .int (iI 0), .int (iI 0), .ref q13, .int (iI 0), .int (iI 0), .int (iI 0), .ref q15, .int (iI 0), .ref q25, .int (iI 0), .ref q35])), (q11, .inl (K 4, 6, .inr (.inr (.inr (.inr f103))))), (q13, .inl (K 4, 8, .inr (.inr (.inr (.inr (fun _ => none))))))] ++ fd dom96 σ97) ++ [(q105, .inr (9, [.null, .int (iI 0)]))]) _ _ [.ref q105, .int (iI 5), .ref q11]
  refine v_perm (pm1 [(h, .inr (7, [.ref q1, .int (iI 0), .int (iI 0), .ref q11, .int (iI 0), .int (iI 0), .int (iI 0), .ref q13, .int (iI 0), .int (iI 0), .int (iI 0), .ref q15, .int (iI 0), .ref q25, .int (iI 0), .ref q35])), (q11, .inl (K 4, 6, .inr (.inr (.inr (.inr f103))))), (q13, .inl (K 4, 8, .inr (.inr (.inr (.inr (fun _ => none))))))] (fd dom96 σ97) (q105, .inr (9, [.null, .int (iI 0)]))) ?_
  refine v_dup B dX7_init_93 rfl ?_
  refine v_bipush B (v := iI 27) dX7_init_94 (by decide +kernel) ?_
  refine v_callIv B (b := q105) (n := 1) (As := [.int (iI 27)]) (rest := [.ref q105, .int (iI 5), .ref q11]) (wc := (q105, .inr (9, [.null, .int (iI 0)])) :: fd dom96 σ97) (wr := [(h, .inr (7, [.ref q1, .int (iI 0), .int (iI 0), .ref q11, .int (iI 0), .int (iI 0), .int (iI 0), .ref q13, .int (iI 0), .int (iI 0), .int (iI 0), .ref q15, .int (iI 0), .ref q25, .int (iI 0), .ref q35])), (q11, .inl (K 4, 6, .inr (.inr (.inr (.inr f103))))), (q13, .inl (K 4, 8, .inr (.inr (.inr (.inr (fun _ => none))))))]) (k_Row l D K Z99 G100 q105 9 27 (iI 27) (by decide +kernel)) gd_k_Mail_k_Row_11 rfl rfl rfl (by decide +kernel) ⟨by decide +kernel, by decide +kernel⟩ (List.mem_of_getElem? (i := 6) rfl) (List.mem_of_getElem? (i := 7) rfl) (List.mem_of_getElem? (i := 8) rfl) rfl (sp_app _ _) rfl rfl (Nat.le_of_ble_eq_true rfl) dX7_init_96 ⟨by decide +kernel, by decide +kernel⟩ (fun u106 hp107 => ?_)
  obtain ⟨dom108, σ109, τ110⟩ := u106
  obtain ⟨Z111, G112, t113, m114⟩ := hp107
  show V _ _ _ _ _ _ _ _ _ _ _ _ _ _ (22, 446) ([(h, .inr (7, [.ref q1, .int (iI 0), .int (iI 0), .ref q11, .int (iI 0), .int (iI 0), .int (iI 0), .ref q13, .int (iI 0), .int (iI 0), .int (iI 0), .ref q15, .int (iI 0), .ref q25, .int (iI 0), .ref q35])), (q11, .inl (K 4, 6, .inr (.inr (.inr (.inr f103))))), (q13, .inl (K 4, 8, .inr (.inr (.inr (.inr (fun _ => none))))))] ++ fd dom108 σ109) _ _ [.ref q105, .int (iI 5), .ref q11]
  refine v_aastT B Z111 (E := [(h, .inr (7, [.ref q1, .int (iI 0), .int (iI 0), .ref q11, .int (iI 0), .int (iI 0), .int (iI 0), .ref q13, .int (iI 0), .int (iI 0), .int (iI 0), .ref q15, .int (iI 0), .ref q25, .int (iI 0), .ref q35])), (q11, .inl (K 4, 6, .inr (.inr (.inr (.inr f103))))), (q13, .inl (K 4, 8, .inr (.inr (.inr (.inr (fun _ => none))))))]) (k0 := 1) (t0 := 4) (ci := 9) (rr := (RX9, TX9, 2)) (i := 5) (E' := [(h, .inr (7, [.ref q1, .int (iI 0), .int (iI 0), .ref q11, .int (iI 0), .int (iI 0), .int (iI 0), .ref q13, .int (iI 0), .int (iI 0), .int (iI 0), .ref q15, .int (iI 0), .ref q25, .int (iI 0), .ref q35])), (q11, .inl (K 4, 6, .inr (.inr (.inr (.inr (va_up f103 5 (some q105))))))), (q13, .inl (K 4, 8, .inr (.inr (.inr (.inr (fun _ => none))))))]) rfl rfl t113 (cls_Row G112 t113) rfl (vpi (by decide +kernel)) (by decide +kernel) rfl dX7_init_99 ?_
  have H116 := rows_step (i := 5) (r := q105) H104 m114 t113
  generalize va_up f103 5 (some q105) = f115 at H116 ⊢
  show V _ _ _ _ _ _ _ _ _ _ _ _ _ _ (22, 446) ([(h, .inr (7, [.ref q1, .int (iI 0), .int (iI 0), .ref q11, .int (iI 0), .int (iI 0), .int (iI 0), .ref q13, .int (iI 0), .int (iI 0), .int (iI 0), .ref q15, .int (iI 0), .ref q25, .int (iI 0), .ref q35])), (q11, .inl (K 4, 6, .inr (.inr (.inr (.inr f115))))), (q13, .inl (K 4, 8, .inr (.inr (.inr (.inr (fun _ => none))))))] ++ fd dom108 σ109) _ _ []
  refine v_iinc B (k := 0) (v := iI 6) (lv' := [(1, .int (iI 6)), (0, .ref h)]) dX7_init_100 rfl (by decide +kernel) (by decide +kernel) rfl ?_
  refine v_goto B (tgt := 76) dX7_init_103 (by decide +kernel) ?_
  refine v_iload_n B dX7_init_76 rfl rfl ?_
  refine v_aload_n B dX7_init_77 rfl rfl ?_
  refine v_get B (k0 := 0) (C := RX7) (T := TX7) (N := 16) (ci := 7) hi_k_Mail_X7 rfl rfl 3 (by decide +kernel) (List.mem_of_getElem? (i := 18) rfl) rfl dX7_init_78 ?_
  refine v_alen B (k0 := 1) (t0 := 4) (v := iI 6) rfl rfl (show Int32.ofNat 6 = iI 6 by decide +kernel) dX7_init_81 ?_
  refine v_icmp_ge B (tgt := 106) dX7_init_82 (by decide +kernel) (fun _ => ?_) (fun q => absurd q (by decide +kernel))
  refine v_iconst B (v := iI 0) dX7_init_106 rfl ?_
  refine v_istore_n B (lv' := [(1, .int (iI 0)), (0, .ref h)]) dX7_init_107 rfl (by decide +kernel) rfl ?_
  refine v_iload_n B dX7_init_108 rfl rfl ?_
  refine v_aload_n B dX7_init_109 rfl rfl ?_
  refine v_get B (k0 := 0) (C := RX7) (T := TX7) (N := 16) (ci := 7) hi_k_Mail_X7 rfl rfl 7 (by decide +kernel) (List.mem_of_getElem? (i := 19) rfl) rfl dX7_init_110 ?_
  refine v_alen B (k0 := 2) (t0 := 4) (v := iI 8) rfl rfl (show Int32.ofNat 8 = iI 8 by decide +kernel) dX7_init_113 ?_
  refine v_icmp_ge B (tgt := 138) dX7_init_114 (by decide +kernel) (fun q => absurd q (by decide +kernel)) (fun _ => ?_)
  refine v_aload_n B dX7_init_117 rfl rfl ?_
  refine v_get B (k0 := 0) (C := RX7) (T := TX7) (N := 16) (ci := 7) hi_k_Mail_X7 rfl rfl 7 (by decide +kernel) (List.mem_of_getElem? (i := 19) rfl) rfl dX7_init_118 ?_
  refine v_iload_n B dX7_init_121 rfl rfl ?_
  refine v_new B (C := RX9) (T := TX9) (N := 2) (ci := 9) (fs := [.null, .int (iI 0)]) hi_k_Mail_X9 tyX9 tyX9_ok (List.mem_of_getElem? (i := 4) rfl) (List.mem_of_getElem? (i := 5) rfl) (List.mem_of_getElem? (i := 6) rfl) rfl (by decide +kernel) (by decide +kernel) (by decide +kernel) dX7_init_122 (fun q117 => ?_)
  show V _ _ _ _ _ _ _ _ _ _ _ _ _ _ (23, 448) (([(h, .inr (7, [.ref q1, .int (iI 0), .int (iI 0), .ref q11, .int (iI 0), .int (iI 0), .int (iI 0), .ref q13, .int (iI 0), .int (iI 0), .int (iI 0), .ref q15, .int (iI 0), .ref q25, .int (iI 0), .ref q35])), (q11, .inl (K 4, 6, .inr (.inr (.inr (.inr f115))))), (q13, .inl (K 4, 8, .inr (.inr (.inr (.inr (fun _ => none))))))] ++ fd dom108 σ109) ++ [(q117, .inr (9, [.null, .int (iI 0)]))]) _ _ [.ref q117, .int (iI 0), .ref q13]
  refine v_perm (pm1 [(h, .inr (7, [.ref q1, .int (iI 0), .int (iI 0), .ref q11, .int (iI 0), .int (iI 0), .int (iI 0), .ref q13, .int (iI 0), .int (iI 0), .int (iI 0), .ref q15, .int (iI 0), .ref q25, .int (iI 0), .ref q35])), (q11, .inl (K 4, 6, .inr (.inr (.inr (.inr f115))))), (q13, .inl (K 4, 8, .inr (.inr (.inr (.inr (fun _ => none))))))] (fd dom108 σ109) (q117, .inr (9, [.null, .int (iI 0)]))) ?_
  refine v_dup B dX7_init_125 rfl ?_
  refine v_bipush B (v := iI 96) dX7_init_126 (by decide +kernel) ?_
  refine v_callIv B (b := q117) (n := 1) (As := [.int (iI 96)]) (rest := [.ref q117, .int (iI 0), .ref q13]) (wc := (q117, .inr (9, [.null, .int (iI 0)])) :: fd dom108 σ109) (wr := [(h, .inr (7, [.ref q1, .int (iI 0), .int (iI 0), .ref q11, .int (iI 0), .int (iI 0), .int (iI 0), .ref q13, .int (iI 0), .int (iI 0), .int (iI 0), .ref q15, .int (iI 0), .ref q25, .int (iI 0), .ref q35])), (q11, .inl (K 4, 6, .inr (.inr (.inr (.inr f115))))), (q13, .inl (K 4, 8, .inr (.inr (.inr (.inr (fun _ => none))))))]) (k_Row l D K Z111 G112 q117 10 96 (iI 96) (by decide +kernel)) gd_k_Mail_k_Row_11 rfl rfl rfl (by decide +kernel) ⟨by decide +kernel, by decide +kernel⟩ (List.mem_of_getElem? (i := 6) rfl) (List.mem_of_getElem? (i := 7) rfl) (List.mem_of_getElem? (i := 8) rfl) rfl (sp_app _ _) rfl rfl (Nat.le_of_ble_eq_true rfl) dX7_init_128 ⟨by decide +kernel, by decide +kernel⟩ (fun u118 hp119 => ?_)
  obtain ⟨dom120, σ121, τ122⟩ := u118
  obtain ⟨Z123, G124, t125, m126⟩ := hp119
  show V _ _ _ _ _ _ _ _ _ _ _ _ _ _ (24, 544) ([(h, .inr (7, [.ref q1, .int (iI 0), .int (iI 0), .ref q11, .int (iI 0), .int (iI 0), .int (iI 0), .ref q13, .int (iI 0), .int (iI 0), .int (iI 0), .ref q15, .int (iI 0), .ref q25, .int (iI 0), .ref q35])), (q11, .inl (K 4, 6, .inr (.inr (.inr (.inr f115))))), (q13, .inl (K 4, 8, .inr (.inr (.inr (.inr (fun _ => none))))))] ++ fd dom120 σ121) _ _ [.ref q117, .int (iI 0), .ref q13]
  refine v_aastT B Z123 (E := [(h, .inr (7, [.ref q1, .int (iI 0), .int (iI 0), .ref q11, .int (iI 0), .int (iI 0), .int (iI 0), .ref q13, .int (iI 0), .int (iI 0), .int (iI 0), .ref q15, .int (iI 0), .ref q25, .int (iI 0), .ref q35])), (q11, .inl (K 4, 6, .inr (.inr (.inr (.inr f115))))), (q13, .inl (K 4, 8, .inr (.inr (.inr (.inr (fun _ => none))))))]) (k0 := 2) (t0 := 4) (ci := 9) (rr := (RX9, TX9, 2)) (i := 0) (E' := [(h, .inr (7, [.ref q1, .int (iI 0), .int (iI 0), .ref q11, .int (iI 0), .int (iI 0), .int (iI 0), .ref q13, .int (iI 0), .int (iI 0), .int (iI 0), .ref q15, .int (iI 0), .ref q25, .int (iI 0), .ref q35])), (q11, .inl (K 4, 6, .inr (.inr (.inr (.inr f115))))), (q13, .inl (K 4, 8, .inr (.inr (.inr (.inr (va_up (fun _ => none) 0 (some q117)))))))]) rfl rfl t125 (cls_Row G124 t125) rfl (vpi (by decide +kernel)) (by decide +kernel) rfl dX7_init_131 ?_
  have H128 := rows_step (i := 0) (r := q117) H14 (Sub.tr (Sub.tr (Sub.tr (Sub.tr (Sub.tr (Sub.tr (Sub.tr (Sub.tr (Sub.tr m24 m34) m44) m54) m66) m78) m90) m102) m114) m126) t125
  generalize va_up (fun _ => none) 0 (some q117) = f127 at H128 ⊢
  show V _ _ _ _ _ _ _ _ _ _ _ _ _ _ (24, 544) ([(h, .inr (7, [.ref q1, .int (iI 0), .int (iI 0), .ref q11, .int (iI 0), .int (iI 0), .int (iI 0), .ref q13, .int (iI 0), .int (iI 0), .int (iI 0), .ref q15, .int (iI 0), .ref q25, .int (iI 0), .ref q35])), (q11, .inl (K 4, 6, .inr (.inr (.inr (.inr f115))))), (q13, .inl (K 4, 8, .inr (.inr (.inr (.inr f127)))))] ++ fd dom120 σ121) _ _ []
  refine v_iinc B (k := 0) (v := iI 1) (lv' := [(1, .int (iI 1)), (0, .ref h)]) dX7_init_132 rfl (by decide +kernel) (by decide +kernel) rfl ?_
  refine v_goto B (tgt := 108) dX7_init_135 (by decide +kernel) ?_
  refine v_iload_n B dX7_init_108 rfl rfl ?_
  refine v_aload_n B dX7_init_109 rfl rfl ?_
  refine v_get B (k0 := 0) (C := RX7) (T := TX7) (N := 16) (ci := 7) hi_k_Mail_X7 rfl rfl 7 (by decide +kernel) (List.mem_of_getElem? (i := 19) rfl) rfl dX7_init_110 ?_
  refine v_alen B (k0 := 2) (t0 := 4) (v := iI 8) rfl rfl (show Int32.ofNat 8 = iI 8 by decide +kernel) dX7_init_113 ?_
  refine v_icmp_ge B (tgt := 138) dX7_init_114 (by decide +kernel) (fun q => absurd q (by decide +kernel)) (fun _ => ?_)
  refine v_aload_n B dX7_init_117 rfl rfl ?_
  refine v_get B (k0 := 0) (C := RX7) (T := TX7) (N := 16) (ci := 7) hi_k_Mail_X7 rfl rfl 7 (by decide +kernel) (List.mem_of_getElem? (i := 19) rfl) rfl dX7_init_118 ?_
  refine v_iload_n B dX7_init_121 rfl rfl ?_
  refine v_new B (C := RX9) (T := TX9) (N := 2) (ci := 9) (fs := [.null, .int (iI 0)]) hi_k_Mail_X9 tyX9 tyX9_ok (List.mem_of_getElem? (i := 4) rfl) (List.mem_of_getElem? (i := 5) rfl) (List.mem_of_getElem? (i := 6) rfl) rfl (by decide +kernel) (by decide +kernel) (by decide +kernel) dX7_init_122 (fun q129 => ?_)
  show V _ _ _ _ _ _ _ _ _ _ _ _ _ _ (25, 546) (([(h, .inr (7, [.ref q1, .int (iI 0), .int (iI 0), .ref q11, .int (iI 0), .int (iI 0), .int (iI 0), .ref q13, .int (iI 0), .int (iI 0), .int (iI 0), .ref q15, .int (iI 0), .ref q25, .int (iI 0), .ref q35])), (q11, .inl (K 4, 6, .inr (.inr (.inr (.inr f115))))), (q13, .inl (K 4, 8, .inr (.inr (.inr (.inr f127)))))] ++ fd dom120 σ121) ++ [(q129, .inr (9, [.null, .int (iI 0)]))]) _ _ [.ref q129, .int (iI 1), .ref q13]
  refine v_perm (pm1 [(h, .inr (7, [.ref q1, .int (iI 0), .int (iI 0), .ref q11, .int (iI 0), .int (iI 0), .int (iI 0), .ref q13, .int (iI 0), .int (iI 0), .int (iI 0), .ref q15, .int (iI 0), .ref q25, .int (iI 0), .ref q35])), (q11, .inl (K 4, 6, .inr (.inr (.inr (.inr f115))))), (q13, .inl (K 4, 8, .inr (.inr (.inr (.inr f127)))))] (fd dom120 σ121) (q129, .inr (9, [.null, .int (iI 0)]))) ?_
  refine v_dup B dX7_init_125 rfl ?_
  refine v_bipush B (v := iI 96) dX7_init_126 (by decide +kernel) ?_
  refine v_callIv B (b := q129) (n := 1) (As := [.int (iI 96)]) (rest := [.ref q129, .int (iI 1), .ref q13]) (wc := (q129, .inr (9, [.null, .int (iI 0)])) :: fd dom120 σ121) (wr := [(h, .inr (7, [.ref q1, .int (iI 0), .int (iI 0), .ref q11, .int (iI 0), .int (iI 0), .int (iI 0), .ref q13, .int (iI 0), .int (iI 0), .int (iI 0), .ref q15, .int (iI 0), .ref q25, .int (iI 0), .ref q35])), (q11, .inl (K 4, 6, .inr (.inr (.inr (.inr f115))))), (q13, .inl (K 4, 8, .inr (.inr (.inr (.inr f127)))))]) (k_Row l D K Z123 G124 q129 10 96 (iI 96) (by decide +kernel)) gd_k_Mail_k_Row_11 rfl rfl rfl (by decide +kernel) ⟨by decide +kernel, by decide +kernel⟩ (List.mem_of_getElem? (i := 6) rfl) (List.mem_of_getElem? (i := 7) rfl) (List.mem_of_getElem? (i := 8) rfl) rfl (sp_app _ _) rfl rfl (Nat.le_of_ble_eq_true rfl) dX7_init_128 ⟨by decide +kernel, by decide +kernel⟩ (fun u130 hp131 => ?_)
  obtain ⟨dom132, σ133, τ134⟩ := u130
  obtain ⟨Z135, G136, t137, m138⟩ := hp131
  show V _ _ _ _ _ _ _ _ _ _ _ _ _ _ (26, 642) ([(h, .inr (7, [.ref q1, .int (iI 0), .int (iI 0), .ref q11, .int (iI 0), .int (iI 0), .int (iI 0), .ref q13, .int (iI 0), .int (iI 0), .int (iI 0), .ref q15, .int (iI 0), .ref q25, .int (iI 0), .ref q35])), (q11, .inl (K 4, 6, .inr (.inr (.inr (.inr f115))))), (q13, .inl (K 4, 8, .inr (.inr (.inr (.inr f127)))))] ++ fd dom132 σ133) _ _ [.ref q129, .int (iI 1), .ref q13]
  refine v_aastT B Z135 (E := [(h, .inr (7, [.ref q1, .int (iI 0), .int (iI 0), .ref q11, .int (iI 0), .int (iI 0), .int (iI 0), .ref q13, .int (iI 0), .int (iI 0), .int (iI 0), .ref q15, .int (iI 0), .ref q25, .int (iI 0), .ref q35])), (q11, .inl (K 4, 6, .inr (.inr (.inr (.inr f115))))), (q13, .inl (K 4, 8, .inr (.inr (.inr (.inr f127)))))]) (k0 := 2) (t0 := 4) (ci := 9) (rr := (RX9, TX9, 2)) (i := 1) (E' := [(h, .inr (7, [.ref q1, .int (iI 0), .int (iI 0), .ref q11, .int (iI 0), .int (iI 0), .int (iI 0), .ref q13, .int (iI 0), .int (iI 0), .int (iI 0), .ref q15, .int (iI 0), .ref q25, .int (iI 0), .ref q35])), (q11, .inl (K 4, 6, .inr (.inr (.inr (.inr f115))))), (q13, .inl (K 4, 8, .inr (.inr (.inr (.inr (va_up f127 1 (some q129)))))))]) rfl rfl t137 (cls_Row G136 t137) rfl (vpi (by decide +kernel)) (by decide +kernel) rfl dX7_init_131 ?_
  have H140 := rows_step (i := 1) (r := q129) H128 m138 t137
  generalize va_up f127 1 (some q129) = f139 at H140 ⊢
  show V _ _ _ _ _ _ _ _ _ _ _ _ _ _ (26, 642) ([(h, .inr (7, [.ref q1, .int (iI 0), .int (iI 0), .ref q11, .int (iI 0), .int (iI 0), .int (iI 0), .ref q13, .int (iI 0), .int (iI 0), .int (iI 0), .ref q15, .int (iI 0), .ref q25, .int (iI 0), .ref q35])), (q11, .inl (K 4, 6, .inr (.inr (.inr (.inr f115))))), (q13, .inl (K 4, 8, .inr (.inr (.inr (.inr f139)))))] ++ fd dom132 σ133) _ _ []
  refine v_iinc B (k := 0) (v := iI 2) (lv' := [(1, .int (iI 2)), (0, .ref h)]) dX7_init_132 rfl (by decide +kernel) (by decide +kernel) rfl ?_
  refine v_goto B (tgt := 108) dX7_init_135 (by decide +kernel) ?_
  refine v_iload_n B dX7_init_108 rfl rfl ?_
  refine v_aload_n B dX7_init_109 rfl rfl ?_
  refine v_get B (k0 := 0) (C := RX7) (T := TX7) (N := 16) (ci := 7) hi_k_Mail_X7 rfl rfl 7 (by decide +kernel) (List.mem_of_getElem? (i := 19) rfl) rfl dX7_init_110 ?_
  refine v_alen B (k0 := 2) (t0 := 4) (v := iI 8) rfl rfl (show Int32.ofNat 8 = iI 8 by decide +kernel) dX7_init_113 ?_
  refine v_icmp_ge B (tgt := 138) dX7_init_114 (by decide +kernel) (fun q => absurd q (by decide +kernel)) (fun _ => ?_)
  refine v_aload_n B dX7_init_117 rfl rfl ?_
  refine v_get B (k0 := 0) (C := RX7) (T := TX7) (N := 16) (ci := 7) hi_k_Mail_X7 rfl rfl 7 (by decide +kernel) (List.mem_of_getElem? (i := 19) rfl) rfl dX7_init_118 ?_
  refine v_iload_n B dX7_init_121 rfl rfl ?_
  refine v_new B (C := RX9) (T := TX9) (N := 2) (ci := 9) (fs := [.null, .int (iI 0)]) hi_k_Mail_X9 tyX9 tyX9_ok (List.mem_of_getElem? (i := 4) rfl) (List.mem_of_getElem? (i := 5) rfl) (List.mem_of_getElem? (i := 6) rfl) rfl (by decide +kernel) (by decide +kernel) (by decide +kernel) dX7_init_122 (fun q141 => ?_)
  show V _ _ _ _ _ _ _ _ _ _ _ _ _ _ (27, 644) (([(h, .inr (7, [.ref q1, .int (iI 0), .int (iI 0), .ref q11, .int (iI 0), .int (iI 0), .int (iI 0), .ref q13, .int (iI 0), .int (iI 0), .int (iI 0), .ref q15, .int (iI 0), .ref q25, .int (iI 0), .ref q35])), (q11, .inl (K 4, 6, .inr (.inr (.inr (.inr f115))))), (q13, .inl (K 4, 8, .inr (.inr (.inr (.inr f139)))))] ++ fd dom132 σ133) ++ [(q141, .inr (9, [.null, .int (iI 0)]))]) _ _ [.ref q141, .int (iI 2), .ref q13]
  refine v_perm (pm1 [(h, .inr (7, [.ref q1, .int (iI 0), .int (iI 0), .ref q11, .int (iI 0), .int (iI 0), .int (iI 0), .ref q13, .int (iI 0), .int (iI 0), .int (iI 0), .ref q15, .int (iI 0), .ref q25, .int (iI 0), .ref q35])), (q11, .inl (K 4, 6, .inr (.inr (.inr (.inr f115))))), (q13, .inl (K 4, 8, .inr (.inr (.inr (.inr f139)))))] (fd dom132 σ133) (q141, .inr (9, [.null, .int (iI 0)]))) ?_
  refine v_dup B dX7_init_125 rfl ?_
  refine v_bipush B (v := iI 96) dX7_init_126 (by decide +kernel) ?_
  refine v_callIv B (b := q141) (n := 1) (As := [.int (iI 96)]) (rest := [.ref q141, .int (iI 2), .ref q13]) (wc := (q141, .inr (9, [.null, .int (iI 0)])) :: fd dom132 σ133) (wr := [(h, .inr (7, [.ref q1, .int (iI 0), .int (iI 0), .ref q11, .int (iI 0), .int (iI 0), .int (iI 0), .ref q13, .int (iI 0), .int (iI 0), .int (iI 0), .ref q15, .int (iI 0), .ref q25, .int (iI 0), .ref q35])), (q11, .inl (K 4, 6, .inr (.inr (.inr (.inr f115))))), (q13, .inl (K 4, 8, .inr (.inr (.inr (.inr f139)))))]) (k_Row l D K Z135 G136 q141 10 96 (iI 96) (by decide +kernel)) gd_k_Mail_k_Row_11 rfl rfl rfl (by decide +kernel) ⟨by decide +kernel, by decide +kernel⟩ (List.mem_of_getElem? (i := 6) rfl) (List.mem_of_getElem? (i := 7) rfl) (List.mem_of_getElem? (i := 8) rfl) rfl (sp_app _ _) rfl rfl (Nat.le_of_ble_eq_true rfl) dX7_init_128 ⟨by decide +kernel, by decide +kernel⟩ (fun u142 hp143 => ?_)
  obtain ⟨dom144, σ145, τ146⟩ := u142
  obtain ⟨Z147, G148, t149, m150⟩ := hp143
  show V _ _ _ _ _ _ _ _ _ _ _ _ _ _ (28, 740) ([(h, .inr (7, [.ref q1, .int (iI 0), .int (iI 0), .ref q11, .int (iI 0), .int (iI 0), .int (iI 0), .ref q13, .int (iI 0), .int (iI 0), .int (iI 0), .ref q15, .int (iI 0), .ref q25, .int (iI 0), .ref q35])), (q11, .inl (K 4, 6, .inr (.inr (.inr (.inr f115))))), (q13, .inl (K 4, 8, .inr (.inr (.inr (.inr f139)))))] ++ fd dom144 σ145) _ _ [.ref q141, .int (iI 2), .ref q13]
  refine v_aastT B Z147 (E := [(h, .inr (7, [.ref q1, .int (iI 0), .int (iI 0), .ref q11, .int (iI 0), .int (iI 0), .int (iI 0), .ref q13, .int (iI 0), .int (iI 0), .int (iI 0), .ref q15, .int (iI 0), .ref q25, .int (iI 0), .ref q35])), (q11, .inl (K 4, 6, .inr (.inr (.inr (.inr f115))))), (q13, .inl (K 4, 8, .inr (.inr (.inr (.inr f139)))))]) (k0 := 2) (t0 := 4) (ci := 9) (rr := (RX9, TX9, 2)) (i := 2) (E' := [(h, .inr (7, [.ref q1, .int (iI 0), .int (iI 0), .ref q11, .int (iI 0), .int (iI 0), .int (iI 0), .ref q13, .int (iI 0), .int (iI 0), .int (iI 0), .ref q15, .int (iI 0), .ref q25, .int (iI 0), .ref q35])), (q11, .inl (K 4, 6, .inr (.inr (.inr (.inr f115))))), (q13, .inl (K 4, 8, .inr (.inr (.inr (.inr (va_up f139 2 (some q141)))))))]) rfl rfl t149 (cls_Row G148 t149) rfl (vpi (by decide +kernel)) (by decide +kernel) rfl dX7_init_131 ?_
  have H152 := rows_step (i := 2) (r := q141) H140 m150 t149
  generalize va_up f139 2 (some q141) = f151 at H152 ⊢
  show V _ _ _ _ _ _ _ _ _ _ _ _ _ _ (28, 740) ([(h, .inr (7, [.ref q1, .int (iI 0), .int (iI 0), .ref q11, .int (iI 0), .int (iI 0), .int (iI 0), .ref q13, .int (iI 0), .int (iI 0), .int (iI 0), .ref q15, .int (iI 0), .ref q25, .int (iI 0), .ref q35])), (q11, .inl (K 4, 6, .inr (.inr (.inr (.inr f115))))), (q13, .inl (K 4, 8, .inr (.inr (.inr (.inr f151)))))] ++ fd dom144 σ145) _ _ []
  refine v_iinc B (k := 0) (v := iI 3) (lv' := [(1, .int (iI 3)), (0, .ref h)]) dX7_init_132 rfl (by decide +kernel) (by decide +kernel) rfl ?_
  refine v_goto B (tgt := 108) dX7_init_135 (by decide +kernel) ?_
  refine v_iload_n B dX7_init_108 rfl rfl ?_
  refine v_aload_n B dX7_init_109 rfl rfl ?_
  refine v_get B (k0 := 0) (C := RX7) (T := TX7) (N := 16) (ci := 7) hi_k_Mail_X7 rfl rfl 7 (by decide +kernel) (List.mem_of_getElem? (i := 19) rfl) rfl dX7_init_110 ?_
  refine v_alen B (k0 := 2) (t0 := 4) (v := iI 8) rfl rfl (show Int32.ofNat 8 = iI 8 by decide +kernel) dX7_init_113 ?_
  refine v_icmp_ge B (tgt := 138) dX7_init_114 (by decide +kernel) (fun q => absurd q (by decide +kernel)) (fun _ => ?_)
  refine v_aload_n B dX7_init_117 rfl rfl ?_
  refine v_get B (k0 := 0) (C := RX7) (T := TX7) (N := 16) (ci := 7) hi_k_Mail_X7 rfl rfl 7 (by decide +kernel) (List.mem_of_getElem? (i := 19) rfl) rfl dX7_init_118 ?_
  refine v_iload_n B dX7_init_121 rfl rfl ?_
  refine v_new B (C := RX9) (T := TX9) (N := 2) (ci := 9) (fs := [.null, .int (iI 0)]) hi_k_Mail_X9 tyX9 tyX9_ok (List.mem_of_getElem? (i := 4) rfl) (List.mem_of_getElem? (i := 5) rfl) (List.mem_of_getElem? (i := 6) rfl) rfl (by decide +kernel) (by decide +kernel) (by decide +kernel) dX7_init_122 (fun q153 => ?_)
  show V _ _ _ _ _ _ _ _ _ _ _ _ _ _ (29, 742) (([(h, .inr (7, [.ref q1, .int (iI 0), .int (iI 0), .ref q11, .int (iI 0), .int (iI 0), .int (iI 0), .ref q13, .int (iI 0), .int (iI 0), .int (iI 0), .ref q15, .int (iI 0), .ref q25, .int (iI 0), .ref q35])), (q11, .inl (K 4, 6, .inr (.inr (.inr (.inr f115))))), (q13, .inl (K 4, 8, .inr (.inr (.inr (.inr f151)))))] ++ fd dom144 σ145) ++ [(q153, .inr (9, [.null, .int (iI 0)]))]) _ _ [.ref q153, .int (iI 3), .ref q13]
  refine v_perm (pm1 [(h, .inr (7, [.ref q1, .int (iI 0), .int (iI 0), .ref q11, .int (iI 0), .int (iI 0), .int (iI 0), .ref q13, .int (iI 0), .int (iI 0), .int (iI 0), .ref q15, .int (iI 0), .ref q25, .int (iI 0), .ref q35])), (q11, .inl (K 4, 6, .inr (.inr (.inr (.inr f115))))), (q13, .inl (K 4, 8, .inr (.inr (.inr (.inr f151)))))] (fd dom144 σ145) (q153, .inr (9, [.null, .int (iI 0)]))) ?_
  refine v_dup B dX7_init_125 rfl ?_
  refine v_bipush B (v := iI 96) dX7_init_126 (by decide +kernel) ?_
  refine v_callIv B (b := q153) (n := 1) (As := [.int (iI 96)]) (rest := [.ref q153, .int (iI 3), .ref q13]) (wc := (q153, .inr (9, [.null, .int (iI 0)])) :: fd dom144 σ145) (wr := [(h, .inr (7, [.ref q1, .int (iI 0), .int (iI 0), .ref q11, .int (iI 0), .int (iI 0), .int (iI 0), .ref q13, .int (iI 0), .int (iI 0), .int (iI 0), .ref q15, .int (iI 0), .ref q25, .int (iI 0), .ref q35])), (q11, .inl (K 4, 6, .inr (.inr (.inr (.inr f115))))), (q13, .inl (K 4, 8, .inr (.inr (.inr (.inr f151)))))]) (k_Row l D K Z147 G148 q153 10 96 (iI 96) (by decide +kernel)) gd_k_Mail_k_Row_11 rfl rfl rfl (by decide +kernel) ⟨by decide +kernel, by decide +kernel⟩ (List.mem_of_getElem? (i := 6) rfl) (List.mem_of_getElem? (i := 7) rfl) (List.mem_of_getElem? (i := 8) rfl) rfl (sp_app _ _) rfl rfl (Nat.le_of_ble_eq_true rfl) dX7_init_128 ⟨by decide +kernel, by decide +kernel⟩ (fun u154 hp155 => ?_)
  obtain ⟨dom156, σ157, τ158⟩ := u154
  obtain ⟨Z159, G160, t161, m162⟩ := hp155
  show V _ _ _ _ _ _ _ _ _ _ _ _ _ _ (30, 838) ([(h, .inr (7, [.ref q1, .int (iI 0), .int (iI 0), .ref q11, .int (iI 0), .int (iI 0), .int (iI 0), .ref q13, .int (iI 0), .int (iI 0), .int (iI 0), .ref q15, .int (iI 0), .ref q25, .int (iI 0), .ref q35])), (q11, .inl (K 4, 6, .inr (.inr (.inr (.inr f115))))), (q13, .inl (K 4, 8, .inr (.inr (.inr (.inr f151)))))] ++ fd dom156 σ157) _ _ [.ref q153, .int (iI 3), .ref q13]
  refine v_aastT B Z159 (E := [(h, .inr (7, [.ref q1, .int (iI 0), .int (iI 0), .ref q11, .int (iI 0), .int (iI 0), .int (iI 0), .ref q13, .int (iI 0), .int (iI 0), .int (iI 0), .ref q15, .int (iI 0), .ref q25, .int (iI 0), .ref q35])), (q11, .inl (K 4, 6, .inr (.inr (.inr (.inr f115))))), (q13, .inl (K 4, 8, .inr (.inr (.inr (.inr f151)))))]) (k0 := 2) (t0 := 4) (ci := 9) (rr := (RX9, TX9, 2)) (i := 3) (E' := [(h, .inr (7, [.ref q1, .int (iI 0), .int (iI 0), .ref q11, .int (iI 0), .int (iI 0), .int (iI 0), .ref q13, .int (iI 0), .int (iI 0), .int (iI 0), .ref q15, .int (iI 0), .ref q25, .int (iI 0), .ref q35])), (q11, .inl (K 4, 6, .inr (.inr (.inr (.inr f115))))), (q13, .inl (K 4, 8, .inr (.inr (.inr (.inr (va_up f151 3 (some q153)))))))]) rfl rfl t161 (cls_Row G160 t161) rfl (vpi (by decide +kernel)) (by decide +kernel) rfl dX7_init_131 ?_
  have H164 := rows_step (i := 3) (r := q153) H152 m162 t161
  generalize va_up f151 3 (some q153) = f163 at H164 ⊢
  show V _ _ _ _ _ _ _ _ _ _ _ _ _ _ (30, 838) ([(h, .inr (7, [.ref q1, .int (iI 0), .int (iI 0), .ref q11, .int (iI 0), .int (iI 0), .int (iI 0), .ref q13, .int (iI 0), .int (iI 0), .int (iI 0), .ref q15, .int (iI 0), .ref q25, .int (iI 0), .ref q35])), (q11, .inl (K 4, 6, .inr (.inr (.inr (.inr f115))))), (q13, .inl (K 4, 8, .inr (.inr (.inr (.inr f163)))))] ++ fd dom156 σ157) _ _ []
  refine v_iinc B (k := 0) (v := iI 4) (lv' := [(1, .int (iI 4)), (0, .ref h)]) dX7_init_132 rfl (by decide +kernel) (by decide +kernel) rfl ?_
  refine v_goto B (tgt := 108) dX7_init_135 (by decide +kernel) ?_
  refine v_iload_n B dX7_init_108 rfl rfl ?_
  refine v_aload_n B dX7_init_109 rfl rfl ?_
  refine v_get B (k0 := 0) (C := RX7) (T := TX7) (N := 16) (ci := 7) hi_k_Mail_X7 rfl rfl 7 (by decide +kernel) (List.mem_of_getElem? (i := 19) rfl) rfl dX7_init_110 ?_
  refine v_alen B (k0 := 2) (t0 := 4) (v := iI 8) rfl rfl (show Int32.ofNat 8 = iI 8 by decide +kernel) dX7_init_113 ?_
  refine v_icmp_ge B (tgt := 138) dX7_init_114 (by decide +kernel) (fun q => absurd q (by decide +kernel)) (fun _ => ?_)
  refine v_aload_n B dX7_init_117 rfl rfl ?_
  refine v_get B (k0 := 0) (C := RX7) (T := TX7) (N := 16) (ci := 7) hi_k_Mail_X7 rfl rfl 7 (by decide +kernel) (List.mem_of_getElem? (i := 19) rfl) rfl dX7_init_118 ?_
  refine v_iload_n B dX7_init_121 rfl rfl ?_
  refine v_new B (C := RX9) (T := TX9) (N := 2) (ci := 9) (fs := [.null, .int (iI 0)]) hi_k_Mail_X9 tyX9 tyX9_ok (List.mem_of_getElem? (i := 4) rfl) (List.mem_of_getElem? (i := 5) rfl) (List.mem_of_getElem? (i := 6) rfl) rfl (by decide +kernel) (by decide +kernel) (by decide +kernel) dX7_init_122 (fun q165 => ?_)
  show V _ _ _ _ _ _ _ _ _ _ _ _ _ _ (31, 840) (([(h, .inr (7, [.ref q1, .int (iI 0), .int (iI 0), .ref q11, .int (iI 0), .int (iI 0), .int (iI 0), .ref q13, .int (iI 0), .int (iI 0), .int (iI 0), .ref q15, .int (iI 0), .ref q25, .int (iI 0), .ref q35])), (q11, .inl (K 4, 6, .inr (.inr (.inr (.inr f115))))), (q13, .inl (K 4, 8, .inr (.inr (.inr (.inr f163)))))] ++ fd dom156 σ157) ++ [(q165, .inr (9, [.null, .int (iI 0)]))]) _ _ [.ref q165, .int (iI 4), .ref q13]
  refine v_perm (pm1 [(h, .inr (7, [.ref q1, .int (iI 0), .int (iI 0), .ref q11, .int (iI 0), .int (iI 0), .int (iI 0), .ref q13, .int (iI 0), .int (iI 0), .int (iI 0), .ref q15, .int (iI 0), .ref q25, .int (iI 0), .ref q35])), (q11, .inl (K 4, 6, .inr (.inr (.inr (.inr f115))))), (q13, .inl (K 4, 8, .inr (.inr (.inr (.inr f163)))))] (fd dom156 σ157) (q165, .inr (9, [.null, .int (iI 0)]))) ?_
  refine v_dup B dX7_init_125 rfl ?_
  refine v_bipush B (v := iI 96) dX7_init_126 (by decide +kernel) ?_
  refine v_callIv B (b := q165) (n := 1) (As := [.int (iI 96)]) (rest := [.ref q165, .int (iI 4), .ref q13]) (wc := (q165, .inr (9, [.null, .int (iI 0)])) :: fd dom156 σ157) (wr := [(h, .inr (7, [.ref q1, .int (iI 0), .int (iI 0), .ref q11, .int (iI 0), .int (iI 0), .int (iI 0), .ref q13, .int (iI 0), .int (iI 0), .int (iI 0), .ref q15, .int (iI 0), .ref q25, .int (iI 0), .ref q35])), (q11, .inl (K 4, 6, .inr (.inr (.inr (.inr f115))))), (q13, .inl (K 4, 8, .inr (.inr (.inr (.inr f163)))))]) (k_Row l D K Z159 G160 q165 10 96 (iI 96) (by decide +kernel)) gd_k_Mail_k_Row_11 rfl rfl rfl (by decide +kernel) ⟨by decide +kernel, by decide +kernel⟩ (List.mem_of_getElem? (i := 6) rfl) (List.mem_of_getElem? (i := 7) rfl) (List.mem_of_getElem? (i := 8) rfl) rfl (sp_app _ _) rfl rfl (Nat.le_of_ble_eq_true rfl) dX7_init_128 ⟨by decide +kernel, by decide +kernel⟩ (fun u166 hp167 => ?_)
  obtain ⟨dom168, σ169, τ170⟩ := u166
  obtain ⟨Z171, G172, t173, m174⟩ := hp167
  show V _ _ _ _ _ _ _ _ _ _ _ _ _ _ (32, 936) ([(h, .inr (7, [.ref q1, .int (iI 0), .int (iI 0), .ref q11, .int (iI 0), .int (iI 0), .int (iI 0), .ref q13, .int (iI 0), .int (iI 0), .int (iI 0), .ref q15, .int (iI 0), .ref q25, .int (iI 0), .ref q35])), (q11, .inl (K 4, 6, .inr (.inr (.inr (.inr f115))))), (q13, .inl (K 4, 8, .inr (.inr (.inr (.inr f163)))))] ++ fd dom168 σ169) _ _ [.ref q165, .int (iI 4), .ref q13]
  refine v_aastT B Z171 (E := [(h, .inr (7, [.ref q1, .int (iI 0), .int (iI 0), .ref q11, .int (iI 0), .int (iI 0), .int (iI 0), .ref q13, .int (iI 0), .int (iI 0), .int (iI 0), .ref q15, .int (iI 0), .ref q25, .int (iI 0), .ref q35])), (q11, .inl (K 4, 6, .inr (.inr (.inr (.inr f115))))), (q13, .inl (K 4, 8, .inr (.inr (.inr (.inr f163)))))]) (k0 := 2) (t0 := 4) (ci := 9) (rr := (RX9, TX9, 2)) (i := 4) (E' := [(h, .inr (7, [.ref q1, .int (iI 0), .int (iI 0), .ref q11, .int (iI 0), .int (iI 0), .int (iI 0), .ref q13, .int (iI 0), .int (iI 0), .int (iI 0), .ref q15, .int (iI 0), .ref q25, .int (iI 0), .ref q35])), (q11, .inl (K 4, 6, .inr (.inr (.inr (.inr f115))))), (q13, .inl (K 4, 8, .inr (.inr (.inr (.inr (va_up f163 4 (some q165)))))))]) rfl rfl t173 (cls_Row G172 t173) rfl (vpi (by decide +kernel)) (by decide +kernel) rfl dX7_init_131 ?_
  have H176 := rows_step (i := 4) (r := q165) H164 m174 t173
  generalize va_up f163 4 (some q165) = f175 at H176 ⊢
  show V _ _ _ _ _ _ _ _ _ _ _ _ _ _ (32, 936) ([(h, .inr (7, [.ref q1, .int (iI 0), .int (iI 0), .ref q11, .int (iI 0), .int (iI 0), .int (iI 0), .ref q13, .int (iI 0), .int (iI 0), .int (iI 0), .ref q15, .int (iI 0), .ref q25, .int (iI 0), .ref q35])), (q11, .inl (K 4, 6, .inr (.inr (.inr (.inr f115))))), (q13, .inl (K 4, 8, .inr (.inr (.inr (.inr f175)))))] ++ fd dom168 σ169) _ _ []
  refine v_iinc B (k := 0) (v := iI 5) (lv' := [(1, .int (iI 5)), (0, .ref h)]) dX7_init_132 rfl (by decide +kernel) (by decide +kernel) rfl ?_
  refine v_goto B (tgt := 108) dX7_init_135 (by decide +kernel) ?_
  refine v_iload_n B dX7_init_108 rfl rfl ?_
  refine v_aload_n B dX7_init_109 rfl rfl ?_
  refine v_get B (k0 := 0) (C := RX7) (T := TX7) (N := 16) (ci := 7) hi_k_Mail_X7 rfl rfl 7 (by decide +kernel) (List.mem_of_getElem? (i := 19) rfl) rfl dX7_init_110 ?_
  refine v_alen B (k0 := 2) (t0 := 4) (v := iI 8) rfl rfl (show Int32.ofNat 8 = iI 8 by decide +kernel) dX7_init_113 ?_
  refine v_icmp_ge B (tgt := 138) dX7_init_114 (by decide +kernel) (fun q => absurd q (by decide +kernel)) (fun _ => ?_)
  refine v_aload_n B dX7_init_117 rfl rfl ?_
  refine v_get B (k0 := 0) (C := RX7) (T := TX7) (N := 16) (ci := 7) hi_k_Mail_X7 rfl rfl 7 (by decide +kernel) (List.mem_of_getElem? (i := 19) rfl) rfl dX7_init_118 ?_
  refine v_iload_n B dX7_init_121 rfl rfl ?_
  refine v_new B (C := RX9) (T := TX9) (N := 2) (ci := 9) (fs := [.null, .int (iI 0)]) hi_k_Mail_X9 tyX9 tyX9_ok (List.mem_of_getElem? (i := 4) rfl) (List.mem_of_getElem? (i := 5) rfl) (List.mem_of_getElem? (i := 6) rfl) rfl (by decide +kernel) (by decide +kernel) (by decide +kernel) dX7_init_122 (fun q177 => ?_)
  show V _ _ _ _ _ _ _ _ _ _ _ _ _ _ (33, 938) (([(h, .inr (7, [.ref q1, .int (iI 0), .int (iI 0), .ref q11, .int (iI 0), .int (iI 0), .int (iI 0), .ref q13, .int (iI 0), .int (iI 0), .int (iI 0), .ref q15, .int (iI 0), .ref q25, .int (iI 0), .ref q35])), (q11, .inl (K 4, 6, .inr (.inr (.inr (.inr f115))))), (q13, .inl (K 4, 8, .inr (.inr (.inr (.inr f175)))))] ++ fd dom168 σ169) ++ [(q177, .inr (9, [.null, .int (iI 0)]))]) _ _ [.ref q177, .int (iI 5), .ref q13]
  refine v_perm (pm1 [(h, .inr (7, [.ref q1, .int (iI 0), .int (iI 0), .ref q11, .int (iI 0), .int (iI 0), .int (iI 0), .ref q13, .int (iI 0), .int (iI 0), .int (iI 0), .ref q15, .int (iI 0), .ref q25, .int (iI 0), .ref q35])), (q11, .inl (K 4, 6, .inr (.inr (.inr (.inr f115))))), (q13, .inl (K 4, 8, .inr (.inr (.inr (.inr f175)))))] (fd dom168 σ169) (q177, .inr (9, [.null, .int (iI 0)]))) ?_
  refine v_dup B dX7_init_125 rfl ?_
  refine v_bipush B (v := iI 96) dX7_init_126 (by decide +kernel) ?_
  refine v_callIv B (b := q177) (n := 1) (As := [.int (iI 96)]) (rest := [.ref q177, .int (iI 5), .ref q13]) (wc := (q177, .inr (9, [.null, .int (iI 0)])) :: fd dom168 σ169) (wr := [(h, .inr (7, [.ref q1, .int (iI 0), .int (iI 0), .ref q11, .int (iI 0), .int (iI 0), .int (iI 0), .ref q13, .int (iI 0), .int (iI 0), .int (iI 0), .ref q15, .int (iI 0), .ref q25, .int (iI 0), .ref q35])), (q11, .inl (K 4, 6, .inr (.inr (.inr (.inr f115))))), (q13, .inl (K 4, 8, .inr (.inr (.inr (.inr f175)))))]) (k_Row l D K Z171 G172 q177 10 96 (iI 96) (by decide +kernel)) gd_k_Mail_k_Row_11 rfl rfl rfl (by decide +kernel) ⟨by decide +kernel, by decide +kernel⟩ (List.mem_of_getElem? (i := 6) rfl) (List.mem_of_getElem? (i := 7) rfl) (List.mem_of_getElem? (i := 8) rfl) rfl (sp_app _ _) rfl rfl (Nat.le_of_ble_eq_true rfl) dX7_init_128 ⟨by decide +kernel, by decide +kernel⟩ (fun u178 hp179 => ?_)
  obtain ⟨dom180, σ181, τ182⟩ := u178
  obtain ⟨Z183, G184, t185, m186⟩ := hp179
  show V _ _ _ _ _ _ _ _ _ _ _ _ _ _ (34, 1034) ([(h, .inr (7, [.ref q1, .int (iI 0), .int (iI 0), .ref q11, .int (iI 0), .int (iI 0), .int (iI 0), .ref q13, .int (iI 0), .int (iI 0), .int (iI 0), .ref q15, .int (iI 0), .ref q25, .int (iI 0), .ref q35])), (q11, .inl (K 4, 6, .inr (.inr (.inr (.inr f115))))), (q13, .inl (K 4, 8, .inr (.inr (.inr (.inr f175)))))] ++ fd dom180 σ181) _ _ [.ref q177, .int (iI 5), .ref q13]
  refine v_aastT B Z183 (E := [(h, .inr (7, [.ref q1, .int (iI 0), .int (iI 0), .ref q11, .int (iI 0), .int (iI 0), .int (iI 0), .ref q13, .int (iI 0), .int (iI 0), .int (iI 0), .ref q15, .int (iI 0), .ref q25, .int (iI 0), .ref q35])), (q11, .inl (K 4, 6, .inr (.inr (.inr (.inr f115))))), (q13, .inl (K 4, 8, .inr (.inr (.inr (.inr f175)))))]) (k0 := 2) (t0 := 4) (ci := 9) (rr := (RX9, TX9, 2)) (i := 5) (E' := [(h, .inr (7, [.ref q1, .int (iI 0), .int (iI 0), .ref q11, .int (iI 0), .int (iI 0), .int (iI 0), .ref q13, .int (iI 0), .int (iI 0), .int (iI 0), .ref q15, .int (iI 0), .ref q25, .int (iI 0), .ref q35])), (q11, .inl (K 4, 6, .inr (.inr (.inr (.inr f115))))), (q13, .inl (K 4, 8, .inr (.inr (.inr (.inr (va_up f175 5 (some q177)))))))]) rfl rfl t185 (cls_Row G184 t185) rfl (vpi (by decide +kernel)) (by decide +kernel) rfl dX7_init_131 ?_
  have H188 := rows_step (i := 5) (r := q177) H176 m186 t185
  generalize va_up f175 5 (some q177) = f187 at H188 ⊢
  show V _ _ _ _ _ _ _ _ _ _ _ _ _ _ (34, 1034) ([(h, .inr (7, [.ref q1, .int (iI 0), .int (iI 0), .ref q11, .int (iI 0), .int (iI 0), .int (iI 0), .ref q13, .int (iI 0), .int (iI 0), .int (iI 0), .ref q15, .int (iI 0), .ref q25, .int (iI 0), .ref q35])), (q11, .inl (K 4, 6, .inr (.inr (.inr (.inr f115))))), (q13, .inl (K 4, 8, .inr (.inr (.inr (.inr f187)))))] ++ fd dom180 σ181) _ _ []
  refine v_iinc B (k := 0) (v := iI 6) (lv' := [(1, .int (iI 6)), (0, .ref h)]) dX7_init_132 rfl (by decide +kernel) (by decide +kernel) rfl ?_
  refine v_goto B (tgt := 108) dX7_init_135 (by decide +kernel) ?_
  refine v_iload_n B dX7_init_108 rfl rfl ?_
  refine v_aload_n B dX7_init_109 rfl rfl ?_
  refine v_get B (k0 := 0) (C := RX7) (T := TX7) (N := 16) (ci := 7) hi_k_Mail_X7 rfl rfl 7 (by decide +kernel) (List.mem_of_getElem? (i := 19) rfl) rfl dX7_init_110 ?_
  refine v_alen B (k0 := 2) (t0 := 4) (v := iI 8) rfl rfl (show Int32.ofNat 8 = iI 8 by decide +kernel) dX7_init_113 ?_
  refine v_icmp_ge B (tgt := 138) dX7_init_114 (by decide +kernel) (fun q => absurd q (by decide +kernel)) (fun _ => ?_)
  refine v_aload_n B dX7_init_117 rfl rfl ?_
  refine v_get B (k0 := 0) (C := RX7) (T := TX7) (N := 16) (ci := 7) hi_k_Mail_X7 rfl rfl 7 (by decide +kernel) (List.mem_of_getElem? (i := 19) rfl) rfl dX7_init_118 ?_
  refine v_iload_n B dX7_init_121 rfl rfl ?_
  refine v_new B (C := RX9) (T := TX9) (N := 2) (ci := 9) (fs := [.null, .int (iI 0)]) hi_k_Mail_X9 tyX9 tyX9_ok (List.mem_of_getElem? (i := 4) rfl) (List.mem_of_getElem? (i := 5) rfl) (List.mem_of_getElem? (i := 6) rfl) rfl (by decide +kernel) (by decide +kernel) (by decide +kernel) dX7_init_122 (fun q189 => ?_)
  show V _ _ _ _ _ _ _ _ _ _ _ _ _ _ (35, 1036) (([(h, .inr (7, [.ref q1, .int (iI 0), .int (iI 0), .ref q11, .int (iI 0), .int (iI 0), .int (iI 0), .ref q13, .int (iI 0), .int (iI 0), .int (iI 0), .ref q15, .int (iI 0), .ref q25, .int (iI 0), .ref q35])), (q11, .inl (K 4, 6, .inr (.inr (.inr (.inr f115))))), (q13, .inl (K 4, 8, .inr (.inr (.inr (.inr f187)))))] ++ fd dom180 σ181) ++ [(q189, .inr (9, [.null, .int (iI 0)]))]) _ _ [.ref q189, .int (iI 6), .ref q13]
  refine v_perm (pm1 [(h, .inr (7, [.ref q1, .int (iI 0), .int (iI 0), .ref q11, .int (iI 0), .int (iI 0), .int (iI 0), .ref q13, .int (iI 0), .int (iI 0), .int (iI 0), .ref q15, .int (iI 0), .ref q25, .int (iI 0), .ref q35])), (q11, .inl (K 4, 6, .inr (.inr (.inr (.inr f115))))), (q13, .inl (K 4, 8, .inr (.inr (.inr (.inr f187)))))] (fd dom180 σ181) (q189, .inr (9, [.null, .int (iI 0)]))) ?_
  refine v_dup B dX7_init_125 rfl ?_
  refine v_bipush B (v := iI 96) dX7_init_126 (by decide +kernel) ?_
  refine v_callIv B (b := q189) (n := 1) (As := [.int (iI 96)]) (rest := [.ref q189, .int (iI 6), .ref q13]) (wc := (q189, .inr (9, [.null, .int (iI 0)])) :: fd dom180 σ181) (wr := [(h, .inr (7, [.ref q1, .int (iI 0), .int (iI 0), .ref q11, .int (iI 0), .int (iI 0), .int (iI 0), .ref q13, .int (iI 0), .int (iI 0), .int (iI 0), .ref q15, .int (iI 0), .ref q25, .int (iI 0), .ref q35])), (q11, .inl (K 4, 6, .inr (.inr (.inr (.inr f115))))), (q13, .inl (K 4, 8, .inr (.inr (.inr (.inr f187)))))]) (k_Row l D K Z183 G184 q189 10 96 (iI 96) (by decide +kernel)) gd_k_Mail_k_Row_11 rfl rfl rfl (by decide +kernel) ⟨by decide +kernel, by decide +kernel⟩ (List.mem_of_getElem? (i := 6) rfl) (List.mem_of_getElem? (i := 7) rfl) (List.mem_of_getElem? (i := 8) rfl) rfl (sp_app _ _) rfl rfl (Nat.le_of_ble_eq_true rfl) dX7_init_128 ⟨by decide +kernel, by decide +kernel⟩ (fun u190 hp191 => ?_)
  obtain ⟨dom192, σ193, τ194⟩ := u190
  obtain ⟨Z195, G196, t197, m198⟩ := hp191
  show V _ _ _ _ _ _ _ _ _ _ _ _ _ _ (36, 1132) ([(h, .inr (7, [.ref q1, .int (iI 0), .int (iI 0), .ref q11, .int (iI 0), .int (iI 0), .int (iI 0), .ref q13, .int (iI 0), .int (iI 0), .int (iI 0), .ref q15, .int (iI 0), .ref q25, .int (iI 0), .ref q35])), (q11, .inl (K 4, 6, .inr (.inr (.inr (.inr f115))))), (q13, .inl (K 4, 8, .inr (.inr (.inr (.inr f187)))))] ++ fd dom192 σ193) _ _ [.ref q189, .int (iI 6), .ref q13]
  refine v_aastT B Z195 (E := [(h, .inr (7, [.ref q1, .int (iI 0), .int (iI 0), .ref q11, .int (iI 0), .int (iI 0), .int (iI 0), .ref q13, .int (iI 0), .int (iI 0), .int (iI 0), .ref q15, .int (iI 0), .ref q25, .int (iI 0), .ref q35])), (q11, .inl (K 4, 6, .inr (.inr (.inr (.inr f115))))), (q13, .inl (K 4, 8, .inr (.inr (.inr (.inr f187)))))]) (k0 := 2) (t0 := 4) (ci := 9) (rr := (RX9, TX9, 2)) (i := 6) (E' := [(h, .inr (7, [.ref q1, .int (iI 0), .int (iI 0), .ref q11, .int (iI 0), .int (iI 0), .int (iI 0), .ref q13, .int (iI 0), .int (iI 0), .int (iI 0), .ref q15, .int (iI 0), .ref q25, .int (iI 0), .ref q35])), (q11, .inl (K 4, 6, .inr (.inr (.inr (.inr f115))))), (q13, .inl (K 4, 8, .inr (.inr (.inr (.inr (va_up f187 6 (some q189)))))))]) rfl rfl t197 (cls_Row G196 t197) rfl (vpi (by decide +kernel)) (by decide +kernel) rfl dX7_init_131 ?_
  have H200 := rows_step (i := 6) (r := q189) H188 m198 t197
  generalize va_up f187 6 (some q189) = f199 at H200 ⊢
  show V _ _ _ _ _ _ _ _ _ _ _ _ _ _ (36, 1132) ([(h, .inr (7, [.ref q1, .int (iI 0), .int (iI 0), .ref q11, .int (iI 0), .int (iI 0), .int (iI 0), .ref q13, .int (iI 0), .int (iI 0), .int (iI 0), .ref q15, .int (iI 0), .ref q25, .int (iI 0), .ref q35])), (q11, .inl (K 4, 6, .inr (.inr (.inr (.inr f115))))), (q13, .inl (K 4, 8, .inr (.inr (.inr (.inr f199)))))] ++ fd dom192 σ193) _ _ []
  refine v_iinc B (k := 0) (v := iI 7) (lv' := [(1, .int (iI 7)), (0, .ref h)]) dX7_init_132 rfl (by decide +kernel) (by decide +kernel) rfl ?_
  refine v_goto B (tgt := 108) dX7_init_135 (by decide +kernel) ?_
  refine v_iload_n B dX7_init_108 rfl rfl ?_
  refine v_aload_n B dX7_init_109 rfl rfl ?_
  refine v_get B (k0 := 0) (C := RX7) (T := TX7) (N := 16) (ci := 7) hi_k_Mail_X7 rfl rfl 7 (by decide +kernel) (List.mem_of_getElem? (i := 19) rfl) rfl dX7_init_110 ?_
  refine v_alen B (k0 := 2) (t0 := 4) (v := iI 8) rfl rfl (show Int32.ofNat 8 = iI 8 by decide +kernel) dX7_init_113 ?_
  refine v_icmp_ge B (tgt := 138) dX7_init_114 (by decide +kernel) (fun q => absurd q (by decide +kernel)) (fun _ => ?_)
  refine v_aload_n B dX7_init_117 rfl rfl ?_
  refine v_get B (k0 := 0) (C := RX7) (T := TX7) (N := 16) (ci := 7) hi_k_Mail_X7 rfl rfl 7 (by decide +kernel) (List.mem_of_getElem? (i := 19) rfl) rfl dX7_init_118 ?_
  refine v_iload_n B dX7_init_121 rfl rfl ?_
  refine v_new B (C := RX9) (T := TX9) (N := 2) (ci := 9) (fs := [.null, .int (iI 0)]) hi_k_Mail_X9 tyX9 tyX9_ok (List.mem_of_getElem? (i := 4) rfl) (List.mem_of_getElem? (i := 5) rfl) (List.mem_of_getElem? (i := 6) rfl) rfl (by decide +kernel) (by decide +kernel) (by decide +kernel) dX7_init_122 (fun q201 => ?_)
  show V _ _ _ _ _ _ _ _ _ _ _ _ _ _ (37, 1134) (([(h, .inr (7, [.ref q1, .int (iI 0), .int (iI 0), .ref q11, .int (iI 0), .int (iI 0), .int (iI 0), .ref q13, .int (iI 0), .int (iI 0), .int (iI 0), .ref q15, .int (iI 0), .ref q25, .int (iI 0), .ref q35])), (q11, .inl (K 4, 6, .inr (.inr (.inr (.inr f115))))), (q13, .inl (K 4, 8, .inr (.inr (.inr (.inr f199)))))] ++ fd dom192 σ193) ++ [(q201, .inr (9, [.null, .int (iI 0)]))]) _ _ [.ref q201, .int (iI 7), .ref q13]
  refine v_perm (pm1 [(h, .inr (7, [.ref q1, .int (iI 0), .int (iI 0), .ref q11, .int (iI 0), .int (iI 0), .int (iI 0), .ref q13, .int (iI 0), .int (iI 0), .int (iI 0), .ref q15, .int (iI 0), .ref q25, .int (iI 0), .ref q35])), (q11, .inl (K 4, 6, .inr (.inr (.inr (.inr f115))))), (q13, .inl (K 4, 8, .inr (.inr (.inr (.inr f199)))))] (fd dom192 σ193) (q201, .inr (9, [.null, .int (iI 0)]))) ?_
  refine v_dup B dX7_init_125 rfl ?_
  refine v_bipush B (v := iI 96) dX7_init_126 (by decide +kernel) ?_
  refine v_callIv B (b := q201) (n := 1) (As := [.int (iI 96)]) (rest := [.ref q201, .int (iI 7), .ref q13]) (wc := (q201, .inr (9, [.null, .int (iI 0)])) :: fd dom192 σ193) (wr := [(h, .inr (7, [.ref q1, .int (iI 0), .int (iI 0), .ref q11, .int (iI 0), .int (iI 0), .int (iI 0), .ref q13, .int (iI 0), .int (iI 0), .int (iI 0), .ref q15, .int (iI 0), .ref q25, .int (iI 0), .ref q35])), (q11, .inl (K 4, 6, .inr (.inr (.inr (.inr f115))))), (q13, .inl (K 4, 8, .inr (.inr (.inr (.inr f199)))))]) (k_Row l D K Z195 G196 q201 10 96 (iI 96) (by decide +kernel)) gd_k_Mail_k_Row_11 rfl rfl rfl (by decide +kernel) ⟨by decide +kernel, by decide +kernel⟩ (List.mem_of_getElem? (i := 6) rfl) (List.mem_of_getElem? (i := 7) rfl) (List.mem_of_getElem? (i := 8) rfl) rfl (sp_app _ _) rfl rfl (Nat.le_of_ble_eq_true rfl) dX7_init_128 ⟨by decide +kernel, by decide +kernel⟩ (fun u202 hp203 => ?_)
  obtain ⟨dom204, σ205, τ206⟩ := u202
  obtain ⟨Z207, G208, t209, m210⟩ := hp203
  show V _ _ _ _ _ _ _ _ _ _ _ _ _ _ (38, 1230) ([(h, .inr (7, [.ref q1, .int (iI 0), .int (iI 0), .ref q11, .int (iI 0), .int (iI 0), .int (iI 0), .ref q13, .int (iI 0), .int (iI 0), .int (iI 0), .ref q15, .int (iI 0), .ref q25, .int (iI 0), .ref q35])), (q11, .inl (K 4, 6, .inr (.inr (.inr (.inr f115))))), (q13, .inl (K 4, 8, .inr (.inr (.inr (.inr f199)))))] ++ fd dom204 σ205) _ _ [.ref q201, .int (iI 7), .ref q13]
  refine v_aastT B Z207 (E := [(h, .inr (7, [.ref q1, .int (iI 0), .int (iI 0), .ref q11, .int (iI 0), .int (iI 0), .int (iI 0), .ref q13, .int (iI 0), .int (iI 0), .int (iI 0), .ref q15, .int (iI 0), .ref q25, .int (iI 0), .ref q35])), (q11, .inl (K 4, 6, .inr (.inr (.inr (.inr f115))))), (q13, .inl (K 4, 8, .inr (.inr (.inr (.inr f199)))))]) (k0 := 2) (t0 := 4) (ci := 9) (rr := (RX9, TX9, 2)) (i := 7) (E' := [(h, .inr (7, [.ref q1, .int (iI 0), .int (iI 0), .ref q11, .int (iI 0), .int (iI 0), .int (iI 0), .ref q13, .int (iI 0), .int (iI 0), .int (iI 0), .ref q15, .int (iI 0), .ref q25, .int (iI 0), .ref q35])), (q11, .inl (K 4, 6, .inr (.inr (.inr (.inr f115))))), (q13, .inl (K 4, 8, .inr (.inr (.inr (.inr (va_up f199 7 (some q201)))))))]) rfl rfl t209 (cls_Row G208 t209) rfl (vpi (by decide +kernel)) (by decide +kernel) rfl dX7_init_131 ?_
  have H212 := rows_step (i := 7) (r := q201) H200 m210 t209
  generalize va_up f199 7 (some q201) = f211 at H212 ⊢
  show V _ _ _ _ _ _ _ _ _ _ _ _ _ _ (38, 1230) ([(h, .inr (7, [.ref q1, .int (iI 0), .int (iI 0), .ref q11, .int (iI 0), .int (iI 0), .int (iI 0), .ref q13, .int (iI 0), .int (iI 0), .int (iI 0), .ref q15, .int (iI 0), .ref q25, .int (iI 0), .ref q35])), (q11, .inl (K 4, 6, .inr (.inr (.inr (.inr f115))))), (q13, .inl (K 4, 8, .inr (.inr (.inr (.inr f211)))))] ++ fd dom204 σ205) _ _ []
  refine v_iinc B (k := 0) (v := iI 8) (lv' := [(1, .int (iI 8)), (0, .ref h)]) dX7_init_132 rfl (by decide +kernel) (by decide +kernel) rfl ?_
  refine v_goto B (tgt := 108) dX7_init_135 (by decide +kernel) ?_
  refine v_iload_n B dX7_init_108 rfl rfl ?_
  refine v_aload_n B dX7_init_109 rfl rfl ?_
  refine v_get B (k0 := 0) (C := RX7) (T := TX7) (N := 16) (ci := 7) hi_k_Mail_X7 rfl rfl 7 (by decide +kernel) (List.mem_of_getElem? (i := 19) rfl) rfl dX7_init_110 ?_
  refine v_alen B (k0 := 2) (t0 := 4) (v := iI 8) rfl rfl (show Int32.ofNat 8 = iI 8 by decide +kernel) dX7_init_113 ?_
  refine v_icmp_ge B (tgt := 138) dX7_init_114 (by decide +kernel) (fun _ => ?_) (fun q => absurd q (by decide +kernel))
  refine v_perm (pm3 [(h, .inr (7, [.ref q1, .int (iI 0), .int (iI 0), .ref q11, .int (iI 0), .int (iI 0), .int (iI 0), .ref q13, .int (iI 0), .int (iI 0), .int (iI 0), .ref q15, .int (iI 0), .ref q25, .int (iI 0), .ref q35]))] [(q13, .inl (K 4, 8, .inr (.inr (.inr (.inr f211)))))] (fd dom204 σ205) (q11, .inl (K 4, 6, .inr (.inr (.inr (.inr f115)))))) ?_
  show V _ _ _ _ _ _ _ _ _ _ _ _ _ _ (38, 1230) ([(h, .inr (7, [.ref q1, .int (iI 0), .int (iI 0), .ref q11, .int (iI 0), .int (iI 0), .int (iI 0), .ref q13, .int (iI 0), .int (iI 0), .int (iI 0), .ref q15, .int (iI 0), .ref q25, .int (iI 0), .ref q35])), (q13, .inl (K 4, 8, .inr (.inr (.inr (.inr f211)))))] ++ ((q11, .inl (K 4, 6, .inr (.inr (.inr (.inr f115))))) :: fd dom204 σ205)) _ _ []
  refine v_absorb (E := [(h, .inr (7, [.ref q1, .int (iI 0), .int (iI 0), .ref q11, .int (iI 0), .int (iI 0), .int (iI 0), .ref q13, .int (iI 0), .int (iI 0), .int (iI 0), .ref q15, .int (iI 0), .ref q25, .int (iI 0), .ref q35])), (q13, .inl (K 4, 8, .inr (.inr (.inr (.inr f211)))))]) (q := q11) (e0 := .inl (K 4, 6, .inr (.inr (.inr (.inr f115))))) (t := (5, 9, 6)) Z207 G208 (fun τ9 s9 _ => ⟨_, rfl, rows_sub H116 (Sub.tr (Sub.tr (Sub.tr (Sub.tr (Sub.tr (Sub.tr (Sub.tr (Sub.tr m126 m138) m150) m162) m174) m186) m198) m210) s9)⟩) (fun dom213 σ214 τ215 Z216 G217 t218 m219 => ?_)
  show V _ _ _ _ _ _ _ _ _ _ _ _ _ _ (38, 1230) ([(h, .inr (7, [.ref q1, .int (iI 0), .int (iI 0), .ref q11, .int (iI 0), .int (iI 0), .int (iI 0), .ref q13, .int (iI 0), .int (iI 0), .int (iI 0), .ref q15, .int (iI 0), .ref q25, .int (iI 0), .ref q35])), (q13, .inl (K 4, 8, .inr (.inr (.inr (.inr f211)))))] ++ fd dom213 σ214) _ _ []
  refine v_perm (pm3 [(h, .inr (7, [.ref q1, .int (iI 0), .int (iI 0), .ref q11, .int (iI 0), .int (iI 0), .int (iI 0), .ref q13, .int (iI 0), .int (iI 0), .int (iI 0), .ref q15, .int (iI 0), .ref q25, .int (iI 0), .ref q35]))] [] (fd dom213 σ214) (q13, .inl (K 4, 8, .inr (.inr (.inr (.inr f211)))))) ?_
  show V _ _ _ _ _ _ _ _ _ _ _ _ _ _ (38, 1230) ([(h, .inr (7, [.ref q1, .int (iI 0), .int (iI 0), .ref q11, .int (iI 0), .int (iI 0), .int (iI 0), .ref q13, .int (iI 0), .int (iI 0), .int (iI 0), .ref q15, .int (iI 0), .ref q25, .int (iI 0), .ref q35]))] ++ ((q13, .inl (K 4, 8, .inr (.inr (.inr (.inr f211))))) :: fd dom213 σ214)) _ _ []
  refine v_absorb (E := [(h, .inr (7, [.ref q1, .int (iI 0), .int (iI 0), .ref q11, .int (iI 0), .int (iI 0), .int (iI 0), .ref q13, .int (iI 0), .int (iI 0), .int (iI 0), .ref q15, .int (iI 0), .ref q25, .int (iI 0), .ref q35]))]) (q := q13) (e0 := .inl (K 4, 8, .inr (.inr (.inr (.inr f211))))) (t := (5, 10, 8)) Z216 G217 (fun τ9 s9 _ => ⟨_, rfl, rows_sub H212 (Sub.tr m219 s9)⟩) (fun dom220 σ221 τ222 Z223 G224 t225 m226 => ?_)
  show V _ _ _ _ _ _ _ _ _ _ _ _ _ _ (38, 1230) ([(h, .inr (7, [.ref q1, .int (iI 0), .int (iI 0), .ref q11, .int (iI 0), .int (iI 0), .int (iI 0), .ref q13, .int (iI 0), .int (iI 0), .int (iI 0), .ref q15, .int (iI 0), .ref q25, .int (iI 0), .ref q35]))] ++ fd dom220 σ221) _ _ []
  show V _ _ _ _ _ _ _ _ _ _ _ _ _ _ (38, 1230) ([] ++ ((h, .inr (7, [.ref q1, .int (iI 0), .int (iI 0), .ref q11, .int (iI 0), .int (iI 0), .int (iI 0), .ref q13, .int (iI 0), .int (iI 0), .int (iI 0), .ref q15, .int (iI 0), .ref q25, .int (iI 0), .ref q35])) :: fd dom220 σ221)) _ _ []
  refine v_absorb (E := []) (q := h) (e0 := .inr (7, [.ref q1, .int (iI 0), .int (iI 0), .ref q11, .int (iI 0), .int (iI 0), .int (iI 0), .ref q13, .int (iI 0), .int (iI 0), .int (iI 0), .ref q15, .int (iI 0), .ref q25, .int (iI 0), .ref q35])) (t := (37, 0, 0)) Z223 G224 (fun τ9 s9 _ => ⟨q1, 0, 0, q11, 0, 0, 0, q13, 0, 0, 0, q15, 0, q25, 0, q35, rfl, s9 _ _ (m226 _ _ (m219 _ _ (m210 _ _ (m198 _ _ (m186 _ _ (m174 _ _ (m162 _ _ (m150 _ _ (m138 _ _ (m126 _ _ (m114 _ _ (m102 _ _ (m90 _ _ (m78 _ _ (m66 _ _ (m54 _ _ (m44 _ _ (m34 _ _ (m24 _ _ t9))))))))))))))))))), ⟨by decide, by decide⟩, ⟨by decide, by decide⟩, s9 _ _ (m226 _ _ t218), ⟨by decide, by decide⟩, ⟨by decide, by decide⟩, ⟨by decide, by decide⟩, s9 _ _ t225, ⟨by decide, by decide⟩, ⟨by decide, by decide⟩, ⟨by decide, by decide⟩, s9 _ _ (m226 _ _ (m219 _ _ (m210 _ _ (m198 _ _ (m186 _ _ (m174 _ _ (m162 _ _ (m150 _ _ (m138 _ _ (m126 _ _ (m114 _ _ (m102 _ _ (m90 _ _ (m78 _ _ (m66 _ _ (m54 _ _ (m44 _ _ (m34 _ _ t23)))))))))))))))))), ⟨by decide, by decide⟩, s9 _ _ (m226 _ _ (m219 _ _ (m210 _ _ (m198 _ _ (m186 _ _ (m174 _ _ (m162 _ _ (m150 _ _ (m138 _ _ (m126 _ _ (m114 _ _ (m102 _ _ (m90 _ _ (m78 _ _ (m66 _ _ (m54 _ _ (m44 _ _ t33))))))))))))))))), ⟨by decide, by decide⟩, s9 _ _ (m226 _ _ (m219 _ _ (m210 _ _ (m198 _ _ (m186 _ _ (m174 _ _ (m162 _ _ (m150 _ _ (m138 _ _ (m126 _ _ (m114 _ _ (m102 _ _ (m90 _ _ (m78 _ _ (m66 _ _ (m54 _ _ t43))))))))))))))))⟩) (fun dom227 σ228 τ229 Z230 G231 t232 m233 => ?_)
  exact v_vret B hr hlk (dom227, σ228, τ229) ⟨Z230, G231, t232, (Sub.tr (Sub.tr (Sub.tr (Sub.tr (Sub.tr (Sub.tr (Sub.tr (Sub.tr (Sub.tr (Sub.tr (Sub.tr (Sub.tr (Sub.tr (Sub.tr (Sub.tr (Sub.tr (Sub.tr (Sub.tr (Sub.tr (Sub.tr m10 m24) m34) m44) m54) m66) m78) m90) m102) m114) m126) m138) m150) m162) m174) m186) m198) m210) m219) m226) m233)⟩ rfl (by decide +kernel) (by decide +kernel) dX7_init_138

def wp_k_Air : List Cond := .code yX0_init cX0_init 2 none :: (([.methodLink RX0 3 Lib.objectInit, .instanceMethod Lib.objectInit, .code Lib.objectInit ⟨#[0xb1]⟩ 1 none, .classLink RX0 11 RX9, .fieldLink RX0 13 "LowEnergy$Air" "packets" "[LLowEnergy$Row;", .arrayClass .int, .fieldLink RX0 17 "LowEnergy$Air" "channels" "[I", .classLink RX0 21 "[[I", .fieldLink RX0 23 "LowEnergy$Air" "noises" "[[I", .fieldLink RX0 26 "LowEnergy$Air" "noiseCounts" "[I", .fieldLink RX0 29 "LowEnergy$Air" "losses" "[I", .instantiable RX9 2, .initialized RX9, .methodLink RX0 32 yX9_init, .instanceMethod yX9_init, .code yX9_init cX9_init 2 none, .methodLink RX9 3 Lib.objectInit, .methodLink RX9 9 Lib.Math.max.name, .static Lib.Math.max.name, .initialized "java/lang/Math", .code Lib.Math.max.name Lib.Math.max.code 2 (some .int), .fieldLink RX9 15 "LowEnergy$Row" "bytes" "[I", .fieldLink RX0 35 "LowEnergy$Air" "plain" "LLowEnergy$Row;", .fieldLink RX0 39 "LowEnergy$Air" "payload" "LLowEnergy$Row;"] : List Cond) ++ (wsX00 ++ (wsX90 ++ ([]))))
theorem hi_k_Air_X0 : ∀ x ∈ u_ws RX0 TX0 10, x ∈ wp_k_Air := fun _ h => List.mem_cons_of_mem _ (List.mem_append_right _ (List.mem_append_left _ h))
theorem hi_k_Air_X9 : ∀ x ∈ u_ws RX9 TX9 2, x ∈ wp_k_Air := fun _ h => List.mem_cons_of_mem _ (List.mem_append_right _ (List.mem_append_right _ (List.mem_append_left _ h)))
set_option maxRecDepth 100000 in
theorem gd_k_Air_k_Row_32 : GoodIn wp_k_Air (wp_k_Row) := goodIn_ca (goodIn_r _ [16, 17, 2, 3, 18, 19, 20, 21, 6, 22] rfl rfl) (goodIn_app (goodIn_cls hi_k_Air_X9 gw_X9) (goodIn_nil))
set_option maxHeartbeats 4000000 in
set_option maxRecDepth 100000 in
theorem k_Air (l : Launch) (D : va_G) (K : Nat → ClassId) {τ : Nat → Option Ty} {dom : List Nat} {σ : Nat → va_E} (Z : Sk τ dom) (G : Good K τ σ) (h : Nat) : MG l yX0_init wp_k_Air ({ frames := 2, cells := 27, slots := 561, locals := 35 }) D (tysA K) [.ref h] ((h, .inr (0, [.null, .null, .null, .null, .null, .null, .null, .int (iI 0), .int (iI 0), .int (iI 0)])) :: fd dom σ) (Qv D (fun u : List Nat × (Nat → va_E) × (Nat → Option Ty) => Sk u.2.2 u.1 ∧ Good K u.2.2 u.2.1 ∧ u.2.2 h = some (30, 0, 0) ∧ Sub τ u.2.2) (fun u => fd u.1 u.2.1)) 27 561 := by
  refine mg_of (cc := cX0_init) (maxL := 2) (ret := none) (by decide +kernel) rfl (Nat.le_of_ble_eq_true rfl) ?_
  intro p e s m below meth c A B hr hlk hnam
  show V _ _ _ _ _ _ _ _ _ _ _ _ _ _ _ ([(h, .inr (0, [.null, .null, .null, .null, .null, .null, .null, .int (iI 0), .int (iI 0), .int (iI 0)]))] ++ fd dom σ) [(0, .ref h)] _ _
  refine v_aload_n B dX0_init_0 rfl rfl ?_
  refine v_objInit B (List.mem_of_getElem? (i := 1) rfl) (List.mem_of_getElem? (i := 2) rfl) (List.mem_of_getElem? (i := 3) rfl) dX0_init_1 (by decide +kernel) (Nat.le_of_ble_eq_true rfl) ?_
  refine v_aload_n B dX0_init_4 rfl rfl ?_
  refine v_bipush B (v := iI 8) dX0_init_5 (by decide +kernel) ?_
  refine v_newq B (C := RX9) (cA := K 4) (t0 := 4) (N' := 8) (List.mem_of_getElem? (i := 4) rfl) B.2.2.2.2.2.1.2.2.1 rfl (by decide +kernel) (by decide +kernel) (by decide +kernel) (by decide +kernel) (by decide +kernel) dX0_init_7 (fun q1 => ?_)
  show V _ _ _ _ _ _ _ _ _ _ _ _ _ _ (1, 8) (([(h, .inr (0, [.null, .null, .null, .null, .null, .null, .null, .int (iI 0), .int (iI 0), .int (iI 0)]))] ++ fd dom σ) ++ [(q1, .inl (K 4, 8, .inr (.inr (.inr (.inr (fun _ => none))))))]) _ _ [.ref q1, .ref h]
  refine v_perm (pm5 [(h, .inr (0, [.null, .null, .null, .null, .null, .null, .null, .int (iI 0), .int (iI 0), .int (iI 0)]))] (fd dom σ) (q1, .inl (K 4, 8, .inr (.inr (.inr (.inr (fun _ => none))))))) ?_
  show V _ _ _ _ _ _ _ _ _ _ _ _ _ _ (1, 8) ([(h, .inr (0, [.null, .null, .null, .null, .null, .null, .null, .int (iI 0), .int (iI 0), .int (iI 0)])), (q1, .inl (K 4, 8, .inr (.inr (.inr (.inr (fun _ => none))))))] ++ fd dom σ) _ _ [.ref q1, .ref h]
  have H2 : ∀ j : Nat, j < 0 → ∃ a : Nat, (fun _ : Nat => (none : Option Nat)) j = some a ∧ τ a = some (1, 3, 0) := fun _ h => by omega
  refine v_putF B (k0 := 0) (C := RX0) (T := TX0) (N := 10) (ci := 0) hi_k_Air_X0 rfl rfl 0 (by decide +kernel) tyX0 tyX0_ok nmX0 (List.mem_of_getElem? (i := 5) rfl) rfl hnam rfl (ty := .array (.object "LowEnergy$Row")) (tyX0_ok 0 (by decide +kernel)) rfl rfl (Nat.le_of_ble_eq_true rfl) (w' := [(h, .inr (0, [.ref q1, .null, .null, .null, .null, .null, .null, .int (iI 0), .int (iI 0), .int (iI 0)])), (q1, .inl (K 4, 8, .inr (.inr (.inr (.inr (fun _ => none))))))] ++ fd dom σ) rfl dX0_init_10 ?_
  refine v_aload_n B dX0_init_13 rfl rfl ?_
  refine v_bipush B (v := iI 8) dX0_init_14 (by decide +kernel) ?_
  refine v_newa_int B (cA := K 0) (t0 := 0) (N' := 8) (List.mem_of_getElem? (i := 6) rfl) rfl (by decide +kernel) (by decide +kernel) (by decide +kernel) (by decide +kernel) (by decide +kernel) dX0_init_16 (fun q3 => ?_)
  show V _ _ _ _ _ _ _ _ _ _ _ _ _ _ (2, 16) (([(h, .inr (0, [.ref q1, .null, .null, .null, .null, .null, .null, .int (iI 0), .int (iI 0), .int (iI 0)])), (q1, .inl (K 4, 8, .inr (.inr (.inr (.inr (fun _ => none))))))] ++ fd dom σ) ++ [(q3, .inl (K 0, 8, .inl (fun _ => 0)))]) _ _ [.ref q3, .ref h]
  refine v_perm (pm2 [(h, .inr (0, [.ref q1, .null, .null, .null, .null, .null, .null, .int (iI 0), .int (iI 0), .int (iI 0)])), (q1, .inl (K 4, 8, .inr (.inr (.inr (.inr (fun _ => none))))))] (fd dom σ) (q3, .inl (K 0, 8, .inl (fun _ => 0)))) ?_
  refine v_absorb (E := [(h, .inr (0, [.ref q1, .null, .null, .null, .null, .null, .null, .int (iI 0), .int (iI 0), .int (iI 0)])), (q1, .inl (K 4, 8, .inr (.inr (.inr (.inr (fun _ => none))))))]) (q := q3) (e0 := .inl (K 0, 8, .inl (fun _ => 0))) (t := (3, 20, 8)) Z G (fun _ _ _ => ⟨_, rfl, by decide⟩) (fun dom4 σ5 τ6 Z7 G8 t9 m10 => ?_)
  show V _ _ _ _ _ _ _ _ _ _ _ _ _ _ (2, 16) ([(h, .inr (0, [.ref q1, .null, .null, .null, .null, .null, .null, .int (iI 0), .int (iI 0), .int (iI 0)])), (q1, .inl (K 4, 8, .inr (.inr (.inr (.inr (fun _ => none))))))] ++ fd dom4 σ5) _ _ [.ref q3, .ref h]
  refine v_putF B (k0 := 0) (C := RX0) (T := TX0) (N := 10) (ci := 0) hi_k_Air_X0 rfl rfl 1 (by decide +kernel) tyX0 tyX0_ok nmX0 (List.mem_of_getElem? (i := 7) rfl) rfl hnam rfl (ty := .array .int) (tyX0_ok 1 (by decide +kernel)) rfl rfl (Nat.le_of_ble_eq_true rfl) (w' := [(h, .inr (0, [.ref q1, .ref q3, .null, .null, .null, .null, .null, .int (iI 0), .int (iI 0), .int (iI 0)])), (q1, .inl (K 4, 8, .inr (.inr (.inr (.inr (fun _ => none))))))] ++ fd dom4 σ5) rfl dX0_init_18 ?_
  refine v_aload_n B dX0_init_21 rfl rfl ?_
  refine v_iconst B (v := iI 2) dX0_init_22 rfl ?_
  refine v_bipush B (v := iI 64) dX0_init_23 (by decide +kernel) ?_
  refine v_mna B (N' := 2) (K' := 64) (z := (64, .inl (fun _ => 0))) (t0 := 0) (t1 := 6) (cA := K 6) (cI := K 0) (List.mem_of_getElem? (i := 8) rfl) (List.mem_of_getElem? (i := 6) rfl) rfl rfl (by decide +kernel) (by decide +kernel) (by decide +kernel) (by decide +kernel) (by decide +kernel) (by decide +kernel) (by decide +kernel) (by decide +kernel) (by decide +kernel) (fun _ => rfl) dX0_init_25 (fun q11 rr12 _ => ?_)
  show V _ _ _ _ _ _ _ _ _ _ _ _ _ _ (5, 146) ((([(h, .inr (0, [.ref q1, .ref q3, .null, .null, .null, .null, .null, .int (iI 0), .int (iI 0), .int (iI 0)])), (q1, .inl (K 4, 8, .inr (.inr (.inr (.inr (fun _ => none))))))] ++ fd dom4 σ5) ++ [(q11, .inl (K 6, 2, .inr (.inr (.inr (.inr (fun i => if i < 2 then some (rr12 i) else none))))))]) ++ ((List.range 2).map rr12).map (fun a => (a, (.inl (K 0, 64, .inl (fun _ => 0)) : va_E)))) _ _ [.ref q11, .ref h]
  refine v_perm (pm6 [(h, .inr (0, [.ref q1, .ref q3, .null, .null, .null, .null, .null, .int (iI 0), .int (iI 0), .int (iI 0)])), (q1, .inl (K 4, 8, .inr (.inr (.inr (.inr (fun _ => none))))))] (fd dom4 σ5) (q11, .inl (K 6, 2, .inr (.inr (.inr (.inr (fun i => if i < 2 then some (rr12 i) else none)))))) (((List.range 2).map rr12).map (fun a => (a, (.inl (K 0, 64, .inl (fun _ => 0)) : va_E))))) ?_
  refine v_absorbL (t := (3, 21, 64)) (e0 := .inl (K 0, 64, .inl (fun _ => 0))) (fun _ => ⟨_, rfl, by decide⟩) ((List.range 2).map rr12) ([(h, .inr (0, [.ref q1, .ref q3, .null, .null, .null, .null, .null, .int (iI 0), .int (iI 0), .int (iI 0)])), (q1, .inl (K 4, 8, .inr (.inr (.inr (.inr (fun _ => none))))))] ++ [(q11, .inl (K 6, 2, .inr (.inr (.inr (.inr (fun i => if i < 2 then some (rr12 i) else none))))))]) _ _ _ Z7 G8 (fun dom13 σ14 τ15 Z16 G17 t18 m19 => ?_)
  refine v_perm (pm7 [(h, .inr (0, [.ref q1, .ref q3, .null, .null, .null, .null, .null, .int (iI 0), .int (iI 0), .int (iI 0)])), (q1, .inl (K 4, 8, .inr (.inr (.inr (.inr (fun _ => none))))))] (fd dom13 σ14) (q11, .inl (K 6, 2, .inr (.inr (.inr (.inr (fun i => if i < 2 then some (rr12 i) else none))))))) ?_
  refine v_absorb (E := [(h, .inr (0, [.ref q1, .ref q3, .null, .null, .null, .null, .null, .int (iI 0), .int (iI 0), .int (iI 0)])), (q1, .inl (K 4, 8, .inr (.inr (.inr (.inr (fun _ => none))))))]) (q := q11) (e0 := .inl (K 6, 2, .inr (.inr (.inr (.inr (fun i => if i < 2 then some (rr12 i) else none)))))) (t := (6, 21, 2)) Z16 G17 (fun τ9 s9 _ => ⟨_, rfl, fun i hi => ⟨rr12 i, if_pos hi, s9 _ _ (t18 _ (List.mem_map.mpr ⟨i, List.mem_range.mpr hi, rfl⟩))⟩⟩) (fun dom20 σ21 τ22 Z23 G24 t25 m26 => ?_)
  show V _ _ _ _ _ _ _ _ _ _ _ _ _ _ (5, 146) ([(h, .inr (0, [.ref q1, .ref q3, .null, .null, .null, .null, .null, .int (iI 0), .int (iI 0), .int (iI 0)])), (q1, .inl (K 4, 8, .inr (.inr (.inr (.inr (fun _ => none))))))] ++ fd dom20 σ21) _ _ [.ref q11, .ref h]
  refine v_putF B (k0 := 0) (C := RX0) (T := TX0) (N := 10) (ci := 0) hi_k_Air_X0 rfl rfl 2 (by decide +kernel) tyX0 tyX0_ok nmX0 (List.mem_of_getElem? (i := 9) rfl) rfl hnam rfl (ty := .array (.array .int)) (tyX0_ok 2 (by decide +kernel)) rfl rfl (Nat.le_of_ble_eq_true rfl) (w' := [(h, .inr (0, [.ref q1, .ref q3, .ref q11, .null, .null, .null, .null, .int (iI 0), .int (iI 0), .int (iI 0)])), (q1, .inl (K 4, 8, .inr (.inr (.inr (.inr (fun _ => none))))))] ++ fd dom20 σ21) rfl dX0_init_29 ?_
  refine v_aload_n B dX0_init_32 rfl rfl ?_
  refine v_iconst B (v := iI 2) dX0_init_33 rfl ?_
  refine v_newa_int B (cA := K 0) (t0 := 0) (N' := 2) (List.mem_of_getElem? (i := 6) rfl) rfl (by decide +kernel) (by decide +kernel) (by decide +kernel) (by decide +kernel) (by decide +kernel) dX0_init_34 (fun q27 => ?_)
  show V _ _ _ _ _ _ _ _ _ _ _ _ _ _ (6, 148) (([(h, .inr (0, [.ref q1, .ref q3, .ref q11, .null, .null, .null, .null, .int (iI 0), .int (iI 0), .int (iI 0)])), (q1, .inl (K 4, 8, .inr (.inr (.inr (.inr (fun _ => none))))))] ++ fd dom20 σ21) ++ [(q27, .inl (K 0, 2, .inl (fun _ => 0)))]) _ _ [.ref q27, .ref h]
  refine v_perm (pm2 [(h, .inr (0, [.ref q1, .ref q3, .ref q11, .null, .null, .null, .null, .int (iI 0), .int (iI 0), .int (iI 0)])), (q1, .inl (K 4, 8, .inr (.inr (.inr (.inr (fun _ => none))))))] (fd dom20 σ21) (q27, .inl (K 0, 2, .inl (fun _ => 0)))) ?_
  refine v_absorb (E := [(h, .inr (0, [.ref q1, .ref q3, .ref q11, .null, .null, .null, .null, .int (iI 0), .int (iI 0), .int (iI 0)])), (q1, .inl (K 4, 8, .inr (.inr (.inr (.inr (fun _ => none))))))]) (q := q27) (e0 := .inl (K 0, 2, .inl (fun _ => 0))) (t := (4, 24, 2)) Z23 G24 (fun _ _ _ => ⟨_, rfl, by decide, zero_el 0 64 (by decide)⟩) (fun dom28 σ29 τ30 Z31 G32 t33 m34 => ?_)
  show V _ _ _ _ _ _ _ _ _ _ _ _ _ _ (6, 148) ([(h, .inr (0, [.ref q1, .ref q3, .ref q11, .null, .null, .null, .null, .int (iI 0), .int (iI 0), .int (iI 0)])), (q1, .inl (K 4, 8, .inr (.inr (.inr (.inr (fun _ => none))))))] ++ fd dom28 σ29) _ _ [.ref q27, .ref h]
  refine v_putF B (k0 := 0) (C := RX0) (T := TX0) (N := 10) (ci := 0) hi_k_Air_X0 rfl rfl 3 (by decide +kernel) tyX0 tyX0_ok nmX0 (List.mem_of_getElem? (i := 10) rfl) rfl hnam rfl (ty := .array .int) (tyX0_ok 3 (by decide +kernel)) rfl rfl (Nat.le_of_ble_eq_true rfl) (w' := [(h, .inr (0, [.ref q1, .ref q3, .ref q11, .ref q27, .null, .null, .null, .int (iI 0), .int (iI 0), .int (iI 0)])), (q1, .inl (K 4, 8, .inr (.inr (.inr (.inr (fun _ => none))))))] ++ fd dom28 σ29) rfl dX0_init_36 ?_
  refine v_aload_n B dX0_init_39 rfl rfl ?_
  refine v_iconst B (v := iI 2) dX0_init_40 rfl ?_
  refine v_newa_int B (cA := K 0) (t0 := 0) (N' := 2) (List.mem_of_getElem? (i := 6) rfl) rfl (by decide +kernel) (by decide +kernel) (by decide +kernel) (by decide +kernel) (by decide +kernel) dX0_init_41 (fun q35 => ?_)
  show V _ _ _ _ _ _ _ _ _ _ _ _ _ _ (7, 150) (([(h, .inr (0, [.ref q1, .ref q3, .ref q11, .ref q27, .null, .null, .null, .int (iI 0), .int (iI 0), .int (iI 0)])), (q1, .inl (K 4, 8, .inr (.inr (.inr (.inr (fun _ => none))))))] ++ fd dom28 σ29) ++ [(q35, .inl (K 0, 2, .inl (fun _ => 0)))]) _ _ [.ref q35, .ref h]
  refine v_perm (pm2 [(h, .inr (0, [.ref q1, .ref q3, .ref q11, .ref q27, .null, .null, .null, .int (iI 0), .int (iI 0), .int (iI 0)])), (q1, .inl (K 4, 8, .inr (.inr (.inr (.inr (fun _ => none))))))] (fd dom28 σ29) (q35, .inl (K 0, 2, .inl (fun _ => 0)))) ?_
  refine v_absorb (E := [(h, .inr (0, [.ref q1, .ref q3, .ref q11, .ref q27, .null, .null, .null, .int (iI 0), .int (iI 0), .int (iI 0)])), (q1, .inl (K 4, 8, .inr (.inr (.inr (.inr (fun _ => none))))))]) (q := q35) (e0 := .inl (K 0, 2, .inl (fun _ => 0))) (t := (3, 25, 2)) Z31 G32 (fun _ _ _ => ⟨_, rfl, by decide⟩) (fun dom36 σ37 τ38 Z39 G40 t41 m42 => ?_)
  show V _ _ _ _ _ _ _ _ _ _ _ _ _ _ (7, 150) ([(h, .inr (0, [.ref q1, .ref q3, .ref q11, .ref q27, .null, .null, .null, .int (iI 0), .int (iI 0), .int (iI 0)])), (q1, .inl (K 4, 8, .inr (.inr (.inr (.inr (fun _ => none))))))] ++ fd dom36 σ37) _ _ [.ref q35, .ref h]
  refine v_putF B (k0 := 0) (C := RX0) (T := TX0) (N := 10) (ci := 0) hi_k_Air_X0 rfl rfl 4 (by decide +kernel) tyX0 tyX0_ok nmX0 (List.mem_of_getElem? (i := 11) rfl) rfl hnam rfl (ty := .array .int) (tyX0_ok 4 (by decide +kernel)) rfl rfl (Nat.le_of_ble_eq_true rfl) (w' := [(h, .inr (0, [.ref q1, .ref q3, .ref q11, .ref q27, .ref q35, .null, .null, .int (iI 0), .int (iI 0), .int (iI 0)])), (q1, .inl (K 4, 8, .inr (.inr (.inr (.inr (fun _ => none))))))] ++ fd dom36 σ37) rfl dX0_init_43 ?_
  refine v_aload_n B dX0_init_46 rfl rfl ?_
  refine v_new B (C := RX9) (T := TX9) (N := 2) (ci := 9) (fs := [.null, .int (iI 0)]) hi_k_Air_X9 tyX9 tyX9_ok (List.mem_of_getElem? (i := 4) rfl) (List.mem_of_getElem? (i := 12) rfl) (List.mem_of_getElem? (i := 13) rfl) rfl (by decide +kernel) (by decide +kernel) (by decide +kernel) dX0_init_47 (fun q43 => ?_)
  show V _ _ _ _ _ _ _ _ _ _ _ _ _ _ (8, 152) (([(h, .inr (0, [.ref q1, .ref q3, .ref q11, .ref q27, .ref q35, .null, .null, .int (iI 0), .int (iI 0), .int (iI 0)])), (q1, .inl (K 4, 8, .inr (.inr (.inr (.inr (fun _ => none))))))] ++ fd dom36 σ37) ++ [(q43, .inr (9, [.null, .int (iI 0)]))]) _ _ [.ref q43, .ref h]
  refine v_perm (pm1 [(h, .inr (0, [.ref q1, .ref q3, .ref q11, .ref q27, .ref q35, .null, .null, .int (iI 0), .int (iI 0), .int (iI 0)])), (q1, .inl (K 4, 8, .inr (.inr (.inr (.inr (fun _ => none))))))] (fd dom36 σ37) (q43, .inr (9, [.null, .int (iI 0)]))) ?_
  refine v_dup B dX0_init_50 rfl ?_
  refine v_bipush B (v := iI 40) dX0_init_51 (by decide +kernel) ?_
  refine v_callIv B (b := q43) (n := 1) (As := [.int (iI 40)]) (rest := [.ref q43, .ref h]) (wc := (q43, .inr (9, [.null, .int (iI 0)])) :: fd dom36 σ37) (wr := [(h, .inr (0, [.ref q1, .ref q3, .ref q11, .ref q27, .ref q35, .null, .null, .int (iI 0), .int (iI 0), .int (iI 0)])), (q1, .inl (K 4, 8, .inr (.inr (.inr (.inr (fun _ => none))))))]) (k_Row l D K Z39 G40 q43 4 40 (iI 40) (by decide +kernel)) gd_k_Air_k_Row_32 rfl rfl rfl (by decide +kernel) ⟨by decide +kernel, by decide +kernel⟩ (List.mem_of_getElem? (i := 13) rfl) (List.mem_of_getElem? (i := 14) rfl) (List.mem_of_getElem? (i := 15) rfl) rfl (sp_app _ _) rfl rfl (Nat.le_of_ble_eq_true rfl) dX0_init_53 ⟨by decide +kernel, by decide +kernel⟩ (fun u44 hp45 => ?_)
  obtain ⟨dom46, σ47, τ48⟩ := u44
  obtain ⟨Z49, G50, t51, m52⟩ := hp45
  show V _ _ _ _ _ _ _ _ _ _ _ _ _ _ (9, 192) ([(h, .inr (0, [.ref q1, .ref q3, .ref q11, .ref q27, .ref q35, .null, .null, .int (iI 0), .int (iI 0), .int (iI 0)])), (q1, .inl (K 4, 8, .inr (.inr (.inr (.inr (fun _ => none))))))] ++ fd dom46 σ47) _ _ [.ref q43, .ref h]
  refine v_putF B (k0 := 0) (C := RX0) (T := TX0) (N := 10) (ci := 0) hi_k_Air_X0 rfl rfl 5 (by decide +kernel) tyX0 tyX0_ok nmX0 (List.mem_of_getElem? (i := 23) rfl) rfl hnam rfl (ty := .object "LowEnergy$Row") (tyX0_ok 5 (by decide +kernel)) rfl rfl (Nat.le_of_ble_eq_true rfl) (w' := [(h, .inr (0, [.ref q1, .ref q3, .ref q11, .ref q27, .ref q35, .ref q43, .null, .int (iI 0), .int (iI 0), .int (iI 0)])), (q1, .inl (K 4, 8, .inr (.inr (.inr (.inr (fun _ => none))))))] ++ fd dom46 σ47) rfl dX0_init_56 ?_
  refine v_aload_n B dX0_init_59 rfl rfl ?_
  refine v_new B (C := RX9) (T := TX9) (N := 2) (ci := 9) (fs := [.null, .int (iI 0)]) hi_k_Air_X9 tyX9 tyX9_ok (List.mem_of_getElem? (i := 4) rfl) (List.mem_of_getElem? (i := 12) rfl) (List.mem_of_getElem? (i := 13) rfl) rfl (by decide +kernel) (by decide +kernel) (by decide +kernel) dX0_init_60 (fun q53 => ?_)
  show V _ _ _ _ _ _ _ _ _ _ _ _ _ _ (10, 194) (([(h, .inr (0, [.ref q1, .ref q3, .ref q11, .ref q27, .ref q35, .ref q43, .null, .int (iI 0), .int (iI 0), .int (iI 0)])), (q1, .inl (K 4, 8, .inr (.inr (.inr (.inr (fun _ => none))))))] ++ fd dom46 σ47) ++ [(q53, .inr (9, [.null, .int (iI 0)]))]) _ _ [.ref q53, .ref h]
  refine v_perm (pm1 [(h, .inr (0, [.ref q1, .ref q3, .ref q11, .ref q27, .ref q35, .ref q43, .null, .int (iI 0), .int (iI 0), .int (iI 0)])), (q1, .inl (K 4, 8, .inr (.inr (.inr (.inr (fun _ => none))))))] (fd dom46 σ47) (q53, .inr (9, [.null, .int (iI 0)]))) ?_
  refine v_dup B dX0_init_63 rfl ?_
  refine v_bipush B (v := iI 31) dX0_init_64 (by decide +kernel) ?_
  refine v_callIv B (b := q53) (n := 1) (As := [.int (iI 31)]) (rest := [.ref q53, .ref h]) (wc := (q53, .inr (9, [.null, .int (iI 0)])) :: fd dom46 σ47) (wr := [(h, .inr (0, [.ref q1, .ref q3, .ref q11, .ref q27, .ref q35, .ref q43, .null, .int (iI 0), .int (iI 0), .int (iI 0)])), (q1, .inl (K 4, 8, .inr (.inr (.inr (.inr (fun _ => none))))))]) (k_Row l D K Z49 G50 q53 5 31 (iI 31) (by decide +kernel)) gd_k_Air_k_Row_32 rfl rfl rfl (by decide +kernel) ⟨by decide +kernel, by decide +kernel⟩ (List.mem_of_getElem? (i := 13) rfl) (List.mem_of_getElem? (i := 14) rfl) (List.mem_of_getElem? (i := 15) rfl) rfl (sp_app _ _) rfl rfl (Nat.le_of_ble_eq_true rfl) dX0_init_66 ⟨by decide +kernel, by decide +kernel⟩ (fun u54 hp55 => ?_)
  obtain ⟨dom56, σ57, τ58⟩ := u54
  obtain ⟨Z59, G60, t61, m62⟩ := hp55
  show V _ _ _ _ _ _ _ _ _ _ _ _ _ _ (11, 225) ([(h, .inr (0, [.ref q1, .ref q3, .ref q11, .ref q27, .ref q35, .ref q43, .null, .int (iI 0), .int (iI 0), .int (iI 0)])), (q1, .inl (K 4, 8, .inr (.inr (.inr (.inr (fun _ => none))))))] ++ fd dom56 σ57) _ _ [.ref q53, .ref h]
  refine v_putF B (k0 := 0) (C := RX0) (T := TX0) (N := 10) (ci := 0) hi_k_Air_X0 rfl rfl 6 (by decide +kernel) tyX0 tyX0_ok nmX0 (List.mem_of_getElem? (i := 24) rfl) rfl hnam rfl (ty := .object "LowEnergy$Row") (tyX0_ok 6 (by decide +kernel)) rfl rfl (Nat.le_of_ble_eq_true rfl) (w' := [(h, .inr (0, [.ref q1, .ref q3, .ref q11, .ref q27, .ref q35, .ref q43, .ref q53, .int (iI 0), .int (iI 0), .int (iI 0)])), (q1, .inl (K 4, 8, .inr (.inr (.inr (.inr (fun _ => none))))))] ++ fd dom56 σ57) rfl dX0_init_69 ?_
  refine v_iconst B (v := iI 0) dX0_init_72 rfl ?_
  refine v_istore_n B (lv' := [(1, .int (iI 0)), (0, .ref h)]) dX0_init_73 rfl (by decide +kernel) rfl ?_
  refine v_iload_n B dX0_init_74 rfl rfl ?_
  refine v_aload_n B dX0_init_75 rfl rfl ?_
  refine v_get B (k0 := 0) (C := RX0) (T := TX0) (N := 10) (ci := 0) hi_k_Air_X0 rfl rfl 0 (by decide +kernel) (List.mem_of_getElem? (i := 5) rfl) rfl dX0_init_76 ?_
  refine v_alen B (k0 := 1) (t0 := 4) (v := iI 8) rfl rfl (show Int32.ofNat 8 = iI 8 by decide +kernel) dX0_init_79 ?_
  refine v_icmp_ge B (tgt := 104) dX0_init_80 (by decide +kernel) (fun q => absurd q (by decide +kernel)) (fun _ => ?_)
  refine v_aload_n B dX0_init_83 rfl rfl ?_
  refine v_get B (k0 := 0) (C := RX0) (T := TX0) (N := 10) (ci := 0) hi_k_Air_X0 rfl rfl 0 (by decide +kernel) (List.mem_of_getElem? (i := 5) rfl) rfl dX0_init_84 ?_
  refine v_iload_n B dX0_init_87 rfl rfl ?_
  refine v_new B (C := RX9) (T := TX9) (N := 2) (ci := 9) (fs := [.null, .int (iI 0)]) hi_k_Air_X9 tyX9 tyX9_ok (List.mem_of_getElem? (i := 4) rfl) (List.mem_of_getElem? (i := 12) rfl) (List.mem_of_getElem? (i := 13) rfl) rfl (by decide +kernel) (by decide +kernel) (by decide +kernel) dX0_init_88 (fun q63 => ?_)
  show V _ _ _ _ _ _ _ _ _ _ _ _ _ _ (12, 227) (([(h, .inr (0, [.ref q1, .ref q3, .ref q11, .ref q27, .ref q35, .ref q43, .ref q53, .int (iI 0), .int (iI 0), .int (iI 0)])), (q1, .inl (K 4, 8, .inr (.inr (.inr (.inr (fun _ => none))))))] ++ fd dom56 σ57) ++ [(q63, .inr (9, [.null, .int (iI 0)]))]) _ _ [.ref q63, .int (iI 0), .ref q1]
  refine v_perm (pm1 [(h, .inr (0, [.ref q1, .ref q3, .ref q11, .ref q27, .ref q35, .ref q43, .ref q53, .int (iI 0), .int (iI 0), .int (iI 0)])), (q1, .inl (K 4, 8, .inr (.inr (.inr (.inr (fun _ => none))))))] (fd dom56 σ57) (q63, .inr (9, [.null, .int (iI 0)]))) ?_
  refine v_dup B dX0_init_91 rfl ?_
  refine v_bipush B (v := iI 40) dX0_init_92 (by decide +kernel) ?_
  refine v_callIv B (b := q63) (n := 1) (As := [.int (iI 40)]) (rest := [.ref q63, .int (iI 0), .ref q1]) (wc := (q63, .inr (9, [.null, .int (iI 0)])) :: fd dom56 σ57) (wr := [(h, .inr (0, [.ref q1, .ref q3, .ref q11, .ref q27, .ref q35, .ref q43, .ref q53, .int (iI 0), .int (iI 0), .int (iI 0)])), (q1, .inl (K 4, 8, .inr (.inr (.inr (.inr (fun _ => none))))))]) (k_Row l D K Z59 G60 q63 3 40 (iI 40) (by decide +kernel)) gd_k_Air_k_Row_32 rfl rfl rfl (by decide +kernel) ⟨by decide +kernel, by decide +kernel⟩ (List.mem_of_getElem? (i := 13) rfl) (List.mem_of_getElem? (i := 14) rfl) (List.mem_of_getElem? (i := 15) rfl) rfl (sp_app _ _) rfl rfl (Nat.le_of_ble_eq_true rfl) dX0_init_94 ⟨by decide +kernel, by decide +kernel⟩ (fun u64 hp65 => ?_)
  obtain ⟨dom66, σ67, τ68⟩ := u64
  obtain ⟨Z69, G70, t71, m72⟩ := hp65
  show V _ _ _ _ _ _ _ _ _ _ _ _ _ _ (13, 267) ([(h, .inr (0, [.ref q1, .ref q3, .ref q11, .ref q27, .ref q35, .ref q43, .ref q53, .int (iI 0), .int (iI 0), .int (iI 0)])), (q1, .inl (K 4, 8, .inr (.inr (.inr (.inr (fun _ => none))))))] ++ fd dom66 σ67) _ _ [.ref q63, .int (iI 0), .ref q1]
  refine v_aastT B Z69 (E := [(h, .inr (0, [.ref q1, .ref q3, .ref q11, .ref q27, .ref q35, .ref q43, .ref q53, .int (iI 0), .int (iI 0), .int (iI 0)])), (q1, .inl (K 4, 8, .inr (.inr (.inr (.inr (fun _ => none))))))]) (k0 := 1) (t0 := 4) (ci := 9) (rr := (RX9, TX9, 2)) (i := 0) (E' := [(h, .inr (0, [.ref q1, .ref q3, .ref q11, .ref q27, .ref q35, .ref q43, .ref q53, .int (iI 0), .int (iI 0), .int (iI 0)])), (q1, .inl (K 4, 8, .inr (.inr (.inr (.inr (va_up (fun _ => none) 0 (some q63)))))))]) rfl rfl t71 (cls_Row G70 t71) rfl (vpi (by decide +kernel)) (by decide +kernel) rfl dX0_init_97 ?_
  have H74 := rows_step (i := 0) (r := q63) H2 (Sub.tr (Sub.tr (Sub.tr (Sub.tr (Sub.tr (Sub.tr (Sub.tr m10 m19) m26) m34) m42) m52) m62) m72) t71
  generalize va_up (fun _ => none) 0 (some q63) = f73 at H74 ⊢
  show V _ _ _ _ _ _ _ _ _ _ _ _ _ _ (13, 267) ([(h, .inr (0, [.ref q1, .ref q3, .ref q11, .ref q27, .ref q35, .ref q43, .ref q53, .int (iI 0), .int (iI 0), .int (iI 0)])), (q1, .inl (K 4, 8, .inr (.inr (.inr (.inr f73)))))] ++ fd dom66 σ67) _ _ []
  refine v_iinc B (k := 0) (v := iI 1) (lv' := [(1, .int (iI 1)), (0, .ref h)]) dX0_init_98 rfl (by decide +kernel) (by decide +kernel) rfl ?_
  refine v_goto B (tgt := 74) dX0_init_101 (by decide +kernel) ?_
  refine v_iload_n B dX0_init_74 rfl rfl ?_
  refine v_aload_n B dX0_init_75 rfl rfl ?_
  refine v_get B (k0 := 0) (C := RX0) (T := TX0) (N := 10) (ci := 0) hi_k_Air_X0 rfl rfl 0 (by decide +kernel) (List.mem_of_getElem? (i := 5) rfl) rfl dX0_init_76 ?_
  refine v_alen B (k0 := 1) (t0 := 4) (v := iI 8) rfl rfl (show Int32.ofNat 8 = iI 8 by decide +kernel) dX0_init_79 ?_
  refine v_icmp_ge B (tgt := 104) dX0_init_80 (by decide +kernel) (fun q => absurd q (by decide +kernel)) (fun _ => ?_)
  refine v_aload_n B dX0_init_83 rfl rfl ?_
  refine v_get B (k0 := 0) (C := RX0) (T := TX0) (N := 10) (ci := 0) hi_k_Air_X0 rfl rfl 0 (by decide +kernel) (List.mem_of_getElem? (i := 5) rfl) rfl dX0_init_84 ?_
  refine v_iload_n B dX0_init_87 rfl rfl ?_
  refine v_new B (C := RX9) (T := TX9) (N := 2) (ci := 9) (fs := [.null, .int (iI 0)]) hi_k_Air_X9 tyX9 tyX9_ok (List.mem_of_getElem? (i := 4) rfl) (List.mem_of_getElem? (i := 12) rfl) (List.mem_of_getElem? (i := 13) rfl) rfl (by decide +kernel) (by decide +kernel) (by decide +kernel) dX0_init_88 (fun q75 => ?_)
  show V _ _ _ _ _ _ _ _ _ _ _ _ _ _ (14, 269) (([(h, .inr (0, [.ref q1, .ref q3, .ref q11, .ref q27, .ref q35, .ref q43, .ref q53, .int (iI 0), .int (iI 0), .int (iI 0)])), (q1, .inl (K 4, 8, .inr (.inr (.inr (.inr f73)))))] ++ fd dom66 σ67) ++ [(q75, .inr (9, [.null, .int (iI 0)]))]) _ _ [.ref q75, .int (iI 1), .ref q1]
  refine v_perm (pm1 [(h, .inr (0, [.ref q1, .ref q3, .ref q11, .ref q27, .ref q35, .ref q43, .ref q53, .int (iI 0), .int (iI 0), .int (iI 0)])), (q1, .inl (K 4, 8, .inr (.inr (.inr (.inr f73)))))] (fd dom66 σ67) (q75, .inr (9, [.null, .int (iI 0)]))) ?_
  refine v_dup B dX0_init_91 rfl ?_
  refine v_bipush B (v := iI 40) dX0_init_92 (by decide +kernel) ?_
  refine v_callIv B (b := q75) (n := 1) (As := [.int (iI 40)]) (rest := [.ref q75, .int (iI 1), .ref q1]) (wc := (q75, .inr (9, [.null, .int (iI 0)])) :: fd dom66 σ67) (wr := [(h, .inr (0, [.ref q1, .ref q3, .ref q11, .ref q27, .ref q35, .ref q43, .ref q53, .int (iI 0), .int (iI 0), .int (iI 0)])), (q1, .inl (K 4, 8, .inr (.inr (.inr (.inr f73)))))]) (k_Row l D K Z69 G70 q75 3 40 (iI 40) (by decide +kernel)) gd_k_Air_k_Row_32 rfl rfl rfl (by decide +kernel) ⟨by decide +kernel, by decide +kernel⟩ (List.mem_of_getElem? (i := 13) rfl) (List.mem_of_getElem? (i := 14) rfl) (List.mem_of_getElem? (i := 15) rfl) rfl (sp_app _ _) rfl rfl (Nat.le_of_ble_eq_true rfl) dX0_init_94 ⟨by decide +kernel, by decide +kernel⟩ (fun u76 hp77 => ?_)
  obtain ⟨dom78, σ79, τ80⟩ := u76
  obtain ⟨Z81, G82, t83, m84⟩ := hp77
  show V _ _ _ _ _ _ _ _ _ _ _ _ _ _ (15, 309) ([(h, .inr (0, [.ref q1, .ref q3, .ref q11, .ref q27, .ref q35, .ref q43, .ref q53, .int (iI 0), .int (iI 0), .int (iI 0)])), (q1, .inl (K 4, 8, .inr (.inr (.inr (.inr f73)))))] ++ fd dom78 σ79) _ _ [.ref q75, .int (iI 1), .ref q1]
  refine v_aastT B Z81 (E := [(h, .inr (0, [.ref q1, .ref q3, .ref q11, .ref q27, .ref q35, .ref q43, .ref q53, .int (iI 0), .int (iI 0), .int (iI 0)])), (q1, .inl (K 4, 8, .inr (.inr (.inr (.inr f73)))))]) (k0 := 1) (t0 := 4) (ci := 9) (rr := (RX9, TX9, 2)) (i := 1) (E' := [(h, .inr (0, [.ref q1, .ref q3, .ref q11, .ref q27, .ref q35, .ref q43, .ref q53, .int (iI 0), .int (iI 0), .int (iI 0)])), (q1, .inl (K 4, 8, .inr (.inr (.inr (.inr (va_up f73 1 (some q75)))))))]) rfl rfl t83 (cls_Row G82 t83) rfl (vpi (by decide +kernel)) (by decide +kernel) rfl dX0_init_97 ?_
  have H86 := rows_step (i := 1) (r := q75) H74 m84 t83
  generalize va_up f73 1 (some q75) = f85 at H86 ⊢
  show V _ _ _ _ _ _ _ _ _ _ _ _ _ _ (15, 309) ([(h, .inr (0, [.ref q1, .ref q3, .ref q11, .ref q27, .ref q35, .ref q43, .ref q53, .int (iI 0), .int (iI 0), .int (iI 0)])), (q1, .inl (K 4, 8, .inr (.inr (.inr (.inr f85)))))] ++ fd dom78 σ79) _ _ []
  refine v_iinc B (k := 0) (v := iI 2) (lv' := [(1, .int (iI 2)), (0, .ref h)]) dX0_init_98 rfl (by decide +kernel) (by decide +kernel) rfl ?_
  refine v_goto B (tgt := 74) dX0_init_101 (by decide +kernel) ?_
  refine v_iload_n B dX0_init_74 rfl rfl ?_
  refine v_aload_n B dX0_init_75 rfl rfl ?_
  refine v_get B (k0 := 0) (C := RX0) (T := TX0) (N := 10) (ci := 0) hi_k_Air_X0 rfl rfl 0 (by decide +kernel) (List.mem_of_getElem? (i := 5) rfl) rfl dX0_init_76 ?_
  refine v_alen B (k0 := 1) (t0 := 4) (v := iI 8) rfl rfl (show Int32.ofNat 8 = iI 8 by decide +kernel) dX0_init_79 ?_
  refine v_icmp_ge B (tgt := 104) dX0_init_80 (by decide +kernel) (fun q => absurd q (by decide +kernel)) (fun _ => ?_)
  refine v_aload_n B dX0_init_83 rfl rfl ?_
  refine v_get B (k0 := 0) (C := RX0) (T := TX0) (N := 10) (ci := 0) hi_k_Air_X0 rfl rfl 0 (by decide +kernel) (List.mem_of_getElem? (i := 5) rfl) rfl dX0_init_84 ?_
  refine v_iload_n B dX0_init_87 rfl rfl ?_
  refine v_new B (C := RX9) (T := TX9) (N := 2) (ci := 9) (fs := [.null, .int (iI 0)]) hi_k_Air_X9 tyX9 tyX9_ok (List.mem_of_getElem? (i := 4) rfl) (List.mem_of_getElem? (i := 12) rfl) (List.mem_of_getElem? (i := 13) rfl) rfl (by decide +kernel) (by decide +kernel) (by decide +kernel) dX0_init_88 (fun q87 => ?_)
  show V _ _ _ _ _ _ _ _ _ _ _ _ _ _ (16, 311) (([(h, .inr (0, [.ref q1, .ref q3, .ref q11, .ref q27, .ref q35, .ref q43, .ref q53, .int (iI 0), .int (iI 0), .int (iI 0)])), (q1, .inl (K 4, 8, .inr (.inr (.inr (.inr f85)))))] ++ fd dom78 σ79) ++ [(q87, .inr (9, [.null, .int (iI 0)]))]) _ _ [.ref q87, .int (iI 2), .ref q1]
  refine v_perm (pm1 [(h, .inr (0, [.ref q1, .ref q3, .ref q11, .ref q27, .ref q35, .ref q43, .ref q53, .int (iI 0), .int (iI 0), .int (iI 0)])), (q1, .inl (K 4, 8, .inr (.inr (.inr (.inr f85)))))] (fd dom78 σ79) (q87, .inr (9, [.null, .int (iI 0)]))) ?_
  refine v_dup B dX0_init_91 rfl ?_
  refine v_bipush B (v := iI 40) dX0_init_92 (by decide +kernel) ?_
  refine v_callIv B (b := q87) (n := 1) (As := [.int (iI 40)]) (rest := [.ref q87, .int (iI 2), .ref q1]) (wc := (q87, .inr (9, [.null, .int (iI 0)])) :: fd dom78 σ79) (wr := [(h, .inr (0, [.ref q1, .ref q3, .ref q11, .ref q27, .ref q35, .ref q43, .ref q53, .int (iI 0), .int (iI 0), .int (iI 0)])), (q1, .inl (K 4, 8, .inr (.inr (.inr (.inr f85)))))]) (k_Row l D K Z81 G82 q87 3 40 (iI 40) (by decide +kernel)) gd_k_Air_k_Row_32 rfl rfl rfl (by decide +kernel) ⟨by decide +kernel, by decide +kernel⟩ (List.mem_of_getElem? (i := 13) rfl) (List.mem_of_getElem? (i := 14) rfl) (List.mem_of_getElem? (i := 15) rfl) rfl (sp_app _ _) rfl rfl (Nat.le_of_ble_eq_true rfl) dX0_init_94 ⟨by decide +kernel, by decide +kernel⟩ (fun u88 hp89 => ?_)
  obtain ⟨dom90, σ91, τ92⟩ := u88
  obtain ⟨Z93, G94, t95, m96⟩ := hp89
  show V _ _ _ _ _ _ _ _ _ _ _ _ _ _ (17, 351) ([(h, .inr (0, [.ref q1, .ref q3, .ref q11, .ref q27, .ref q35, .ref q43, .ref q53, .int (iI 0), .int (iI 0), .int (iI 0)])), (q1, .inl (K 4, 8, .inr (.inr (.inr (.inr f85)))))] ++ fd dom90 σ91) _ _ [.ref q87, .int (iI 2), .ref q1]
  refine v_aastT B Z93 (E := [(h, .inr (0, [.ref q1, .ref q3, .ref q11, .ref q27, .ref q35, .ref q43, .ref q53, .int (iI 0), .int (iI 0), .int (iI 0)])), (q1, .inl (K 4, 8, .inr (.inr (.inr (.inr f85)))))]) (k0 := 1) (t0 := 4) (ci := 9) (rr := (RX9, TX9, 2)) (i := 2) (E' := [(h, .inr (0, [.ref q1, .ref q3, .ref q11, .ref q27, .ref q35, .ref q43, .ref q53, .int (iI 0), .int (iI 0), .int (iI 0)])), (q1, .inl (K 4, 8, .inr (.inr (.inr (.inr (va_up f85 2 (some q87)))))))]) rfl rfl t95 (cls_Row G94 t95) rfl (vpi (by decide +kernel)) (by decide +kernel) rfl dX0_init_97 ?_
  have H98 := rows_step (i := 2) (r := q87) H86 m96 t95
  generalize va_up f85 2 (some q87) = f97 at H98 ⊢
  show V _ _ _ _ _ _ _ _ _ _ _ _ _ _ (17, 351) ([(h, .inr (0, [.ref q1, .ref q3, .ref q11, .ref q27, .ref q35, .ref q43, .ref q53, .int (iI 0), .int (iI 0), .int (iI 0)])), (q1, .inl (K 4, 8, .inr (.inr (.inr (.inr f97)))))] ++ fd dom90 σ91) _ _ []
  refine v_iinc B (k := 0) (v := iI 3) (lv' := [(1, .int (iI 3)), (0, .ref h)]) dX0_init_98 rfl (by decide +kernel) (by decide +kernel) rfl ?_
  refine v_goto B (tgt := 74) dX0_init_101 (by decide +kernel) ?_
  refine v_iload_n B dX0_init_74 rfl rfl ?_
  refine v_aload_n B dX0_init_75 rfl rfl ?_
  refine v_get B (k0 := 0) (C := RX0) (T := TX0) (N := 10) (ci := 0) hi_k_Air_X0 rfl rfl 0 (by decide +kernel) (List.mem_of_getElem? (i := 5) rfl) rfl dX0_init_76 ?_
  refine v_alen B (k0 := 1) (t0 := 4) (v := iI 8) rfl rfl (show Int32.ofNat 8 = iI 8 by decide +kernel) dX0_init_79 ?_
  refine v_icmp_ge B (tgt := 104) dX0_init_80 (by decide +kernel) (fun q => absurd q (by decide +kernel)) (fun _ => ?_)
  refine v_aload_n B dX0_init_83 rfl rfl ?_
  refine v_get B (k0 := 0) (C := RX0) (T := TX0) (N := 10) (ci := 0) hi_k_Air_X0 rfl rfl 0 (by decide +kernel) (List.mem_of_getElem? (i := 5) rfl) rfl dX0_init_84 ?_
  refine v_iload_n B dX0_init_87 rfl rfl ?_
  refine v_new B (C := RX9) (T := TX9) (N := 2) (ci := 9) (fs := [.null, .int (iI 0)]) hi_k_Air_X9 tyX9 tyX9_ok (List.mem_of_getElem? (i := 4) rfl) (List.mem_of_getElem? (i := 12) rfl) (List.mem_of_getElem? (i := 13) rfl) rfl (by decide +kernel) (by decide +kernel) (by decide +kernel) dX0_init_88 (fun q99 => ?_)
  show V _ _ _ _ _ _ _ _ _ _ _ _ _ _ (18, 353) (([(h, .inr (0, [.ref q1, .ref q3, .ref q11, .ref q27, .ref q35, .ref q43, .ref q53, .int (iI 0), .int (iI 0), .int (iI 0)])), (q1, .inl (K 4, 8, .inr (.inr (.inr (.inr f97)))))] ++ fd dom90 σ91) ++ [(q99, .inr (9, [.null, .int (iI 0)]))]) _ _ [.ref q99, .int (iI 3), .ref q1]
  refine v_perm (pm1 [(h, .inr (0, [.ref q1, .ref q3, .ref q11, .ref q27, .ref q35, .ref q43, .ref q53, .int (iI 0), .int (iI 0), .int (iI 0)])), (q1, .inl (K 4, 8, .inr (.inr (.inr (.inr f97)))))] (fd dom90 σ91) (q99, .inr (9, [.null, .int (iI 0)]))) ?_
  refine v_dup B dX0_init_91 rfl ?_
  refine v_bipush B (v := iI 40) dX0_init_92 (by decide +kernel) ?_
  refine v_callIv B (b := q99) (n := 1) (As := [.int (iI 40)]) (rest := [.ref q99, .int (iI 3), .ref q1]) (wc := (q99, .inr (9, [.null, .int (iI 0)])) :: fd dom90 σ91) (wr := [(h, .inr (0, [.ref q1, .ref q3, .ref q11, .ref q27, .ref q35, .ref q43, .ref q53, .int (iI 0), .int (iI 0), .int (iI 0)])), (q1, .inl (K 4, 8, .inr (.inr (.inr (.inr f97)))))]) (k_Row l D K Z93 G94 q99 3 40 (iI 40) (by decide +kernel)) gd_k_Air_k_Row_32 rfl rfl rfl (by decide +kernel) ⟨by decide +kernel, by decide +kernel⟩ (List.mem_of_getElem? (i := 13) rfl) (List.mem_of_getElem? (i := 14) rfl) (List.mem_of_getElem? (i := 15) rfl) rfl (sp_app _ _) rfl rfl (Nat.le_of_ble_eq_true rfl) dX0_init_94 ⟨by decide +kernel, by decide +kernel⟩ (fun u100 hp101 => ?_)
  obtain ⟨dom102, σ103, τ104⟩ := u100
  obtain ⟨Z105, G106, t107, m108⟩ := hp101
  show V _ _ _ _ _ _ _ _ _ _ _ _ _ _ (19, 393) ([(h, .inr (0, [.ref q1, .ref q3, .ref q11, .ref q27, .ref q35, .ref q43, .ref q53, .int (iI 0), .int (iI 0), .int (iI 0)])), (q1, .inl (K 4, 8, .inr (.inr (.inr (.inr f97)))))] ++ fd dom102 σ103) _ _ [.ref q99, .int (iI 3), .ref q1]
  refine v_aastT B Z105 (E := [(h, .inr (0, [.ref q1, .ref q3, .ref q11, .ref q27, .ref q35, .ref q43, .ref q53, .int (iI 0), .int (iI 0), .int (iI 0)])), (q1, .inl (K 4, 8, .inr (.inr (.inr (.inr f97)))))]) (k0 := 1) (t0 := 4) (ci := 9) (rr := (RX9, TX9, 2)) (i := 3) (E' := [(h, .inr (0, [.ref q1, .ref q3, .ref q11, .ref q27, .ref q35, .ref q43, .ref q53, .int (iI 0), .int (iI 0), .int (iI 0)])), (q1, .inl (K 4, 8, .inr (.inr (.inr (.inr (va_up f97 3 (some q99)))))))]) rfl rfl t107 (cls_Row G106 t107) rfl (vpi (by decide +kernel)) (by decide +kernel) rfl dX0_init_97 ?_
  have H110 := rows_step (i := 3) (r := q99) H98 m108 t107
  generalize va_up f97 3 (some q99) = f109 at H110 ⊢
  show V _ _ _ _ _ _ _ _ _ _ _ _ _ _ (19, 393) ([(h, .inr (0, [.ref q1, .ref q3, .ref q11, .ref q27, .ref q35, .ref q43, .ref q53, .int (iI 0), .int (iI 0), .int (iI 0)])), (q1, .inl (K 4, 8, .inr (.inr (.inr (.inr f109)))))] ++ fd dom102 σ103) _ _ []
  refine v_iinc B (k := 0) (v := iI 4) (lv' := [(1, .int (iI 4)), (0, .ref h)]) dX0_init_98 rfl (by decide +kernel) (by decide +kernel) rfl ?_
  refine v_goto B (tgt := 74) dX0_init_101 (by decide +kernel) ?_
  refine v_iload_n B dX0_init_74 rfl rfl ?_
  refine v_aload_n B dX0_init_75 rfl rfl ?_
  refine v_get B (k0 := 0) (C := RX0) (T := TX0) (N := 10) (ci := 0) hi_k_Air_X0 rfl rfl 0 (by decide +kernel) (List.mem_of_getElem? (i := 5) rfl) rfl dX0_init_76 ?_
  refine v_alen B (k0 := 1) (t0 := 4) (v := iI 8) rfl rfl (show Int32.ofNat 8 = iI 8 by decide +kernel) dX0_init_79 ?_
  refine v_icmp_ge B (tgt := 104) dX0_init_80 (by decide +kernel) (fun q => absurd q (by decide +kernel)) (fun _ => ?_)
  refine v_aload_n B dX0_init_83 rfl rfl ?_
  refine v_get B (k0 := 0) (C := RX0) (T := TX0) (N := 10) (ci := 0) hi_k_Air_X0 rfl rfl 0 (by decide +kernel) (List.mem_of_getElem? (i := 5) rfl) rfl dX0_init_84 ?_
  refine v_iload_n B dX0_init_87 rfl rfl ?_
  refine v_new B (C := RX9) (T := TX9) (N := 2) (ci := 9) (fs := [.null, .int (iI 0)]) hi_k_Air_X9 tyX9 tyX9_ok (List.mem_of_getElem? (i := 4) rfl) (List.mem_of_getElem? (i := 12) rfl) (List.mem_of_getElem? (i := 13) rfl) rfl (by decide +kernel) (by decide +kernel) (by decide +kernel) dX0_init_88 (fun q111 => ?_)
  show V _ _ _ _ _ _ _ _ _ _ _ _ _ _ (20, 395) (([(h, .inr (0, [.ref q1, .ref q3, .ref q11, .ref q27, .ref q35, .ref q43, .ref q53, .int (iI 0), .int (iI 0), .int (iI 0)])), (q1, .inl (K 4, 8, .inr (.inr (.inr (.inr f109)))))] ++ fd dom102 σ103) ++ [(q111, .inr (9, [.null, .int (iI 0)]))]) _ _ [.ref q111, .int (iI 4), .ref q1]
  refine v_perm (pm1 [(h, .inr (0, [.ref q1, .ref q3, .ref q11, .ref q27, .ref q35, .ref q43, .ref q53, .int (iI 0), .int (iI 0), .int (iI 0)])), (q1, .inl (K 4, 8, .inr (.inr (.inr (.inr f109)))))] (fd dom102 σ103) (q111, .inr (9, [.null, .int (iI 0)]))) ?_
  refine v_dup B dX0_init_91 rfl ?_
  refine v_bipush B (v := iI 40) dX0_init_92 (by decide +kernel) ?_
  refine v_callIv B (b := q111) (n := 1) (As := [.int (iI 40)]) (rest := [.ref q111, .int (iI 4), .ref q1]) (wc := (q111, .inr (9, [.null, .int (iI 0)])) :: fd dom102 σ103) (wr := [(h, .inr (0, [.ref q1, .ref q3, .ref q11, .ref q27, .ref q35, .ref q43, .ref q53, .int (iI 0), .int (iI 0), .int (iI 0)])), (q1, .inl (K 4, 8, .inr (.inr (.inr (.inr f109)))))]) (k_Row l D K Z105 G106 q111 3 40 (iI 40) (by decide +kernel)) gd_k_Air_k_Row_32 rfl rfl rfl (by decide +kernel) ⟨by decide +kernel, by decide +kernel⟩ (List.mem_of_getElem? (i := 13) rfl) (List.mem_of_getElem? (i := 14) rfl) (List.mem_of_getElem? (i := 15) rfl) rfl (sp_app _ _) rfl rfl (Nat.le_of_ble_eq_true rfl) dX0_init_94 ⟨by decide +kernel, by decide +kernel⟩ (fun u112 hp113 => ?_)
  obtain ⟨dom114, σ115, τ116⟩ := u112
  obtain ⟨Z117, G118, t119, m120⟩ := hp113
  show V _ _ _ _ _ _ _ _ _ _ _ _ _ _ (21, 435) ([(h, .inr (0, [.ref q1, .ref q3, .ref q11, .ref q27, .ref q35, .ref q43, .ref q53, .int (iI 0), .int (iI 0), .int (iI 0)])), (q1, .inl (K 4, 8, .inr (.inr (.inr (.inr f109)))))] ++ fd dom114 σ115) _ _ [.ref q111, .int (iI 4), .ref q1]
  refine v_aastT B Z117 (E := [(h, .inr (0, [.ref q1, .ref q3, .ref q11, .ref q27, .ref q35, .ref q43, .ref q53, .int (iI 0), .int (iI 0), .int (iI 0)])), (q1, .inl (K 4, 8, .inr (.inr (.inr (.inr f109)))))]) (k0 := 1) (t0 := 4) (ci := 9) (rr := (RX9, TX9, 2)) (i := 4) (E' := [(h, .inr (0, [.ref q1, .ref q3, .ref q11, .ref q27, .ref q35, .ref q43, .ref q53, .int (iI 0), .int (iI 0), .int (iI 0)])), (q1, .inl (K 4, 8, .inr (.inr (.inr (.inr (va_up f109 4 (some q111)))))))]) rfl rfl t119 (cls_Row G118 t119) rfl (vpi (by decide +kernel)) (by decide +kernel) rfl dX0_init_97 ?_
  have H122 := rows_step (i := 4) (r := q111) H110 m120 t119
  generalize va_up f109 4 (some q111) = f121 at H122 ⊢
  show V _ _ _ _ _ _ _ _ _ _ _ _ _ _ (21, 435) ([(h, .inr (0, [.ref q1, .ref q3, .ref q11, .ref q27, .ref q35, .ref q43, .ref q53, .int (iI 0), .int (iI 0), .int (iI 0)])), (q1, .inl (K 4, 8, .inr (.inr (.inr (.inr f121)))))] ++ fd dom114 σ115) _ _ []
  refine v_iinc B (k := 0) (v := iI 5) (lv' := [(1, .int (iI 5)), (0, .ref h)]) dX0_init_98 rfl (by decide +kernel) (by decide +kernel) rfl ?_
  refine v_goto B (tgt := 74) dX0_init_101 (by decide +kernel) ?_
  refine v_iload_n B dX0_init_74 rfl rfl ?_
  refine v_aload_n B dX0_init_75 rfl rfl ?_
  refine v_get B (k0 := 0) (C := RX0) (T := TX0) (N := 10) (ci := 0) hi_k_Air_X0 rfl rfl 0 (by decide +kernel) (List.mem_of_getElem? (i := 5) rfl) rfl dX0_init_76 ?_
  refine v_alen B (k0 := 1) (t0 := 4) (v := iI 8) rfl rfl (show Int32.ofNat 8 = iI 8 by decide +kernel) dX0_init_79 ?_
  refine v_icmp_ge B (tgt := 104) dX0_init_80 (by decide +kernel) (fun q => absurd q (by decide +kernel)) (fun _ => ?_)
  refine v_aload_n B dX0_init_83 rfl rfl ?_
  refine v_get B (k0 := 0) (C := RX0) (T := TX0) (N := 10) (ci := 0) hi_k_Air_X0 rfl rfl 0 (by decide +kernel) (List.mem_of_getElem? (i := 5) rfl) rfl dX0_init_84 ?_
  refine v_iload_n B dX0_init_87 rfl rfl ?_
  refine v_new B (C := RX9) (T := TX9) (N := 2) (ci := 9) (fs := [.null, .int (iI 0)]) hi_k_Air_X9 tyX9 tyX9_ok (List.mem_of_getElem? (i := 4) rfl) (List.mem_of_getElem? (i := 12) rfl) (List.mem_of_getElem? (i := 13) rfl) rfl (by decide +kernel) (by decide +kernel) (by decide +kernel) dX0_init_88 (fun q123 => ?_)
  show V _ _ _ _ _ _ _ _ _ _ _ _ _ _ (22, 437) (([(h, .inr (0, [.ref q1, .ref q3, .ref q11, .ref q27, .ref q35, .ref q43, .ref q53, .int (iI 0), .int (iI 0), .int (iI 0)])), (q1, .inl (K 4, 8, .inr (.inr (.inr (.inr f121)))))] ++ fd dom114 σ115) ++ [(q123, .inr (9, [.null, .int (iI 0)]))]) _ _ [.ref q123, .int (iI 5), .ref q1]
  refine v_perm (pm1 [(h, .inr (0, [.ref q1, .ref q3, .ref q11, .ref q27, .ref q35, .ref q43, .ref q53, .int (iI 0), .int (iI 0), .int (iI 0)])), (q1, .inl (K 4, 8, .inr (.inr (.inr (.inr f121)))))] (fd dom114 σ115) (q123, .inr (9, [.null, .int (iI 0)]))) ?_
  refine v_dup B dX0_init_91 rfl ?_
  refine v_bipush B (v := iI 40) dX0_init_92 (by decide +kernel) ?_
  refine v_callIv B (b := q123) (n := 1) (As := [.int (iI 40)]) (rest := [.ref q123, .int (iI 5), .ref q1]) (wc := (q123, .inr (9, [.null, .int (iI 0)])) :: fd dom114 σ115) (wr := [(h, .inr (0, [.ref q1, .ref q3, .ref q11, .ref q27, .ref q35, .ref q43, .ref q53, .int (iI 0), .int (iI 0), .int (iI 0)])), (q1, .inl (K 4, 8, .inr (.inr (.inr (.inr f121)))))]) (k_Row l D K Z117 G118 q123 3 40 (iI 40) (by decide +kernel)) gd_k_Air_k_Row_32 rfl rfl rfl (by decide +kernel) ⟨by decide +kernel, by decide +kernel⟩ (List.mem_of_getElem? (i := 13) rfl) (List.mem_of_getElem? (i := 14) rfl) (List.mem_of_getElem? (i := 15) rfl) rfl (sp_app _ _) rfl rfl (Nat.le_of_ble_eq_true rfl) dX0_init_94 ⟨by decide +kernel, by decide +kernel⟩ (fun u124 hp125 => ?_)
  obtain ⟨dom126, σ127, τ128⟩ := u124
  obtain ⟨Z129, G130, t131, m132⟩ := hp125
  show V _ _ _ _ _ _ _ _ _ _ _ _ _ _ (23, 477) ([(h, .inr (0, [.ref q1, .ref q3, .ref q11, .ref q27, .ref q35, .ref q43, .ref q53, .int (iI 0), .int (iI 0), .int (iI 0)])), (q1, .inl (K 4, 8, .inr (.inr (.inr (.inr f121)))))] ++ fd dom126 σ127) _ _ [.ref q123, .int (iI 5), .ref q1]
  refine v_aastT B Z129 (E := [(h, .inr (0, [.ref q1, .ref q3, .ref q11, .ref q27, .ref q35, .ref q43, .ref q53, .int (iI 0), .int (iI 0), .int (iI 0)])), (q1, .inl (K 4, 8, .inr (.inr (.inr (.inr f121)))))]) (k0 := 1) (t0 := 4) (ci := 9) (rr := (RX9, TX9, 2)) (i := 5) (E' := [(h, .inr (0, [.ref q1, .ref q3, .ref q11, .ref q27, .ref q35, .ref q43, .ref q53, .int (iI 0), .int (iI 0), .int (iI 0)])), (q1, .inl (K 4, 8, .inr (.inr (.inr (.inr (va_up f121 5 (some q123)))))))]) rfl rfl t131 (cls_Row G130 t131) rfl (vpi (by decide +kernel)) (by decide +kernel) rfl dX0_init_97 ?_
  have H134 := rows_step (i := 5) (r := q123) H122 m132 t131
  generalize va_up f121 5 (some q123) = f133 at H134 ⊢
  show V _ _ _ _ _ _ _ _ _ _ _ _ _ _ (23, 477) ([(h, .inr (0, [.ref q1, .ref q3, .ref q11, .ref q27, .ref q35, .ref q43, .ref q53, .int (iI 0), .int (iI 0), .int (iI 0)])), (q1, .inl (K 4, 8, .inr (.inr (.inr (.inr f133)))))] ++ fd dom126 σ127) _ _ []
  refine v_iinc B (k := 0) (v := iI 6) (lv' := [(1, .int (iI 6)), (0, .ref h)]) dX0_init_98 rfl (by decide +kernel) (by decide +kernel) rfl ?_
  refine v_goto B (tgt := 74) dX0_init_101 (by decide +kernel) ?_
  refine v_iload_n B dX0_init_74 rfl rfl ?_
  refine v_aload_n B dX0_init_75 rfl rfl ?_
  refine v_get B (k0 := 0) (C := RX0) (T := TX0) (N := 10) (ci := 0) hi_k_Air_X0 rfl rfl 0 (by decide +kernel) (List.mem_of_getElem? (i := 5) rfl) rfl dX0_init_76 ?_
  refine v_alen B (k0 := 1) (t0 := 4) (v := iI 8) rfl rfl (show Int32.ofNat 8 = iI 8 by decide +kernel) dX0_init_79 ?_
  refine v_icmp_ge B (tgt := 104) dX0_init_80 (by decide +kernel) (fun q => absurd q (by decide +kernel)) (fun _ => ?_)
  refine v_aload_n B dX0_init_83 rfl rfl ?_
  refine v_get B (k0 := 0) (C := RX0) (T := TX0) (N := 10) (ci := 0) hi_k_Air_X0 rfl rfl 0 (by decide +kernel) (List.mem_of_getElem? (i := 5) rfl) rfl dX0_init_84 ?_
  refine v_iload_n B dX0_init_87 rfl rfl ?_
  refine v_new B (C := RX9) (T := TX9) (N := 2) (ci := 9) (fs := [.null, .int (iI 0)]) hi_k_Air_X9 tyX9 tyX9_ok (List.mem_of_getElem? (i := 4) rfl) (List.mem_of_getElem? (i := 12) rfl) (List.mem_of_getElem? (i := 13) rfl) rfl (by decide +kernel) (by decide +kernel) (by decide +kernel) dX0_init_88 (fun q135 => ?_)
  show V _ _ _ _ _ _ _ _ _ _ _ _ _ _ (24, 479) (([(h, .inr (0, [.ref q1, .ref q3, .ref q11, .ref q27, .ref q35, .ref q43, .ref q53, .int (iI 0), .int (iI 0), .int (iI 0)])), (q1, .inl (K 4, 8, .inr (.inr (.inr (.inr f133)))))] ++ fd dom126 σ127) ++ [(q135, .inr (9, [.null, .int (iI 0)]))]) _ _ [.ref q135, .int (iI 6), .ref q1]
  refine v_perm (pm1 [(h, .inr (0, [.ref q1, .ref q3, .ref q11, .ref q27, .ref q35, .ref q43, .ref q53, .int (iI 0), .int (iI 0), .int (iI 0)])), (q1, .inl (K 4, 8, .inr (.inr (.inr (.inr f133)))))] (fd dom126 σ127) (q135, .inr (9, [.null, .int (iI 0)]))) ?_
  refine v_dup B dX0_init_91 rfl ?_
  refine v_bipush B (v := iI 40) dX0_init_92 (by decide +kernel) ?_
  refine v_callIv B (b := q135) (n := 1) (As := [.int (iI 40)]) (rest := [.ref q135, .int (iI 6), .ref q1]) (wc := (q135, .inr (9, [.null, .int (iI 0)])) :: fd dom126 σ127) (wr := [(h, .inr (0, [.ref q1, .ref q3, .ref q11, .ref q27, .ref q35, .ref q43, .ref q53, .int (iI 0), .int (iI 0), .int (iI 0)])), (q1, .inl (K 4, 8, .inr (.inr (.inr (.inr f133)))))]) (k_Row l D K Z129 G130 q135 3 40 (iI 40) (by decide +kernel)) gd_k_Air_k_Row_32 rfl rfl rfl (by decide +kernel) ⟨by decide +kernel, by decide +kernel⟩ (List.mem_of_getElem? (i := 13) rfl) (List.mem_of_getElem? (i := 14) rfl) (List.mem_of_getElem? (i := 15) rfl) rfl (sp_app _ _) rfl rfl (Nat.le_of_ble_eq_true rfl) dX0_init_94 ⟨by decide +kernel, by decide +kernel⟩ (fun u136 hp137 => ?_)
  obtain ⟨dom138, σ139, τ140⟩ := u136
  obtain ⟨Z141, G142, t143, m144⟩ := hp137
  show V _ _ _ _ _ _ _ _ _ _ _ _ _ _ (25, 519) ([(h, .inr (0, [.ref q1, .ref q3, .ref q11, .ref q27, .ref q35, .ref q43, .ref q53, .int (iI 0), .int (iI 0), .int (iI 0)])), (q1, .inl (K 4, 8, .inr (.inr (.inr (.inr f133)))))] ++ fd dom138 σ139) _ _ [.ref q135, .int (iI 6), .ref q1]
  refine v_aastT B Z141 (E := [(h, .inr (0, [.ref q1, .ref q3, .ref q11, .ref q27, .ref q35, .ref q43, .ref q53, .int (iI 0), .int (iI 0), .int (iI 0)])), (q1, .inl (K 4, 8, .inr (.inr (.inr (.inr f133)))))]) (k0 := 1) (t0 := 4) (ci := 9) (rr := (RX9, TX9, 2)) (i := 6) (E' := [(h, .inr (0, [.ref q1, .ref q3, .ref q11, .ref q27, .ref q35, .ref q43, .ref q53, .int (iI 0), .int (iI 0), .int (iI 0)])), (q1, .inl (K 4, 8, .inr (.inr (.inr (.inr (va_up f133 6 (some q135)))))))]) rfl rfl t143 (cls_Row G142 t143) rfl (vpi (by decide +kernel)) (by decide +kernel) rfl dX0_init_97 ?_
  have H146 := rows_step (i := 6) (r := q135) H134 m144 t143
  generalize va_up f133 6 (some q135) = f145 at H146 ⊢
  show V _ _ _ _ _ _ _ _ _ _ _ _ _ _ (25, 519) ([(h, .inr (0, [.ref q1, .ref q3, .ref q11, .ref q27, .ref q35, .ref q43, .ref q53, .int (iI 0), .int (iI 0), .int (iI 0)])), (q1, .inl (K 4, 8, .inr (.inr (.inr (.inr f145)))))] ++ fd dom138 σ139) _ _ []
  refine v_iinc B (k := 0) (v := iI 7) (lv' := [(1, .int (iI 7)), (0, .ref h)]) dX0_init_98 rfl (by decide +kernel) (by decide +kernel) rfl ?_
  refine v_goto B (tgt := 74) dX0_init_101 (by decide +kernel) ?_
  refine v_iload_n B dX0_init_74 rfl rfl ?_
  refine v_aload_n B dX0_init_75 rfl rfl ?_
  refine v_get B (k0 := 0) (C := RX0) (T := TX0) (N := 10) (ci := 0) hi_k_Air_X0 rfl rfl 0 (by decide +kernel) (List.mem_of_getElem? (i := 5) rfl) rfl dX0_init_76 ?_
  refine v_alen B (k0 := 1) (t0 := 4) (v := iI 8) rfl rfl (show Int32.ofNat 8 = iI 8 by decide +kernel) dX0_init_79 ?_
  refine v_icmp_ge B (tgt := 104) dX0_init_80 (by decide +kernel) (fun q => absurd q (by decide +kernel)) (fun _ => ?_)
  refine v_aload_n B dX0_init_83 rfl rfl ?_
  refine v_get B (k0 := 0) (C := RX0) (T := TX0) (N := 10) (ci := 0) hi_k_Air_X0 rfl rfl 0 (by decide +kernel) (List.mem_of_getElem? (i := 5) rfl) rfl dX0_init_84 ?_
  refine v_iload_n B dX0_init_87 rfl rfl ?_
  refine v_new B (C := RX9) (T := TX9) (N := 2) (ci := 9) (fs := [.null, .int (iI 0)]) hi_k_Air_X9 tyX9 tyX9_ok (List.mem_of_getElem? (i := 4) rfl) (List.mem_of_getElem? (i := 12) rfl) (List.mem_of_getElem? (i := 13) rfl) rfl (by decide +kernel) (by decide +kernel) (by decide +kernel) dX0_init_88 (fun q147 => ?_)
  show V _ _ _ _ _ _ _ _ _ _ _ _ _ _ (26, 521) (([(h, .inr (0, [.ref q1, .ref q3, .ref q11, .ref q27, .ref q35, .ref q43, .ref q53, .int (iI 0), .int (iI 0), .int (iI 0)])), (q1, .inl (K 4, 8, .inr (.inr (.inr (.inr f145)))))] ++ fd dom138 σ139) ++ [(q147, .inr (9, [.null, .int (iI 0)]))]) _ _ [.ref q147, .int (iI 7), .ref q1]
  refine v_perm (pm1 [(h, .inr (0, [.ref q1, .ref q3, .ref q11, .ref q27, .ref q35, .ref q43, .ref q53, .int (iI 0), .int (iI 0), .int (iI 0)])), (q1, .inl (K 4, 8, .inr (.inr (.inr (.inr f145)))))] (fd dom138 σ139) (q147, .inr (9, [.null, .int (iI 0)]))) ?_
  refine v_dup B dX0_init_91 rfl ?_
  refine v_bipush B (v := iI 40) dX0_init_92 (by decide +kernel) ?_
  refine v_callIv B (b := q147) (n := 1) (As := [.int (iI 40)]) (rest := [.ref q147, .int (iI 7), .ref q1]) (wc := (q147, .inr (9, [.null, .int (iI 0)])) :: fd dom138 σ139) (wr := [(h, .inr (0, [.ref q1, .ref q3, .ref q11, .ref q27, .ref q35, .ref q43, .ref q53, .int (iI 0), .int (iI 0), .int (iI 0)])), (q1, .inl (K 4, 8, .inr (.inr (.inr (.inr f145)))))]) (k_Row l D K Z141 G142 q147 3 40 (iI 40) (by decide +kernel)) gd_k_Air_k_Row_32 rfl rfl rfl (by decide +kernel) ⟨by decide +kernel, by decide +kernel⟩ (List.mem_of_getElem? (i := 13) rfl) (List.mem_of_getElem? (i := 14) rfl) (List.mem_of_getElem? (i := 15) rfl) rfl (sp_app _ _) rfl rfl (Nat.le_of_ble_eq_true rfl) dX0_init_94 ⟨by decide +kernel, by decide +kernel⟩ (fun u148 hp149 => ?_)
  obtain ⟨dom150, σ151, τ152⟩ := u148
  obtain ⟨Z153, G154, t155, m156⟩ := hp149
  show V _ _ _ _ _ _ _ _ _ _ _ _ _ _ (27, 561) ([(h, .inr (0, [.ref q1, .ref q3, .ref q11, .ref q27, .ref q35, .ref q43, .ref q53, .int (iI 0), .int (iI 0), .int (iI 0)])), (q1, .inl (K 4, 8, .inr (.inr (.inr (.inr f145)))))] ++ fd dom150 σ151) _ _ [.ref q147, .int (iI 7), .ref q1]
  refine v_aastT B Z153 (E := [(h, .inr (0, [.ref q1, .ref q3, .ref q11, .ref q27, .ref q35, .ref q43, .ref q53, .int (iI 0), .int (iI 0), .int (iI 0)])), (q1, .inl (K 4, 8, .inr (.inr (.inr (.inr f145)))))]) (k0 := 1) (t0 := 4) (ci := 9) (rr := (RX9, TX9, 2)) (i := 7) (E' := [(h, .inr (0, [.ref q1, .ref q3, .ref q11, .ref q27, .ref q35, .ref q43, .ref q53, .int (iI 0), .int (iI 0), .int (iI 0)])), (q1, .inl (K 4, 8, .inr (.inr (.inr (.inr (va_up f145 7 (some q147)))))))]) rfl rfl t155 (cls_Row G154 t155) rfl (vpi (by decide +kernel)) (by decide +kernel) rfl dX0_init_97 ?_
  have H158 := rows_step (i := 7) (r := q147) H146 m156 t155
  generalize va_up f145 7 (some q147) = f157 at H158 ⊢
  show V _ _ _ _ _ _ _ _ _ _ _ _ _ _ (27, 561) ([(h, .inr (0, [.ref q1, .ref q3, .ref q11, .ref q27, .ref q35, .ref q43, .ref q53, .int (iI 0), .int (iI 0), .int (iI 0)])), (q1, .inl (K 4, 8, .inr (.inr (.inr (.inr f157)))))] ++ fd dom150 σ151) _ _ []
  refine v_iinc B (k := 0) (v := iI 8) (lv' := [(1, .int (iI 8)), (0, .ref h)]) dX0_init_98 rfl (by decide +kernel) (by decide +kernel) rfl ?_
  refine v_goto B (tgt := 74) dX0_init_101 (by decide +kernel) ?_
  refine v_iload_n B dX0_init_74 rfl rfl ?_
  refine v_aload_n B dX0_init_75 rfl rfl ?_
  refine v_get B (k0 := 0) (C := RX0) (T := TX0) (N := 10) (ci := 0) hi_k_Air_X0 rfl rfl 0 (by decide +kernel) (List.mem_of_getElem? (i := 5) rfl) rfl dX0_init_76 ?_
  refine v_alen B (k0 := 1) (t0 := 4) (v := iI 8) rfl rfl (show Int32.ofNat 8 = iI 8 by decide +kernel) dX0_init_79 ?_
  refine v_icmp_ge B (tgt := 104) dX0_init_80 (by decide +kernel) (fun _ => ?_) (fun q => absurd q (by decide +kernel))
  refine v_perm (pm3 [(h, .inr (0, [.ref q1, .ref q3, .ref q11, .ref q27, .ref q35, .ref q43, .ref q53, .int (iI 0), .int (iI 0), .int (iI 0)]))] [] (fd dom150 σ151) (q1, .inl (K 4, 8, .inr (.inr (.inr (.inr f157)))))) ?_
  show V _ _ _ _ _ _ _ _ _ _ _ _ _ _ (27, 561) ([(h, .inr (0, [.ref q1, .ref q3, .ref q11, .ref q27, .ref q35, .ref q43, .ref q53, .int (iI 0), .int (iI 0), .int (iI 0)]))] ++ ((q1, .inl (K 4, 8, .inr (.inr (.inr (.inr f157))))) :: fd dom150 σ151)) _ _ []
  refine v_absorb (E := [(h, .inr (0, [.ref q1, .ref q3, .ref q11, .ref q27, .ref q35, .ref q43, .ref q53, .int (iI 0), .int (iI 0), .int (iI 0)]))]) (q := q1) (e0 := .inl (K 4, 8, .inr (.inr (.inr (.inr f157))))) (t := (5, 3, 8)) Z153 G154 (fun τ9 s9 _ => ⟨_, rfl, rows_sub H158 (Sub.tr Sub.rf s9)⟩) (fun dom159 σ160 τ161 Z162 G163 t164 m165 => ?_)
  show V _ _ _ _ _ _ _ _ _ _ _ _ _ _ (27, 561) ([(h, .inr (0, [.ref q1, .ref q3, .ref q11, .ref q27, .ref q35, .ref q43, .ref q53, .int (iI 0), .int (iI 0), .int (iI 0)]))] ++ fd dom159 σ160) _ _ []
  show V _ _ _ _ _ _ _ _ _ _ _ _ _ _ (27, 561) ([] ++ ((h, .inr (0, [.ref q1, .ref q3, .ref q11, .ref q27, .ref q35, .ref q43, .ref q53, .int (iI 0), .int (iI 0), .int (iI 0)])) :: fd dom159 σ160)) _ _ []
  refine v_absorb (E := []) (q := h) (e0 := .inr (0, [.ref q1, .ref q3, .ref q11, .ref q27, .ref q35, .ref q43, .ref q53, .int (iI 0), .int (iI 0), .int (iI 0)])) (t := (30, 0, 0)) Z162 G163 (fun τ9 s9 _ => ⟨q1, q3, q11, q27, q35, q43, q53, 0, 0, 0, rfl, s9 _ _ t164, s9 _ _ (m165 _ _ (m156 _ _ (m144 _ _ (m132 _ _ (m120 _ _ (m108 _ _ (m96 _ _ (m84 _ _ (m72 _ _ (m62 _ _ (m52 _ _ (m42 _ _ (m34 _ _ (m26 _ _ (m19 _ _ t9))))))))))))))), s9 _ _ (m165 _ _ (m156 _ _ (m144 _ _ (m132 _ _ (m120 _ _ (m108 _ _ (m96 _ _ (m84 _ _ (m72 _ _ (m62 _ _ (m52 _ _ (m42 _ _ (m34 _ _ t25))))))))))))), s9 _ _ (m165 _ _ (m156 _ _ (m144 _ _ (m132 _ _ (m120 _ _ (m108 _ _ (m96 _ _ (m84 _ _ (m72 _ _ (m62 _ _ (m52 _ _ (m42 _ _ t33)))))))))))), s9 _ _ (m165 _ _ (m156 _ _ (m144 _ _ (m132 _ _ (m120 _ _ (m108 _ _ (m96 _ _ (m84 _ _ (m72 _ _ (m62 _ _ (m52 _ _ t41))))))))))), s9 _ _ (m165 _ _ (m156 _ _ (m144 _ _ (m132 _ _ (m120 _ _ (m108 _ _ (m96 _ _ (m84 _ _ (m72 _ _ (m62 _ _ t51)))))))))), s9 _ _ (m165 _ _ (m156 _ _ (m144 _ _ (m132 _ _ (m120 _ _ (m108 _ _ (m96 _ _ (m84 _ _ (m72 _ _ t61))))))))), ⟨by decide, by decide⟩, ⟨by decide, by decide⟩, ⟨by decide, by decide⟩⟩) (fun dom166 σ167 τ168 Z169 G170 t171 m172 => ?_)
  exact v_vret B hr hlk (dom166, σ167, τ168) ⟨Z169, G170, t171, (Sub.tr (Sub.tr (Sub.tr (Sub.tr (Sub.tr (Sub.tr (Sub.tr (Sub.tr (Sub.tr (Sub.tr (Sub.tr (Sub.tr (Sub.tr (Sub.tr (Sub.tr (Sub.tr m10 m19) m26) m34) m42) m52) m62) m72) m84) m96) m108) m120) m132) m144) m156) m165) m172)⟩ rfl (by decide +kernel) (by decide +kernel) dX0_init_104
