def wp_bitCount : List Cond := .code yJ13_bitCount_95d88 cJ13_bitCount_95d88 2 (some .int) :: (([.constantLong RJ13 314 (6148914691236517205), .constantLong RJ13 316 (3689348814741910323), .constantLong RJ13 318 (1085102592571150095)] : List Cond) ++ ([]))
set_option maxHeartbeats 4000000 in
set_option maxRecDepth 100000 in
theorem b_bitCount {p : Program} {l : Launch} {e : Env} {R : Room} {s : State} {m : MethodId} {args : Array Value} {below : List Frame} {meth : Method} {c : Code} {D : va_G} {K : Nat → ClassId} {A : Nat → Prop} {Q : State → Prop} {τ : Nat → Option Ty} {dom : List Nat} {zb zL : Nat} {zx : Nat → Int32} {zs : Nat → Nat} (hR : 0 ≤ R.frames ∧ 0 ≤ R.locals) (B : Bx p s m args c cJ13_bitCount_95d88 2 RJ13 wp_bitCount D (tysA K) A) (Z : Sk τ dom) (hz : ZL zb zL zx zs A s s.heap) (y1 : Int) (r_y1 : InL y1) (σ0 : Nat → va_E) (G0 : Good K τ σ0) (hend : ∀ (z : Int) (lv : List (Nat × Value)) (pc : Nat), (0 ≤ z ∧ z ≤ 127) → decode cJ13_bitCount_95d88 pc = .ok (.ireturn, 1) → V p l e R s m args below meth c 2 D A Q (0, 0) (fd dom σ0) lv pc [.int (iI z)]) : V p l e R s m args below meth c 2 D A Q (0, 0) (fd dom σ0) [(0, .long (lI y1))] 0 [] := by
  have F0 : Fr τ [] σ0 σ0 := Fr.rf
  refine v_lload_n B dJ13_bitCount_95d88_0 rfl rfl ?_
  refine v_lload_n B dJ13_bitCount_95d88_1 rfl rfl ?_
  refine v_iconst B (v := iI 1) dJ13_bitCount_95d88_2 rfl ?_
  obtain ⟨yy1, e2, r3⟩ := lI_any (((lI y1).toUInt64 >>> ((iI 1).toInt64.toUInt64 &&& Int64.toUInt64 63)).toInt64)
  refine v_lushr B (v := lI yy1) dJ13_bitCount_95d88_3 e2 ?_
  refine v_ldc2 B (v := lI 6148914691236517205) (u_cl (List.mem_of_getElem? (i := 1) rfl) (by decide +kernel)) dJ13_bitCount_95d88_4 ?_
  obtain ⟨yy4, e5, r6⟩ := lI_and yy1 (c := 6148914691236517205) (by decide) (by decide)
  refine v_land B (v := lI yy4) dJ13_bitCount_95d88_7 e5 ?_
  obtain ⟨yy7, e8, r9⟩ := lI_any (lI y1 - lI yy4)
  refine v_lsub B (v := lI yy7) dJ13_bitCount_95d88_8 e8 ?_
  refine v_lstore_n B (lv' := [(0, .long (lI yy7))]) dJ13_bitCount_95d88_9 rfl (by decide +kernel) rfl ?_
  refine v_lload_n B dJ13_bitCount_95d88_10 rfl rfl ?_
  refine v_ldc2 B (v := lI 3689348814741910323) (u_cl (List.mem_of_getElem? (i := 2) rfl) (by decide +kernel)) dJ13_bitCount_95d88_11 ?_
  obtain ⟨yy10, e11, r12⟩ := lI_and yy7 (c := 3689348814741910323) (by decide) (by decide)
  refine v_land B (v := lI yy10) dJ13_bitCount_95d88_14 e11 ?_
  refine v_lload_n B dJ13_bitCount_95d88_15 rfl rfl ?_
  refine v_iconst B (v := iI 2) dJ13_bitCount_95d88_16 rfl ?_
  obtain ⟨yy13, e14, r15⟩ := lI_any (((lI yy7).toUInt64 >>> ((iI 2).toInt64.toUInt64 &&& Int64.toUInt64 63)).toInt64)
  refine v_lushr B (v := lI yy13) dJ13_bitCount_95d88_17 e14 ?_
  refine v_ldc2 B (v := lI 3689348814741910323) (u_cl (List.mem_of_getElem? (i := 2) rfl) (by decide +kernel)) dJ13_bitCount_95d88_18 ?_
  obtain ⟨yy16, e17, r18⟩ := lI_and yy13 (c := 3689348814741910323) (by decide) (by decide)
  refine v_land B (v := lI yy16) dJ13_bitCount_95d88_21 e17 ?_
  obtain ⟨yy19, e20, r21⟩ := lI_any (lI yy10 + lI yy16)
  refine v_ladd B (v := lI yy19) dJ13_bitCount_95d88_22 e20 ?_
  refine v_lstore_n B (lv' := [(0, .long (lI yy19))]) dJ13_bitCount_95d88_23 rfl (by decide +kernel) rfl ?_
  refine v_lload_n B dJ13_bitCount_95d88_24 rfl rfl ?_
  refine v_lload_n B dJ13_bitCount_95d88_25 rfl rfl ?_
  refine v_iconst B (v := iI 4) dJ13_bitCount_95d88_26 rfl ?_
  obtain ⟨yy22, e23, r24⟩ := lI_any (((lI yy19).toUInt64 >>> ((iI 4).toInt64.toUInt64 &&& Int64.toUInt64 63)).toInt64)
  refine v_lushr B (v := lI yy22) dJ13_bitCount_95d88_27 e23 ?_
  obtain ⟨yy25, e26, r27⟩ := lI_any (lI yy19 + lI yy22)
  refine v_ladd B (v := lI yy25) dJ13_bitCount_95d88_28 e26 ?_
  refine v_ldc2 B (v := lI 1085102592571150095) (u_cl (List.mem_of_getElem? (i := 3) rfl) (by decide +kernel)) dJ13_bitCount_95d88_29 ?_
  obtain ⟨yy28, e29, r30⟩ := lI_and yy25 (c := 1085102592571150095) (by decide) (by decide)
  refine v_land B (v := lI yy28) dJ13_bitCount_95d88_32 e29 ?_
  refine v_lstore_n B (lv' := [(0, .long (lI yy28))]) dJ13_bitCount_95d88_33 rfl (by decide +kernel) rfl ?_
  refine v_lload_n B dJ13_bitCount_95d88_34 rfl rfl ?_
  refine v_lload_n B dJ13_bitCount_95d88_35 rfl rfl ?_
  refine v_bipush B (v := iI 8) dJ13_bitCount_95d88_36 (by decide +kernel) ?_
  obtain ⟨yy31, e32, r33⟩ := lI_any (((lI yy28).toUInt64 >>> ((iI 8).toInt64.toUInt64 &&& Int64.toUInt64 63)).toInt64)
  refine v_lushr B (v := lI yy31) dJ13_bitCount_95d88_38 e32 ?_
  obtain ⟨yy34, e35, r36⟩ := lI_any (lI yy28 + lI yy31)
  refine v_ladd B (v := lI yy34) dJ13_bitCount_95d88_39 e35 ?_
  refine v_lstore_n B (lv' := [(0, .long (lI yy34))]) dJ13_bitCount_95d88_40 rfl (by decide +kernel) rfl ?_
  refine v_lload_n B dJ13_bitCount_95d88_41 rfl rfl ?_
  refine v_lload_n B dJ13_bitCount_95d88_42 rfl rfl ?_
  refine v_bipush B (v := iI 16) dJ13_bitCount_95d88_43 (by decide +kernel) ?_
  obtain ⟨yy37, e38, r39⟩ := lI_any (((lI yy34).toUInt64 >>> ((iI 16).toInt64.toUInt64 &&& Int64.toUInt64 63)).toInt64)
  refine v_lushr B (v := lI yy37) dJ13_bitCount_95d88_45 e38 ?_
  obtain ⟨yy40, e41, r42⟩ := lI_any (lI yy34 + lI yy37)
  refine v_ladd B (v := lI yy40) dJ13_bitCount_95d88_46 e41 ?_
  refine v_lstore_n B (lv' := [(0, .long (lI yy40))]) dJ13_bitCount_95d88_47 rfl (by decide +kernel) rfl ?_
  refine v_lload_n B dJ13_bitCount_95d88_48 rfl rfl ?_
  refine v_lload_n B dJ13_bitCount_95d88_49 rfl rfl ?_
  refine v_bipush B (v := iI 32) dJ13_bitCount_95d88_50 (by decide +kernel) ?_
  obtain ⟨yy43, e44, r45⟩ := lI_any (((lI yy40).toUInt64 >>> ((iI 32).toInt64.toUInt64 &&& Int64.toUInt64 63)).toInt64)
  refine v_lushr B (v := lI yy43) dJ13_bitCount_95d88_52 e44 ?_
  obtain ⟨yy46, e47, r48⟩ := lI_any (lI yy40 + lI yy43)
  refine v_ladd B (v := lI yy46) dJ13_bitCount_95d88_53 e47 ?_
  refine v_lstore_n B (lv' := [(0, .long (lI yy46))]) dJ13_bitCount_95d88_54 rfl (by decide +kernel) rfl ?_
  refine v_lload_n B dJ13_bitCount_95d88_55 rfl rfl ?_
  obtain ⟨z49, e50, r51⟩ := iI_any ((lI yy46).toInt32)
  refine v_l2i B (v := iI z49) dJ13_bitCount_95d88_56 e50 ?_
  refine v_bipush B (v := iI 127) dJ13_bitCount_95d88_57 (by decide +kernel) ?_
  obtain ⟨z52, e53, r54⟩ := iI_and z49 (c := 127) (by decide) (by decide)
  refine v_iand B (v := iI z52) dJ13_bitCount_95d88_59 e53 ?_
  exact hend z52 _ _ ⟨by omega, by omega⟩ dJ13_bitCount_95d88_60
set_option maxRecDepth 100000 in
theorem c_bitCount (l : Launch) (D : va_G) (K : Nat → ClassId) {τ : Nat → Option Ty} {dom : List Nat} (Z : Sk τ dom) (zb zL : Nat) (zx : Nat → Int32) (zs : Nat → Nat) (y1 : Int) (r_y1 : InL y1) (σ0 : Nat → va_E) (G0 : Good K τ σ0) : MZ l yJ13_bitCount_95d88 wp_bitCount ({ frames := 0, cells := 0, slots := 0, locals := 0 }) D (tysA K) [.long (lI y1)] (fd dom σ0) zb zL zx zs (Qi D (fun r σ' => σ0 = σ' ∧ ∃ z : Int, r = iI z ∧ (0 ≤ z ∧ z ≤ 127)) (fun σ' => fd dom σ')) 0 0 := by
  refine mz_of (cc := cJ13_bitCount_95d88) (maxL := 2) (ret := (some .int)) (by decide +kernel) rfl (Nat.le_of_ble_eq_true rfl) ?_
  intro p e s m below meth c A B hr hlk _ hz
  exact b_bitCount ⟨Nat.le_refl _, Nat.le_refl _⟩ B Z hz y1 r_y1 σ0 G0 (fun z lv pc hZ hd => v_iret B hr hlk σ0 ⟨rfl, z, rfl, hZ⟩ rfl (Nat.le_refl _) (Nat.le_refl _) hd)

def wp_loadKey : List Cond := .code yX1_loadKey cX1_loadKey 6 none :: (([.fieldLink RX1 9 "LowEnergy$Cipher" "roundKeys" "[I", .fieldLink RX1 16 "LowEnergy$Cipher" "SBOX" "[I"] : List Cond) ++ (wsX10 ++ ([])))
theorem hi_loadKey_X1 : ∀ x ∈ u_ws RX1 TX1 2, x ∈ wp_loadKey := fun _ h => List.mem_cons_of_mem _ (List.mem_append_right _ (List.mem_append_left _ h))
set_option maxHeartbeats 4000000 in
set_option maxRecDepth 100000 in
theorem b_loadKey {p : Program} {l : Launch} {e : Env} {R : Room} {s : State} {m : MethodId} {args : Array Value} {below : List Frame} {meth : Method} {c : Code} {D : va_G} {K : Nat → ClassId} {A : Nat → Prop} {Q : State → Prop} {τ : Nat → Option Ty} {dom : List Nat} {zb zL : Nat} {zx : Nat → Int32} {zs : Nat → Nat} {π : Nat} (hR : 0 ≤ R.frames ∧ 0 ≤ R.locals) (B : Bx p s m args c cX1_loadKey 6 RX1 wp_loadKey D (tysA K) A) (Z : Sk τ dom) (hz : ZL zb zL zx zs A s s.heap) (h : Nat) (g : Nat) (t_h : τ h = some (31, 0, 0)) (t_g : τ g = some (3, π, 16)) (σ0 : Nat → va_E) (G0 : Good K τ σ0) (hend : ∀ (σ' : Nat → va_E) (lv : List (Nat × Value)) (pc : Nat), Good K τ σ' → Fr τ [(2, 31)] σ0 σ' → decode cX1_loadKey pc = .ok (.return_, 1) → V p l e R s m args below meth c 6 D A Q (0, 0) (fd dom σ') lv pc []) : V p l e R s m args below meth c 6 D A Q (0, 0) (fd dom σ0) [(0, .ref h), (1, .ref g)] 0 [] := by
  have F0 : Fr τ [(2, 31)] σ0 σ0 := Fr.rf
  have J38 : ∀ (k38 : Nat) (σ_38 : Nat → va_E) (z38_2 : Int) (z38_3 : Int), (2147483648 - z38_3).toNat ≤ k38 → Good K τ σ_38 → Fr τ [(2, 31)] σ0 σ_38 → (0 ≤ z38_2 ∧ z38_2 ≤ 255) → (16 ≤ z38_3 ∧ z38_3 ≤ 176) → V p l e R s m args below meth c 6 D A Q (0, 0) (fd dom σ_38) [(0, .ref h), (2, .int (iI z38_2)), (3, .int (iI z38_3))] 38 [] := by
    intro k38
    induction k38 with
    | zero => intro σ_38 z38_2 z38_3 m38 G_38 F_38 r38_2 r38_3; omega
    | succ k38 IH38 =>
      intro σ_38 z38_2 z38_3 m38 G_38 F_38 r38_2 r38_3
      have J124 : ∀ (z124_2 : Int) (z124_5 : Int), (0 ≤ z124_2 ∧ z124_2 ≤ 255) → (16 ≤ z38_3 ∧ z38_3 ≤ 175) → (0 ≤ z124_5 ∧ z124_5 ≤ 255) → V p l e R s m args below meth c 6 D A Q (0, 0) (fd dom σ_38) [(0, .ref h), (2, .int (iI z124_2)), (3, .int (iI z38_3)), (5, .int (iI z124_5))] 124 [] := by
        intro z124_2 z124_5 r124_2 r124_3 r124_5
        refine v_aload_n B dX1_loadKey_124 rfl rfl ?_
        obtain ⟨a1, a2, h3, t4, t5⟩ : okCipher τ (σ_38 h) := G_38 h _ t_h
        refine u_get B Z (C := RX1) (T := TX1) (N := 2) (ci := 1) hi_loadKey_X1 t_h h3 rfl 0 (by decide +kernel) (List.mem_of_getElem? (i := 1) rfl) rfl dX1_loadKey_125 ?_
        refine v_iload_n B dX1_loadKey_128 rfl rfl ?_
        refine v_aload_n B dX1_loadKey_129 rfl rfl ?_
        refine u_get B Z (C := RX1) (T := TX1) (N := 2) (ci := 1) hi_loadKey_X1 t_h h3 rfl 0 (by decide +kernel) (List.mem_of_getElem? (i := 1) rfl) rfl dX1_loadKey_130 ?_
        refine v_iload_n B dX1_loadKey_133 rfl rfl ?_
        refine v_bipush B (v := iI 16) dX1_loadKey_134 (by decide +kernel) ?_
        refine v_isub B (v := iI (z38_3 + (-16))) dX1_loadKey_136 ((iI_sub _ _).trans (congrArg iI (by omega))) ?_
        obtain ⟨f6, h7, r8, e9⟩ : okB K 176 (σ_38 a1) := G_38 a1 _ t4
        obtain ⟨z10, e11, r12⟩ := e9 ((z38_3 + (-16)) : Int).toNat
        refine u_iald B Z (t0 := 0) t4 h7 rfl (by omega) e11 dX1_loadKey_137 ?_
        refine v_iload B dX1_loadKey_138 rfl ?_
        obtain ⟨z13, e14, r15⟩ := iI_xor (a := z10) (b := z124_5) 8 (by decide) (by omega) (by omega)
        refine v_ixor B (v := iI z13) dX1_loadKey_140 e14 ?_
        refine u_iast B Z (t0 := 0) t4 h7 rfl (by omega) dX1_loadKey_141 (fun σ16 h17 n18 => ?_)
        have G19 := G_38.put t4 (⟨_, h17, r8, el_upd e9 (by omega) _⟩ : Ok K τ (2, 31, 176) (σ16 a1)) n18
        have F20 := F_38.put t4 (by simp) n18
        have h21 := (n18 h (ne_ty t_h t4 (by simp))).trans h3
        refine v_iinc B (k := 2) (v := iI (z38_3 + 1)) (lv' := [(3, .int (iI (z38_3 + 1))), (0, .ref h), (2, .int (iI z124_2)), (5, .int (iI z124_5))]) dX1_loadKey_142 rfl ((iI_add _ _).trans (congrArg iI (by omega))) (by decide +kernel) rfl ?_
        refine v_goto B (tgt := 38) dX1_loadKey_145 (by decide +kernel) ?_
        refine v_lv [1, 2, 0] rfl ?_
        exact IH38 σ16 z124_2 (z38_3 + 1) (by omega) G19 F20 ⟨by omega, by omega⟩ ⟨by omega, by omega⟩
      have J100 : ∀ (z100_4 : Int) (z100_5 : Int), (16 ≤ z38_3 ∧ z38_3 ≤ 175) → (0 ≤ z100_4 ∧ z100_4 ≤ 15) → (0 ≤ z100_5 ∧ z100_5 ≤ 255) → V p l e R s m args below meth c 6 D A Q (0, 0) (fd dom σ_38) [(0, .ref h), (2, .int (iI z38_2)), (3, .int (iI z38_3)), (4, .int (iI z100_4)), (5, .int (iI z100_5))] 100 [] := by
        intro z100_4 z100_5 r100_3 r100_4 r100_5
        refine v_iload B dX1_loadKey_100 rfl ?_
        refine u_if_ne B (tgt := 124) (by omega) dX1_loadKey_102 (by decide +kernel) (fun c22 => ?_) (fun c22 => ?_)
        · refine v_lv [0, 1, 2, 4] rfl ?_
          exact J124 z38_2 z100_5 ⟨by omega, by omega⟩ ⟨by omega, by omega⟩ ⟨by omega, by omega⟩
        · refine v_iload B dX1_loadKey_105 rfl ?_
          refine v_iload_n B dX1_loadKey_107 rfl rfl ?_
          obtain ⟨z23, e24, r25⟩ := iI_xor (a := z100_5) (b := z38_2) 8 (by decide) (by omega) (by omega)
          refine v_ixor B (v := iI z23) dX1_loadKey_108 e24 ?_
          refine v_istore B (lv' := [(5, .int (iI z23)), (0, .ref h), (2, .int (iI z38_2)), (3, .int (iI z38_3)), (4, .int (iI z100_4))]) dX1_loadKey_109 (by decide +kernel) rfl ?_
          refine v_iload_n B dX1_loadKey_111 rfl rfl ?_
          refine v_iconst B (v := iI 1) dX1_loadKey_112 rfl ?_
          refine v_ishl B (v := iI (2 * z38_2)) dX1_loadKey_113 ((iI_shl z38_2 1 (by decide)).trans (congrArg iI (by omega))) ?_
          refine v_sipush B (v := iI 283) dX1_loadKey_114 (by decide +kernel) ?_
          refine v_iload_n B dX1_loadKey_117 rfl rfl ?_
          refine v_bipush B (v := iI 7) dX1_loadKey_118 (by decide +kernel) ?_
          obtain ⟨z26, e27⟩ : ∃ z : Int, z = z38_2 / 128 := ⟨_, rfl⟩
          refine v_ishr B (v := iI z26) dX1_loadKey_120 ((iI_shr (a := z38_2) (by omega) 7 (by decide)).trans (congrArg iI (by omega))) ?_
          refine v_imul B (v := iI (283 * z26)) dX1_loadKey_121 ((iI_mul _ _).trans (congrArg iI (by omega))) ?_
          obtain ⟨z28, e29, r30⟩ := iI_xt (c := z38_2) (by omega) e27
          refine v_ixor B (v := iI z28) dX1_loadKey_122 e29 ?_
          refine v_istore_n B (lv' := [(2, .int (iI z28)), (5, .int (iI z23)), (0, .ref h), (3, .int (iI z38_3)), (4, .int (iI z100_4))]) dX1_loadKey_123 rfl (by decide +kernel) rfl ?_
          refine v_lv [2, 0, 3, 1] rfl ?_
          exact J124 z28 z23 ⟨by omega, by omega⟩ ⟨by omega, by omega⟩ ⟨by omega, by omega⟩
      have J92 : ∀ (z92_4 : Int) (z92_s0 : Int) (a92_s1 : Nat), (16 ≤ z38_3 ∧ z38_3 ≤ 175) → (0 ≤ z92_4 ∧ z92_4 ≤ 3) → (9 ≤ z92_s0 ∧ z92_s0 ≤ 172) → (τ a92_s1 = some (2, 31, 176)) → V p l e R s m args below meth c 6 D A Q (0, 0) (fd dom σ_38) [(0, .ref h), (2, .int (iI z38_2)), (3, .int (iI z38_3)), (4, .int (iI z92_4))] 92 [.int (iI z92_s0), .ref a92_s1, .ref (zs 3)] := by
        intro z92_4 z92_s0 a92_s1 r92_3 r92_4 r92_s0 t92_s1
        obtain ⟨f31, h32, r33, e34⟩ : okB K 176 (σ_38 a92_s1) := G_38 a92_s1 _ t92_s1
        obtain ⟨z35, e36, r37⟩ := e34 (z92_s0 : Int).toNat
        refine u_iald B Z (t0 := 0) t92_s1 h32 rfl (by omega) e36 dX1_loadKey_92 ?_
        refine v_sipush B (v := iI 255) dX1_loadKey_93 (by decide +kernel) ?_
        obtain ⟨z38, e39, r40⟩ := iI_and z35 (c := 255) (by decide) (by decide)
        refine v_iand B (v := iI z38) dX1_loadKey_96 e39 ?_
        refine u_sbox B hz (by omega) dX1_loadKey_97 (fun z41 r42 => ?_)
        refine v_istore B (lv' := [(5, .int (iI z41)), (0, .ref h), (2, .int (iI z38_2)), (3, .int (iI z38_3)), (4, .int (iI z92_4))]) dX1_loadKey_98 (by decide +kernel) rfl ?_
        refine v_lv [1, 2, 3, 4, 0] rfl ?_
        exact J100 z92_4 z41 ⟨by omega, by omega⟩ ⟨by omega, by omega⟩ ⟨by omega, by omega⟩
      refine v_iload_n B dX1_loadKey_38 rfl rfl ?_
      refine v_aload_n B dX1_loadKey_39 rfl rfl ?_
      obtain ⟨a43, a44, h45, t46, t47⟩ : okCipher τ (σ_38 h) := G_38 h _ t_h
      refine u_get B Z (C := RX1) (T := TX1) (N := 2) (ci := 1) hi_loadKey_X1 t_h h45 rfl 0 (by decide +kernel) (List.mem_of_getElem? (i := 1) rfl) rfl dX1_loadKey_40 ?_
      obtain ⟨f48, h49, r50, e51⟩ : okB K 176 (σ_38 a43) := G_38 a43 _ t46
      refine u_alen B Z (t0 := 0) (v := 176) t46 h49 rfl (by first | rfl | omega) dX1_loadKey_43 ?_
      refine u_icmp_ge B (tgt := 148) (by omega) (by omega) dX1_loadKey_44 (by decide +kernel) (fun c52 => ?_) (fun c52 => ?_)
      · exact hend σ_38 _ _ G_38 F_38 dX1_loadKey_148
      · refine v_iload_n B dX1_loadKey_47 rfl rfl ?_
        refine v_bipush B (v := iI 16) dX1_loadKey_48 (by decide +kernel) ?_
        obtain ⟨z53, e54⟩ : ∃ z : Int, z = z38_3 % 16 := ⟨_, rfl⟩
        refine v_irem B (v := iI z53) dX1_loadKey_50 (fun q => absurd ((iI_eq (a := 16) (b := 0) (by omega) (by omega)).mp q) (by omega)) ((iI_rem (a := z38_3) (b := 16) (by omega) (by omega)).trans (congrArg iI e54.symm)) ?_
        refine v_istore B (lv' := [(4, .int (iI z53)), (0, .ref h), (2, .int (iI z38_2)), (3, .int (iI z38_3))]) dX1_loadKey_51 (by decide +kernel) rfl ?_
        refine v_aload_n B dX1_loadKey_53 rfl rfl ?_
        refine u_get B Z (C := RX1) (T := TX1) (N := 2) (ci := 1) hi_loadKey_X1 t_h h45 rfl 0 (by decide +kernel) (List.mem_of_getElem? (i := 1) rfl) rfl dX1_loadKey_54 ?_
        refine v_iload_n B dX1_loadKey_57 rfl rfl ?_
        refine v_iconst B (v := iI 4) dX1_loadKey_58 rfl ?_
        refine v_isub B (v := iI (z38_3 + (-4))) dX1_loadKey_59 ((iI_sub _ _).trans (congrArg iI (by omega))) ?_
        obtain ⟨z55, e56, r57⟩ := e51 ((z38_3 + (-4)) : Int).toNat
        refine u_iald B Z (t0 := 0) t46 h49 rfl (by omega) e56 dX1_loadKey_60 ?_
        refine v_istore B (lv' := [(5, .int (iI z55)), (4, .int (iI z53)), (0, .ref h), (2, .int (iI z38_2)), (3, .int (iI z38_3))]) dX1_loadKey_61 (by decide +kernel) rfl ?_
        refine v_iload B dX1_loadKey_63 rfl ?_
        refine v_iconst B (v := iI 4) dX1_loadKey_65 rfl ?_
        refine u_icmp_ge B (tgt := 100) (by omega) (by omega) dX1_loadKey_66 (by decide +kernel) (fun c58 => ?_) (fun c58 => ?_)
        · refine v_lv [2, 3, 4, 1, 0] rfl ?_
          exact J100 z53 z55 ⟨by omega, by omega⟩ ⟨by omega, by omega⟩ ⟨by omega, by omega⟩
        · refine u_gets3 B hz (List.mem_of_getElem? (i := 2) rfl) dX1_loadKey_69 ?_
          refine v_aload_n B dX1_loadKey_72 rfl rfl ?_
          refine u_get B Z (C := RX1) (T := TX1) (N := 2) (ci := 1) hi_loadKey_X1 t_h h45 rfl 0 (by decide +kernel) (List.mem_of_getElem? (i := 1) rfl) rfl dX1_loadKey_73 ?_
          refine v_iload B dX1_loadKey_76 rfl ?_
          refine v_iconst B (v := iI 3) dX1_loadKey_78 rfl ?_
          refine u_icmp_ne B (tgt := 89) (by omega) (by omega) dX1_loadKey_79 (by decide +kernel) (fun c59 => ?_) (fun c59 => ?_)
          · refine v_iload_n B dX1_loadKey_89 rfl rfl ?_
            refine v_iconst B (v := iI 3) dX1_loadKey_90 rfl ?_
            refine v_isub B (v := iI (z38_3 + (-3))) dX1_loadKey_91 ((iI_sub _ _).trans (congrArg iI (by omega))) ?_
            refine v_lv [2, 3, 4, 1] rfl ?_
            exact J92 z53 (z38_3 + (-3)) a43 ⟨by omega, by omega⟩ ⟨by omega, by omega⟩ ⟨by omega, by omega⟩ t46
          · refine v_iload_n B dX1_loadKey_82 rfl rfl ?_
            refine v_bipush B (v := iI 7) dX1_loadKey_83 (by decide +kernel) ?_
            refine v_isub B (v := iI (z38_3 + (-7))) dX1_loadKey_85 ((iI_sub _ _).trans (congrArg iI (by omega))) ?_
            refine v_goto B (tgt := 92) dX1_loadKey_86 (by decide +kernel) ?_
            refine v_lv [2, 3, 4, 1] rfl ?_
            exact J92 z53 (z38_3 + (-7)) a43 ⟨by omega, by omega⟩ ⟨by omega, by omega⟩ ⟨by omega, by omega⟩ t46
  have J33 : ∀ (σ_33 : Nat → va_E), Good K τ σ_33 → Fr τ [(2, 31)] σ0 σ_33 → V p l e R s m args below meth c 6 D A Q (0, 0) (fd dom σ_33) [(0, .ref h)] 33 [] := by
    intro σ_33 G_33 F_33
    refine v_iconst B (v := iI 1) dX1_loadKey_33 rfl ?_
    refine v_istore_n B (lv' := [(2, .int (iI 1)), (0, .ref h)]) dX1_loadKey_34 rfl (by decide +kernel) rfl ?_
    refine v_bipush B (v := iI 16) dX1_loadKey_35 (by decide +kernel) ?_
    refine v_istore_n B (lv' := [(3, .int (iI 16)), (2, .int (iI 1)), (0, .ref h)]) dX1_loadKey_37 rfl (by decide +kernel) rfl ?_
    refine v_lv [2, 1, 0] rfl ?_
    exact J38 _ σ_33 1 16 (Nat.le_refl _) G_33 F_33 ⟨by omega, by omega⟩ ⟨by omega, by omega⟩
  have J2 : ∀ (k2 : Nat) (σ_2 : Nat → va_E) (z2_2 : Int), (2147483648 - z2_2).toNat ≤ k2 → Good K τ σ_2 → Fr τ [(2, 31)] σ0 σ_2 → (0 ≤ z2_2 ∧ z2_2 ≤ 16) → V p l e R s m args below meth c 6 D A Q (0, 0) (fd dom σ_2) [(0, .ref h), (1, .ref g), (2, .int (iI z2_2))] 2 [] := by
    intro k2
    induction k2 with
    | zero => intro σ_2 z2_2 m2 G_2 F_2 r2_2; omega
    | succ k2 IH2 =>
      intro σ_2 z2_2 m2 G_2 F_2 r2_2
      refine v_iload_n B dX1_loadKey_2 rfl rfl ?_
      refine v_bipush B (v := iI 16) dX1_loadKey_3 (by decide +kernel) ?_
      refine u_icmp_ge B (tgt := 33) (by omega) (by omega) dX1_loadKey_5 (by decide +kernel) (fun c60 => ?_) (fun c60 => ?_)
      · refine v_lv [0] rfl ?_
        exact J33 σ_2 G_2 F_2
      · refine v_iload_n B dX1_loadKey_8 rfl rfl ?_
        refine v_aload_n B dX1_loadKey_9 rfl rfl ?_
        obtain ⟨f61, h62, r63⟩ : okP K 16 (σ_2 g) := G_2 g _ t_g
        refine u_alen B Z (t0 := 0) (v := 16) t_g h62 rfl (by first | rfl | omega) dX1_loadKey_10 ?_
        refine u_icmp_ge B (tgt := 33) (by omega) (by omega) dX1_loadKey_11 (by decide +kernel) (fun c64 => by omega) (fun c64 => ?_)
        refine v_aload_n B dX1_loadKey_14 rfl rfl ?_
        obtain ⟨a65, a66, h67, t68, t69⟩ : okCipher τ (σ_2 h) := G_2 h _ t_h
        refine u_get B Z (C := RX1) (T := TX1) (N := 2) (ci := 1) hi_loadKey_X1 t_h h67 rfl 0 (by decide +kernel) (List.mem_of_getElem? (i := 1) rfl) rfl dX1_loadKey_15 ?_
        refine v_iload_n B dX1_loadKey_18 rfl rfl ?_
        refine v_aload_n B dX1_loadKey_19 rfl rfl ?_
        refine v_iload_n B dX1_loadKey_20 rfl rfl ?_
        obtain ⟨z70, e71, r72⟩ := iI_any (f61 (z2_2 : Int).toNat)
        refine u_iald B Z (t0 := 0) t_g h62 rfl (by omega) e71 dX1_loadKey_21 ?_
        refine v_sipush B (v := iI 255) dX1_loadKey_22 (by decide +kernel) ?_
        obtain ⟨z73, e74, r75⟩ := iI_and z70 (c := 255) (by decide) (by decide)
        refine v_iand B (v := iI z73) dX1_loadKey_25 e74 ?_
        obtain ⟨f76, h77, r78, e79⟩ : okB K 176 (σ_2 a65) := G_2 a65 _ t68
        refine u_iast B Z (t0 := 0) t68 h77 rfl (by omega) dX1_loadKey_26 (fun σ80 h81 n82 => ?_)
        have G83 := G_2.put t68 (⟨_, h81, r78, el_upd e79 (by omega) _⟩ : Ok K τ (2, 31, 176) (σ80 a65)) n82
        have F84 := F_2.put t68 (by simp) n82
        have h85 := (n82 g (ne_ty t_g t68 (by simp))).trans h62
        have h86 := (n82 h (ne_ty t_h t68 (by simp))).trans h67
        refine v_iinc B (k := 2) (v := iI (z2_2 + 1)) (lv' := [(2, .int (iI (z2_2 + 1))), (0, .ref h), (1, .ref g)]) dX1_loadKey_27 rfl ((iI_add _ _).trans (congrArg iI (by omega))) (by decide +kernel) rfl ?_
        refine v_goto B (tgt := 2) dX1_loadKey_30 (by decide +kernel) ?_
        refine v_lv [1, 2, 0] rfl ?_
        exact IH2 σ80 (z2_2 + 1) (by omega) G83 F84 ⟨by omega, by omega⟩
  refine v_iconst B (v := iI 0) dX1_loadKey_0 rfl ?_
  refine v_istore_n B (lv' := [(2, .int (iI 0)), (0, .ref h), (1, .ref g)]) dX1_loadKey_1 rfl (by decide +kernel) rfl ?_
  refine v_lv [1, 2, 0] rfl ?_
  exact J2 _ σ0 0 (Nat.le_refl _) G0 F0 ⟨by omega, by omega⟩
set_option maxRecDepth 100000 in
theorem c_loadKey (l : Launch) (D : va_G) (K : Nat → ClassId) {τ : Nat → Option Ty} {dom : List Nat} (Z : Sk τ dom) (zb zL : Nat) (zx : Nat → Int32) (zs : Nat → Nat) {π : Nat} (h : Nat) (g : Nat) (t_h : τ h = some (31, 0, 0)) (t_g : τ g = some (3, π, 16)) (σ0 : Nat → va_E) (G0 : Good K τ σ0) : MZ l yX1_loadKey wp_loadKey ({ frames := 0, cells := 0, slots := 0, locals := 0 }) D (tysA K) [.ref h, .ref g] (fd dom σ0) zb zL zx zs (Qv D (fun σ' => Good K τ σ' ∧ Fr τ [(2, 31)] σ0 σ') (fun σ' => fd dom σ')) 0 0 := by
  refine mz_of (cc := cX1_loadKey) (maxL := 6) (ret := none) (by decide +kernel) rfl (Nat.le_of_ble_eq_true rfl) ?_
  intro p e s m below meth c A B hr hlk _ hz
  exact b_loadKey ⟨Nat.le_refl _, Nat.le_refl _⟩ B Z hz h g t_h t_g σ0 G0 (fun σ' lv pc G F hd => v_vret B hr hlk σ' ⟨G, F⟩ rfl (Nat.le_refl _) (Nat.le_refl _) hd)

def wp_encipherB : List Cond := .code yX1_encipher cX1_encipher 7 none :: (([.fieldLink RX1 9 "LowEnergy$Cipher" "roundKeys" "[I", .fieldLink RX1 13 "LowEnergy$Cipher" "moved" "[I", .fieldLink RX1 16 "LowEnergy$Cipher" "SBOX" "[I"] : List Cond) ++ (wsX10 ++ ([])))
theorem hi_encipherB_X1 : ∀ x ∈ u_ws RX1 TX1 2, x ∈ wp_encipherB := fun _ h => List.mem_cons_of_mem _ (List.mem_append_right _ (List.mem_append_left _ h))
set_option maxHeartbeats 4000000 in
set_option maxRecDepth 100000 in
theorem b_encipherB {p : Program} {l : Launch} {e : Env} {R : Room} {s : State} {m : MethodId} {args : Array Value} {below : List Frame} {meth : Method} {c : Code} {D : va_G} {K : Nat → ClassId} {A : Nat → Prop} {Q : State → Prop} {τ : Nat → Option Ty} {dom : List Nat} {zb zL : Nat} {zx : Nat → Int32} {zs : Nat → Nat} {π : Nat} (hR : 0 ≤ R.frames ∧ 0 ≤ R.locals) (B : Bx p s m args c cX1_encipher 7 RX1 wp_encipherB D (tysA K) A) (Z : Sk τ dom) (hz : ZL zb zL zx zs A s s.heap) (h : Nat) (g : Nat) (t_h : τ h = some (31, 0, 0)) (t_g : τ g = some (2, π, 16)) (σ0 : Nat → va_E) (G0 : Good K τ σ0) (hend : ∀ (σ' : Nat → va_E) (lv : List (Nat × Value)) (pc : Nat), Good K τ σ' → Fr τ [(2, π), (2, 32)] σ0 σ' → decode cX1_encipher pc = .ok (.return_, 1) → V p l e R s m args below meth c 7 D A Q (0, 0) (fd dom σ') lv pc []) : V p l e R s m args below meth c 7 D A Q (0, 0) (fd dom σ0) [(0, .ref h), (1, .ref g)] 0 [] := by
  have F0 : Fr τ [(2, π), (2, 32)] σ0 σ0 := Fr.rf
  have J41 : ∀ (k41 : Nat) (σ_41 : Nat → va_E) (z41_2 : Int), (2147483648 - z41_2).toNat ≤ k41 → Good K τ σ_41 → Fr τ [(2, π), (2, 32)] σ0 σ_41 → (1 ≤ z41_2 ∧ z41_2 ≤ 11) → V p l e R s m args below meth c 7 D A Q (0, 0) (fd dom σ_41) [(0, .ref h), (1, .ref g), (2, .int (iI z41_2))] 41 [] := by
    intro k41
    induction k41 with
    | zero => intro σ_41 z41_2 m41 G_41 F_41 r41_2; omega
    | succ k41 IH41 =>
      intro σ_41 z41_2 m41 G_41 F_41 r41_2
      have J89 : ∀ (k89 : Nat) (σ_89 : Nat → va_E) (z89_3 : Int), (2147483648 - z89_3).toNat ≤ k89 → Good K τ σ_89 → Fr τ [(2, π), (2, 32)] σ0 σ_89 → (1 ≤ z41_2 ∧ z41_2 ≤ 10) → (0 ≤ z89_3 ∧ z89_3 ≤ 16) → V p l e R s m args below meth c 7 D A Q (0, 0) (fd dom σ_89) [(0, .ref h), (1, .ref g), (2, .int (iI z41_2)), (3, .int (iI z89_3))] 89 [] := by
        intro k89
        induction k89 with
        | zero => intro σ_89 z89_3 m89 G_89 F_89 r89_2 r89_3; omega
        | succ k89 IH89 =>
          intro σ_89 z89_3 m89 G_89 F_89 r89_2 r89_3
          have J194 : ∀ (z194_5 : Int), (0 ≤ z89_3 ∧ z89_3 ≤ 15) → (0 ≤ z194_5 ∧ z194_5 ≤ 255) → V p l e R s m args below meth c 7 D A Q (0, 0) (fd dom σ_89) [(0, .ref h), (1, .ref g), (2, .int (iI z41_2)), (3, .int (iI z89_3)), (5, .int (iI z194_5))] 194 [] := by
            intro z194_5 r194_3 r194_5
            refine v_aload_n B dX1_encipher_194 rfl rfl ?_
            refine v_iload_n B dX1_encipher_195 rfl rfl ?_
            refine v_iload B dX1_encipher_196 rfl ?_
            refine v_aload_n B dX1_encipher_198 rfl rfl ?_
            obtain ⟨a1, a2, h3, t4, t5⟩ : okCipher τ (σ_89 h) := G_89 h _ t_h
            refine u_get B Z (C := RX1) (T := TX1) (N := 2) (ci := 1) hi_encipherB_X1 t_h h3 rfl 0 (by decide +kernel) (List.mem_of_getElem? (i := 1) rfl) rfl dX1_encipher_199 ?_
            refine v_bipush B (v := iI 16) dX1_encipher_202 (by decide +kernel) ?_
            refine v_iload_n B dX1_encipher_204 rfl rfl ?_
            refine v_imul B (v := iI (16 * z41_2)) dX1_encipher_205 ((iI_mul _ _).trans (congrArg iI (by omega))) ?_
            refine v_iload_n B dX1_encipher_206 rfl rfl ?_
            refine v_iadd B (v := iI (16 * z41_2 + z89_3)) dX1_encipher_207 ((iI_add _ _).trans (congrArg iI (by omega))) ?_
            obtain ⟨f6, h7, r8, e9⟩ : okB K 176 (σ_89 a1) := G_89 a1 _ t4
            obtain ⟨z10, e11, r12⟩ := e9 ((16 * z41_2 + z89_3) : Int).toNat
            refine u_iald B Z (t0 := 0) t4 h7 rfl (by omega) e11 dX1_encipher_208 ?_
            obtain ⟨z13, e14, r15⟩ := iI_xor (a := z194_5) (b := z10) 8 (by decide) (by omega) (by omega)
            refine v_ixor B (v := iI z13) dX1_encipher_209 e14 ?_
            obtain ⟨f16, h17, r18, e19⟩ : okB K 16 (σ_89 g) := G_89 g _ t_g
            refine u_iast B Z (t0 := 0) t_g h17 rfl (by omega) dX1_encipher_210 (fun σ20 h21 n22 => ?_)
            have G23 := G_89.put t_g (⟨_, h21, r18, el_upd e19 (by omega) _⟩ : Ok K τ (2, π, 16) (σ20 g)) n22
            have F24 := F_89.put t_g (by simp) n22
            have h25 := (n22 h (ne_ty t_h t_g (by simp))).trans h3
            refine v_iinc B (k := 3) (v := iI (z89_3 + 1)) (lv' := [(3, .int (iI (z89_3 + 1))), (0, .ref h), (1, .ref g), (2, .int (iI z41_2)), (5, .int (iI z194_5))]) dX1_encipher_211 rfl ((iI_add _ _).trans (congrArg iI (by omega))) (by decide +kernel) rfl ?_
            refine v_goto B (tgt := 89) dX1_encipher_214 (by decide +kernel) ?_
            refine v_lv [1, 2, 3, 0] rfl ?_
            exact IH89 σ20 (z89_3 + 1) (by omega) G23 F24 ⟨by omega, by omega⟩ ⟨by omega, by omega⟩
          refine v_iload_n B dX1_encipher_89 rfl rfl ?_
          refine v_bipush B (v := iI 16) dX1_encipher_90 (by decide +kernel) ?_
          refine u_icmp_ge B (tgt := 217) (by omega) (by omega) dX1_encipher_92 (by decide +kernel) (fun c26 => ?_) (fun c26 => ?_)
          · refine v_iinc B (k := 2) (v := iI (z41_2 + 1)) (lv' := [(2, .int (iI (z41_2 + 1))), (0, .ref h), (1, .ref g), (3, .int (iI z89_3))]) dX1_encipher_217 rfl ((iI_add _ _).trans (congrArg iI (by omega))) (by decide +kernel) rfl ?_
            refine v_goto B (tgt := 41) dX1_encipher_220 (by decide +kernel) ?_
            refine v_lv [1, 2, 0] rfl ?_
            exact IH41 σ_89 (z41_2 + 1) (by omega) G_89 F_89 ⟨by omega, by omega⟩
          · refine v_iload_n B dX1_encipher_95 rfl rfl ?_
            refine v_bipush B (v := iI 12) dX1_encipher_96 (by decide +kernel) ?_
            obtain ⟨z27, e28, r29⟩ := iI_and z89_3 (c := 12) (by decide) (by decide)
            refine v_iand B (v := iI z27) dX1_encipher_98 e28 ?_
            refine v_istore B (lv' := [(4, .int (iI z27)), (0, .ref h), (1, .ref g), (2, .int (iI z41_2)), (3, .int (iI z89_3))]) dX1_encipher_99 (by decide +kernel) rfl ?_
            refine v_aload_n B dX1_encipher_101 rfl rfl ?_
            obtain ⟨a30, a31, h32, t33, t34⟩ : okCipher τ (σ_89 h) := G_89 h _ t_h
            refine u_get B Z (C := RX1) (T := TX1) (N := 2) (ci := 1) hi_encipherB_X1 t_h h32 rfl 1 (by decide +kernel) (List.mem_of_getElem? (i := 2) rfl) rfl dX1_encipher_102 ?_
            refine v_iload_n B dX1_encipher_105 rfl rfl ?_
            obtain ⟨f35, h36, r37, e38⟩ : okB K 16 (σ_89 a31) := G_89 a31 _ t34
            obtain ⟨z39, e40, r41⟩ := e38 (z89_3 : Int).toNat
            refine u_iald B Z (t0 := 0) t34 h36 rfl (by omega) e40 dX1_encipher_106 ?_
            refine v_istore B (lv' := [(5, .int (iI z39)), (4, .int (iI z27)), (0, .ref h), (1, .ref g), (2, .int (iI z41_2)), (3, .int (iI z89_3))]) dX1_encipher_107 (by decide +kernel) rfl ?_
            refine v_iload_n B dX1_encipher_109 rfl rfl ?_
            refine v_bipush B (v := iI 10) dX1_encipher_110 (by decide +kernel) ?_
            refine u_icmp_ge B (tgt := 194) (by omega) (by omega) dX1_encipher_112 (by decide +kernel) (fun c42 => ?_) (fun c42 => ?_)
            · refine v_lv [2, 3, 4, 5, 0] rfl ?_
              exact J194 z39 ⟨by omega, by omega⟩ ⟨by omega, by omega⟩
            · refine v_iload B dX1_encipher_115 rfl ?_
              refine v_aload_n B dX1_encipher_117 rfl rfl ?_
              refine u_get B Z (C := RX1) (T := TX1) (N := 2) (ci := 1) hi_encipherB_X1 t_h h32 rfl 1 (by decide +kernel) (List.mem_of_getElem? (i := 2) rfl) rfl dX1_encipher_118 ?_
              refine v_iload B dX1_encipher_121 rfl ?_
              refine v_iload_n B dX1_encipher_123 rfl rfl ?_
              refine v_iconst B (v := iI 1) dX1_encipher_124 rfl ?_
              refine v_iadd B (v := iI (z89_3 + 1)) dX1_encipher_125 ((iI_add _ _).trans (congrArg iI (by omega))) ?_
              refine v_iconst B (v := iI 3) dX1_encipher_126 rfl ?_
              obtain ⟨z43, e44, r45⟩ := iI_and (z89_3 + 1) (c := 3) (by decide) (by decide)
              refine v_iand B (v := iI z43) dX1_encipher_127 e44 ?_
              refine v_iadd B (v := iI (z27 + z43)) dX1_encipher_128 ((iI_add _ _).trans (congrArg iI (by omega))) ?_
              obtain ⟨z46, e47, r48⟩ := e38 ((z27 + z43) : Int).toNat
              refine u_iald B Z (t0 := 0) t34 h36 rfl (by omega) e47 dX1_encipher_129 ?_
              obtain ⟨z49, e50, r51⟩ := iI_xor (a := z39) (b := z46) 8 (by decide) (by omega) (by omega)
              refine v_ixor B (v := iI z49) dX1_encipher_130 e50 ?_
              refine v_istore B (lv' := [(6, .int (iI z49)), (5, .int (iI z39)), (4, .int (iI z27)), (0, .ref h), (1, .ref g), (2, .int (iI z41_2)), (3, .int (iI z89_3))]) dX1_encipher_131 (by decide +kernel) rfl ?_
              refine v_iload B dX1_encipher_133 rfl ?_
              refine v_aload_n B dX1_encipher_135 rfl rfl ?_
              refine u_get B Z (C := RX1) (T := TX1) (N := 2) (ci := 1) hi_encipherB_X1 t_h h32 rfl 1 (by decide +kernel) (List.mem_of_getElem? (i := 2) rfl) rfl dX1_encipher_136 ?_
              refine v_iload B dX1_encipher_139 rfl ?_
              obtain ⟨z52, e53, r54⟩ := e38 (z27 : Int).toNat
              refine u_iald B Z (t0 := 0) t34 h36 rfl (by omega) e53 dX1_encipher_141 ?_
              refine v_aload_n B dX1_encipher_142 rfl rfl ?_
              refine u_get B Z (C := RX1) (T := TX1) (N := 2) (ci := 1) hi_encipherB_X1 t_h h32 rfl 1 (by decide +kernel) (List.mem_of_getElem? (i := 2) rfl) rfl dX1_encipher_143 ?_
              refine v_iload B dX1_encipher_146 rfl ?_
              refine v_iconst B (v := iI 1) dX1_encipher_148 rfl ?_
              refine v_iadd B (v := iI (z27 + 1)) dX1_encipher_149 ((iI_add _ _).trans (congrArg iI (by omega))) ?_
              obtain ⟨z55, e56, r57⟩ := e38 ((z27 + 1) : Int).toNat
              refine u_iald B Z (t0 := 0) t34 h36 rfl (by omega) e56 dX1_encipher_150 ?_
              obtain ⟨z58, e59, r60⟩ := iI_xor (a := z52) (b := z55) 8 (by decide) (by omega) (by omega)
              refine v_ixor B (v := iI z58) dX1_encipher_151 e59 ?_
              refine v_aload_n B dX1_encipher_152 rfl rfl ?_
              refine u_get B Z (C := RX1) (T := TX1) (N := 2) (ci := 1) hi_encipherB_X1 t_h h32 rfl 1 (by decide +kernel) (List.mem_of_getElem? (i := 2) rfl) rfl dX1_encipher_153 ?_
              refine v_iload B dX1_encipher_156 rfl ?_
              refine v_iconst B (v := iI 2) dX1_encipher_158 rfl ?_
              refine v_iadd B (v := iI (z27 + 2)) dX1_encipher_159 ((iI_add _ _).trans (congrArg iI (by omega))) ?_
              obtain ⟨z61, e62, r63⟩ := e38 ((z27 + 2) : Int).toNat
              refine u_iald B Z (t0 := 0) t34 h36 rfl (by omega) e62 dX1_encipher_160 ?_
              obtain ⟨z64, e65, r66⟩ := iI_xor (a := z58) (b := z61) 8 (by decide) (by omega) (by omega)
              refine v_ixor B (v := iI z64) dX1_encipher_161 e65 ?_
              refine v_aload_n B dX1_encipher_162 rfl rfl ?_
              refine u_get B Z (C := RX1) (T := TX1) (N := 2) (ci := 1) hi_encipherB_X1 t_h h32 rfl 1 (by decide +kernel) (List.mem_of_getElem? (i := 2) rfl) rfl dX1_encipher_163 ?_
              refine v_iload B dX1_encipher_166 rfl ?_
              refine v_iconst B (v := iI 3) dX1_encipher_168 rfl ?_
              refine v_iadd B (v := iI (z27 + 3)) dX1_encipher_169 ((iI_add _ _).trans (congrArg iI (by omega))) ?_
              obtain ⟨z67, e68, r69⟩ := e38 ((z27 + 3) : Int).toNat
              refine u_iald B Z (t0 := 0) t34 h36 rfl (by omega) e68 dX1_encipher_170 ?_
              obtain ⟨z70, e71, r72⟩ := iI_xor (a := z64) (b := z67) 8 (by decide) (by omega) (by omega)
              refine v_ixor B (v := iI z70) dX1_encipher_171 e71 ?_
              obtain ⟨z73, e74, r75⟩ := iI_xor (a := z39) (b := z70) 8 (by decide) (by omega) (by omega)
              refine v_ixor B (v := iI z73) dX1_encipher_172 e74 ?_
              refine v_istore B (lv' := [(5, .int (iI z73)), (6, .int (iI z49)), (4, .int (iI z27)), (0, .ref h), (1, .ref g), (2, .int (iI z41_2)), (3, .int (iI z89_3))]) dX1_encipher_173 (by decide +kernel) rfl ?_
              refine v_iload B dX1_encipher_175 rfl ?_
              refine v_iload B dX1_encipher_177 rfl ?_
              refine v_iconst B (v := iI 1) dX1_encipher_179 rfl ?_
              refine v_ishl B (v := iI (2 * z49)) dX1_encipher_180 ((iI_shl z49 1 (by decide)).trans (congrArg iI (by omega))) ?_
              refine v_sipush B (v := iI 283) dX1_encipher_181 (by decide +kernel) ?_
              refine v_iload B dX1_encipher_184 rfl ?_
              refine v_bipush B (v := iI 7) dX1_encipher_186 (by decide +kernel) ?_
              obtain ⟨z76, e77⟩ : ∃ z : Int, z = z49 / 128 := ⟨_, rfl⟩
              refine v_ishr B (v := iI z76) dX1_encipher_188 ((iI_shr (a := z49) (by omega) 7 (by decide)).trans (congrArg iI (by omega))) ?_
              refine v_imul B (v := iI (283 * z76)) dX1_encipher_189 ((iI_mul _ _).trans (congrArg iI (by omega))) ?_
              obtain ⟨z78, e79, r80⟩ := iI_xt (c := z49) (by omega) e77
              refine v_ixor B (v := iI z78) dX1_encipher_190 e79 ?_
              obtain ⟨z81, e82, r83⟩ := iI_xor (a := z73) (b := z78) 8 (by decide) (by omega) (by omega)
              refine v_ixor B (v := iI z81) dX1_encipher_191 e82 ?_
              refine v_istore B (lv' := [(5, .int (iI z81)), (6, .int (iI z49)), (4, .int (iI z27)), (0, .ref h), (1, .ref g), (2, .int (iI z41_2)), (3, .int (iI z89_3))]) dX1_encipher_192 (by decide +kernel) rfl ?_
              refine v_lv [3, 4, 5, 6, 0] rfl ?_
              exact J194 z81 ⟨by omega, by omega⟩ ⟨by omega, by omega⟩
      have J49 : ∀ (k49 : Nat) (σ_49 : Nat → va_E) (z49_3 : Int), (2147483648 - z49_3).toNat ≤ k49 → Good K τ σ_49 → Fr τ [(2, π), (2, 32)] σ0 σ_49 → (1 ≤ z41_2 ∧ z41_2 ≤ 10) → (0 ≤ z49_3 ∧ z49_3 ≤ 16) → V p l e R s m args below meth c 7 D A Q (0, 0) (fd dom σ_49) [(0, .ref h), (1, .ref g), (2, .int (iI z41_2)), (3, .int (iI z49_3))] 49 [] := by
        intro k49
        induction k49 with
        | zero => intro σ_49 z49_3 m49 G_49 F_49 r49_2 r49_3; omega
        | succ k49 IH49 =>
          intro σ_49 z49_3 m49 G_49 F_49 r49_2 r49_3
          refine v_iload_n B dX1_encipher_49 rfl rfl ?_
          refine v_bipush B (v := iI 16) dX1_encipher_50 (by decide +kernel) ?_
          refine u_icmp_ge B (tgt := 87) (by omega) (by omega) dX1_encipher_52 (by decide +kernel) (fun c84 => ?_) (fun c84 => ?_)
          · refine v_iconst B (v := iI 0) dX1_encipher_87 rfl ?_
            refine v_istore_n B (lv' := [(3, .int (iI 0)), (0, .ref h), (1, .ref g), (2, .int (iI z41_2))]) dX1_encipher_88 rfl (by decide +kernel) rfl ?_
            refine v_lv [1, 2, 3, 0] rfl ?_
            exact J89 _ σ_49 0 (Nat.le_refl _) G_49 F_49 ⟨by omega, by omega⟩ ⟨by omega, by omega⟩
          · refine v_aload_n B dX1_encipher_55 rfl rfl ?_
            obtain ⟨a85, a86, h87, t88, t89⟩ : okCipher τ (σ_49 h) := G_49 h _ t_h
            refine u_get B Z (C := RX1) (T := TX1) (N := 2) (ci := 1) hi_encipherB_X1 t_h h87 rfl 1 (by decide +kernel) (List.mem_of_getElem? (i := 2) rfl) rfl dX1_encipher_56 ?_
            refine v_iload_n B dX1_encipher_59 rfl rfl ?_
            refine u_gets3 B hz (List.mem_of_getElem? (i := 3) rfl) dX1_encipher_60 ?_
            refine v_aload_n B dX1_encipher_63 rfl rfl ?_
            refine v_iload_n B dX1_encipher_64 rfl rfl ?_
            refine v_iconst B (v := iI 4) dX1_encipher_65 rfl ?_
            refine v_iload_n B dX1_encipher_66 rfl rfl ?_
            refine v_iconst B (v := iI 3) dX1_encipher_67 rfl ?_
            obtain ⟨z90, e91, r92⟩ := iI_and z49_3 (c := 3) (by decide) (by decide)
            refine v_iand B (v := iI z90) dX1_encipher_68 e91 ?_
            refine v_imul B (v := iI (4 * z90)) dX1_encipher_69 ((iI_mul _ _).trans (congrArg iI (by omega))) ?_
            refine v_iadd B (v := iI (z49_3 + 4 * z90)) dX1_encipher_70 ((iI_add _ _).trans (congrArg iI (by omega))) ?_
            refine v_bipush B (v := iI 15) dX1_encipher_71 (by decide +kernel) ?_
            obtain ⟨z93, e94, r95⟩ := iI_and (z49_3 + 4 * z90) (c := 15) (by decide) (by decide)
            refine v_iand B (v := iI z93) dX1_encipher_73 e94 ?_
            obtain ⟨f96, h97, r98, e99⟩ : okB K 16 (σ_49 g) := G_49 g _ t_g
            obtain ⟨z100, e101, r102⟩ := e99 (z93 : Int).toNat
            refine u_iald B Z (t0 := 0) t_g h97 rfl (by omega) e101 dX1_encipher_74 ?_
            refine v_sipush B (v := iI 255) dX1_encipher_75 (by decide +kernel) ?_
            obtain ⟨z103, e104, r105⟩ := iI_and z100 (c := 255) (by decide) (by decide)
            refine v_iand B (v := iI z103) dX1_encipher_78 e104 ?_
            refine u_sbox B hz (by omega) dX1_encipher_79 (fun z106 r107 => ?_)
            obtain ⟨f108, h109, r110, e111⟩ : okB K 16 (σ_49 a86) := G_49 a86 _ t89
            refine u_iast B Z (t0 := 0) t89 h109 rfl (by omega) dX1_encipher_80 (fun σ112 h113 n114 => ?_)
            have G115 := G_49.put t89 (⟨_, h113, r110, el_upd e111 (by omega) _⟩ : Ok K τ (2, 32, 16) (σ112 a86)) n114
            have F116 := F_49.put t89 (by simp) n114
            have h117 := (n114 h (ne_ty t_h t89 (by simp))).trans h87
            refine v_iinc B (k := 3) (v := iI (z49_3 + 1)) (lv' := [(3, .int (iI (z49_3 + 1))), (0, .ref h), (1, .ref g), (2, .int (iI z41_2))]) dX1_encipher_81 rfl ((iI_add _ _).trans (congrArg iI (by omega))) (by decide +kernel) rfl ?_
            refine v_goto B (tgt := 49) dX1_encipher_84 (by decide +kernel) ?_
            refine v_lv [1, 2, 3, 0] rfl ?_
            exact IH49 σ112 (z49_3 + 1) (by omega) G115 F116 ⟨by omega, by omega⟩ ⟨by omega, by omega⟩
      refine v_iload_n B dX1_encipher_41 rfl rfl ?_
      refine v_bipush B (v := iI 10) dX1_encipher_42 (by decide +kernel) ?_
      refine u_icmp_gt B (tgt := 223) (by omega) (by omega) dX1_encipher_44 (by decide +kernel) (fun c118 => ?_) (fun c118 => ?_)
      · exact hend σ_41 _ _ G_41 F_41 dX1_encipher_223
      · refine v_iconst B (v := iI 0) dX1_encipher_47 rfl ?_
        refine v_istore_n B (lv' := [(3, .int (iI 0)), (0, .ref h), (1, .ref g), (2, .int (iI z41_2))]) dX1_encipher_48 rfl (by decide +kernel) rfl ?_
        refine v_lv [1, 2, 3, 0] rfl ?_
        exact J49 _ σ_41 0 (Nat.le_refl _) G_41 F_41 ⟨by omega, by omega⟩ ⟨by omega, by omega⟩
  have J10 : ∀ (k10 : Nat) (σ_10 : Nat → va_E) (z10_2 : Int), (2147483648 - z10_2).toNat ≤ k10 → Good K τ σ_10 → Fr τ [(2, π), (2, 32)] σ0 σ_10 → (0 ≤ z10_2 ∧ z10_2 ≤ 16) → V p l e R s m args below meth c 7 D A Q (0, 0) (fd dom σ_10) [(0, .ref h), (1, .ref g), (2, .int (iI z10_2))] 10 [] := by
    intro k10
    induction k10 with
    | zero => intro σ_10 z10_2 m10 G_10 F_10 r10_2; omega
    | succ k10 IH10 =>
      intro σ_10 z10_2 m10 G_10 F_10 r10_2
      refine v_iload_n B dX1_encipher_10 rfl rfl ?_
      refine v_bipush B (v := iI 16) dX1_encipher_11 (by decide +kernel) ?_
      refine u_icmp_ge B (tgt := 39) (by omega) (by omega) dX1_encipher_13 (by decide +kernel) (fun c119 => ?_) (fun c119 => ?_)
      · refine v_iconst B (v := iI 1) dX1_encipher_39 rfl ?_
        refine v_istore_n B (lv' := [(2, .int (iI 1)), (0, .ref h), (1, .ref g)]) dX1_encipher_40 rfl (by decide +kernel) rfl ?_
        refine v_lv [1, 2, 0] rfl ?_
        exact J41 _ σ_10 1 (Nat.le_refl _) G_10 F_10 ⟨by omega, by omega⟩
      · refine v_aload_n B dX1_encipher_16 rfl rfl ?_
        refine v_iload_n B dX1_encipher_17 rfl rfl ?_
        refine v_aload_n B dX1_encipher_18 rfl rfl ?_
        refine v_iload_n B dX1_encipher_19 rfl rfl ?_
        obtain ⟨f120, h121, r122, e123⟩ : okB K 16 (σ_10 g) := G_10 g _ t_g
        obtain ⟨z124, e125, r126⟩ := e123 (z10_2 : Int).toNat
        refine u_iald B Z (t0 := 0) t_g h121 rfl (by omega) e125 dX1_encipher_20 ?_
        refine v_aload_n B dX1_encipher_21 rfl rfl ?_
        obtain ⟨a127, a128, h129, t130, t131⟩ : okCipher τ (σ_10 h) := G_10 h _ t_h
        refine u_get B Z (C := RX1) (T := TX1) (N := 2) (ci := 1) hi_encipherB_X1 t_h h129 rfl 0 (by decide +kernel) (List.mem_of_getElem? (i := 1) rfl) rfl dX1_encipher_22 ?_
        refine v_iload_n B dX1_encipher_25 rfl rfl ?_
        obtain ⟨f132, h133, r134, e135⟩ : okB K 176 (σ_10 a127) := G_10 a127 _ t130
        obtain ⟨z136, e137, r138⟩ := e135 (z10_2 : Int).toNat
        refine u_iald B Z (t0 := 0) t130 h133 rfl (by omega) e137 dX1_encipher_26 ?_
        obtain ⟨z139, e140, r141⟩ := iI_xor (a := z124) (b := z136) 8 (by decide) (by omega) (by omega)
        refine v_ixor B (v := iI z139) dX1_encipher_27 e140 ?_
        refine v_sipush B (v := iI 255) dX1_encipher_28 (by decide +kernel) ?_
        obtain ⟨z142, e143, r144⟩ := iI_and z139 (c := 255) (by decide) (by decide)
        refine v_iand B (v := iI z142) dX1_encipher_31 e143 ?_
        refine u_iast B Z (t0 := 0) t_g h121 rfl (by omega) dX1_encipher_32 (fun σ145 h146 n147 => ?_)
        have G148 := G_10.put t_g (⟨_, h146, r122, el_upd e123 (by omega) _⟩ : Ok K τ (2, π, 16) (σ145 g)) n147
        have F149 := F_10.put t_g (by simp) n147
        have h150 := (n147 h (ne_ty t_h t_g (by simp))).trans h129
        refine v_iinc B (k := 2) (v := iI (z10_2 + 1)) (lv' := [(2, .int (iI (z10_2 + 1))), (0, .ref h), (1, .ref g)]) dX1_encipher_33 rfl ((iI_add _ _).trans (congrArg iI (by omega))) (by decide +kernel) rfl ?_
        refine v_goto B (tgt := 10) dX1_encipher_36 (by decide +kernel) ?_
        refine v_lv [1, 2, 0] rfl ?_
        exact IH10 σ145 (z10_2 + 1) (by omega) G148 F149 ⟨by omega, by omega⟩
  refine v_aload_n B dX1_encipher_0 rfl rfl ?_
  obtain ⟨f151, h152, r153, e154⟩ : okB K 16 (σ0 g) := G0 g _ t_g
  refine u_alen B Z (t0 := 0) (v := 16) t_g h152 rfl (by first | rfl | omega) dX1_encipher_1 ?_
  refine v_bipush B (v := iI 16) dX1_encipher_2 (by decide +kernel) ?_
  refine u_icmp_ge B (tgt := 8) (by omega) (by omega) dX1_encipher_4 (by decide +kernel) (fun c155 => ?_) (fun c155 => by omega)
  refine v_iconst B (v := iI 0) dX1_encipher_8 rfl ?_
  refine v_istore_n B (lv' := [(2, .int (iI 0)), (0, .ref h), (1, .ref g)]) dX1_encipher_9 rfl (by decide +kernel) rfl ?_
  refine v_lv [1, 2, 0] rfl ?_
  exact J10 _ σ0 0 (Nat.le_refl _) G0 F0 ⟨by omega, by omega⟩
set_option maxRecDepth 100000 in
theorem c_encipherB (l : Launch) (D : va_G) (K : Nat → ClassId) {τ : Nat → Option Ty} {dom : List Nat} (Z : Sk τ dom) (zb zL : Nat) (zx : Nat → Int32) (zs : Nat → Nat) {π : Nat} (h : Nat) (g : Nat) (t_h : τ h = some (31, 0, 0)) (t_g : τ g = some (2, π, 16)) (σ0 : Nat → va_E) (G0 : Good K τ σ0) : MZ l yX1_encipher wp_encipherB ({ frames := 0, cells := 0, slots := 0, locals := 0 }) D (tysA K) [.ref h, .ref g] (fd dom σ0) zb zL zx zs (Qv D (fun σ' => Good K τ σ' ∧ Fr τ [(2, π), (2, 32)] σ0 σ') (fun σ' => fd dom σ')) 0 0 := by
  refine mz_of (cc := cX1_encipher) (maxL := 7) (ret := none) (by decide +kernel) rfl (Nat.le_of_ble_eq_true rfl) ?_
  intro p e s m below meth c A B hr hlk _ hz
  exact b_encipherB ⟨Nat.le_refl _, Nat.le_refl _⟩ B Z hz h g t_h t_g σ0 G0 (fun σ' lv pc G F hd => v_vret B hr hlk σ' ⟨G, F⟩ rfl (Nat.le_refl _) (Nat.le_refl _) hd)

def wp_encipherP : List Cond := .code yX1_encipher cX1_encipher 7 none :: (([.fieldLink RX1 9 "LowEnergy$Cipher" "roundKeys" "[I", .fieldLink RX1 13 "LowEnergy$Cipher" "moved" "[I", .fieldLink RX1 16 "LowEnergy$Cipher" "SBOX" "[I"] : List Cond) ++ (wsX10 ++ ([])))
theorem hi_encipherP_X1 : ∀ x ∈ u_ws RX1 TX1 2, x ∈ wp_encipherP := fun _ h => List.mem_cons_of_mem _ (List.mem_append_right _ (List.mem_append_left _ h))
set_option maxHeartbeats 4000000 in
set_option maxRecDepth 100000 in
theorem b_encipherP {p : Program} {l : Launch} {e : Env} {R : Room} {s : State} {m : MethodId} {args : Array Value} {below : List Frame} {meth : Method} {c : Code} {D : va_G} {K : Nat → ClassId} {A : Nat → Prop} {Q : State → Prop} {τ : Nat → Option Ty} {dom : List Nat} {zb zL : Nat} {zx : Nat → Int32} {zs : Nat → Nat} {π : Nat} (hR : 0 ≤ R.frames ∧ 0 ≤ R.locals) (B : Bx p s m args c cX1_encipher 7 RX1 wp_encipherP D (tysA K) A) (Z : Sk τ dom) (hz : ZL zb zL zx zs A s s.heap) (h : Nat) (g : Nat) (t_h : τ h = some (31, 0, 0)) (t_g : τ g = some (3, π, 16)) (σ0 : Nat → va_E) (G0 : Good K τ σ0) (hend : ∀ (σ' : Nat → va_E) (lv : List (Nat × Value)) (pc : Nat), Good K τ σ' → Fr τ [(3, π), (2, 32)] σ0 σ' → decode cX1_encipher pc = .ok (.return_, 1) → V p l e R s m args below meth c 7 D A Q (0, 0) (fd dom σ') lv pc []) : V p l e R s m args below meth c 7 D A Q (0, 0) (fd dom σ0) [(0, .ref h), (1, .ref g)] 0 [] := by
  have F0 : Fr τ [(3, π), (2, 32)] σ0 σ0 := Fr.rf
  have J41 : ∀ (k41 : Nat) (σ_41 : Nat → va_E) (z41_2 : Int), (2147483648 - z41_2).toNat ≤ k41 → Good K τ σ_41 → Fr τ [(3, π), (2, 32)] σ0 σ_41 → (1 ≤ z41_2 ∧ z41_2 ≤ 11) → V p l e R s m args below meth c 7 D A Q (0, 0) (fd dom σ_41) [(0, .ref h), (1, .ref g), (2, .int (iI z41_2))] 41 [] := by
    intro k41
    induction k41 with
    | zero => intro σ_41 z41_2 m41 G_41 F_41 r41_2; omega
    | succ k41 IH41 =>
      intro σ_41 z41_2 m41 G_41 F_41 r41_2
      have J89 : ∀ (k89 : Nat) (σ_89 : Nat → va_E) (z89_3 : Int), (2147483648 - z89_3).toNat ≤ k89 → Good K τ σ_89 → Fr τ [(3, π), (2, 32)] σ0 σ_89 → (1 ≤ z41_2 ∧ z41_2 ≤ 10) → (0 ≤ z89_3 ∧ z89_3 ≤ 16) → V p l e R s m args below meth c 7 D A Q (0, 0) (fd dom σ_89) [(0, .ref h), (1, .ref g), (2, .int (iI z41_2)), (3, .int (iI z89_3))] 89 [] := by
        intro k89
        induction k89 with
        | zero => intro σ_89 z89_3 m89 G_89 F_89 r89_2 r89_3; omega
        | succ k89 IH89 =>
          intro σ_89 z89_3 m89 G_89 F_89 r89_2 r89_3
          have J194 : ∀ (z194_5 : Int), (0 ≤ z89_3 ∧ z89_3 ≤ 15) → (0 ≤ z194_5 ∧ z194_5 ≤ 255) → V p l e R s m args below meth c 7 D A Q (0, 0) (fd dom σ_89) [(0, .ref h), (1, .ref g), (2, .int (iI z41_2)), (3, .int (iI z89_3)), (5, .int (iI z194_5))] 194 [] := by
            intro z194_5 r194_3 r194_5
            refine v_aload_n B dX1_encipher_194 rfl rfl ?_
            refine v_iload_n B dX1_encipher_195 rfl rfl ?_
            refine v_iload B dX1_encipher_196 rfl ?_
            refine v_aload_n B dX1_encipher_198 rfl rfl ?_
            obtain ⟨a1, a2, h3, t4, t5⟩ : okCipher τ (σ_89 h) := G_89 h _ t_h
            refine u_get B Z (C := RX1) (T := TX1) (N := 2) (ci := 1) hi_encipherP_X1 t_h h3 rfl 0 (by decide +kernel) (List.mem_of_getElem? (i := 1) rfl) rfl dX1_encipher_199 ?_
            refine v_bipush B (v := iI 16) dX1_encipher_202 (by decide +kernel) ?_
            refine v_iload_n B dX1_encipher_204 rfl rfl ?_
            refine v_imul B (v := iI (16 * z41_2)) dX1_encipher_205 ((iI_mul _ _).trans (congrArg iI (by omega))) ?_
            refine v_iload_n B dX1_encipher_206 rfl rfl ?_
            refine v_iadd B (v := iI (16 * z41_2 + z89_3)) dX1_encipher_207 ((iI_add _ _).trans (congrArg iI (by omega))) ?_
            obtain ⟨f6, h7, r8, e9⟩ : okB K 176 (σ_89 a1) := G_89 a1 _ t4
            obtain ⟨z10, e11, r12⟩ := e9 ((16 * z41_2 + z89_3) : Int).toNat
            refine u_iald B Z (t0 := 0) t4 h7 rfl (by omega) e11 dX1_encipher_208 ?_
            obtain ⟨z13, e14, r15⟩ := iI_xor (a := z194_5) (b := z10) 8 (by decide) (by omega) (by omega)
            refine v_ixor B (v := iI z13) dX1_encipher_209 e14 ?_
            obtain ⟨f16, h17, r18⟩ : okP K 16 (σ_89 g) := G_89 g _ t_g
            refine u_iast B Z (t0 := 0) t_g h17 rfl (by omega) dX1_encipher_210 (fun σ19 h20 n21 => ?_)
            have G22 := G_89.put t_g (⟨_, h20, r18⟩ : Ok K τ (3, π, 16) (σ19 g)) n21
            have F23 := F_89.put t_g (by simp) n21
            have h24 := (n21 h (ne_ty t_h t_g (by simp))).trans h3
            have h25 := (n21 a1 (ne_ty t4 t_g (by simp))).trans h7
            refine v_iinc B (k := 3) (v := iI (z89_3 + 1)) (lv' := [(3, .int (iI (z89_3 + 1))), (0, .ref h), (1, .ref g), (2, .int (iI z41_2)), (5, .int (iI z194_5))]) dX1_encipher_211 rfl ((iI_add _ _).trans (congrArg iI (by omega))) (by decide +kernel) rfl ?_
            refine v_goto B (tgt := 89) dX1_encipher_214 (by decide +kernel) ?_
            refine v_lv [1, 2, 3, 0] rfl ?_
            exact IH89 σ19 (z89_3 + 1) (by omega) G22 F23 ⟨by omega, by omega⟩ ⟨by omega, by omega⟩
          refine v_iload_n B dX1_encipher_89 rfl rfl ?_
          refine v_bipush B (v := iI 16) dX1_encipher_90 (by decide +kernel) ?_
          refine u_icmp_ge B (tgt := 217) (by omega) (by omega) dX1_encipher_92 (by decide +kernel) (fun c26 => ?_) (fun c26 => ?_)
          · refine v_iinc B (k := 2) (v := iI (z41_2 + 1)) (lv' := [(2, .int (iI (z41_2 + 1))), (0, .ref h), (1, .ref g), (3, .int (iI z89_3))]) dX1_encipher_217 rfl ((iI_add _ _).trans (congrArg iI (by omega))) (by decide +kernel) rfl ?_
            refine v_goto B (tgt := 41) dX1_encipher_220 (by decide +kernel) ?_
            refine v_lv [1, 2, 0] rfl ?_
            exact IH41 σ_89 (z41_2 + 1) (by omega) G_89 F_89 ⟨by omega, by omega⟩
          · refine v_iload_n B dX1_encipher_95 rfl rfl ?_
            refine v_bipush B (v := iI 12) dX1_encipher_96 (by decide +kernel) ?_
            obtain ⟨z27, e28, r29⟩ := iI_and z89_3 (c := 12) (by decide) (by decide)
            refine v_iand B (v := iI z27) dX1_encipher_98 e28 ?_
            refine v_istore B (lv' := [(4, .int (iI z27)), (0, .ref h), (1, .ref g), (2, .int (iI z41_2)), (3, .int (iI z89_3))]) dX1_encipher_99 (by decide +kernel) rfl ?_
            refine v_aload_n B dX1_encipher_101 rfl rfl ?_
            obtain ⟨a30, a31, h32, t33, t34⟩ : okCipher τ (σ_89 h) := G_89 h _ t_h
            refine u_get B Z (C := RX1) (T := TX1) (N := 2) (ci := 1) hi_encipherP_X1 t_h h32 rfl 1 (by decide +kernel) (List.mem_of_getElem? (i := 2) rfl) rfl dX1_encipher_102 ?_
            refine v_iload_n B dX1_encipher_105 rfl rfl ?_
            obtain ⟨f35, h36, r37, e38⟩ : okB K 16 (σ_89 a31) := G_89 a31 _ t34
            obtain ⟨z39, e40, r41⟩ := e38 (z89_3 : Int).toNat
            refine u_iald B Z (t0 := 0) t34 h36 rfl (by omega) e40 dX1_encipher_106 ?_
            refine v_istore B (lv' := [(5, .int (iI z39)), (4, .int (iI z27)), (0, .ref h), (1, .ref g), (2, .int (iI z41_2)), (3, .int (iI z89_3))]) dX1_encipher_107 (by decide +kernel) rfl ?_
            refine v_iload_n B dX1_encipher_109 rfl rfl ?_
            refine v_bipush B (v := iI 10) dX1_encipher_110 (by decide +kernel) ?_
            refine u_icmp_ge B (tgt := 194) (by omega) (by omega) dX1_encipher_112 (by decide +kernel) (fun c42 => ?_) (fun c42 => ?_)
            · refine v_lv [2, 3, 4, 5, 0] rfl ?_
              exact J194 z39 ⟨by omega, by omega⟩ ⟨by omega, by omega⟩
            · refine v_iload B dX1_encipher_115 rfl ?_
              refine v_aload_n B dX1_encipher_117 rfl rfl ?_
              refine u_get B Z (C := RX1) (T := TX1) (N := 2) (ci := 1) hi_encipherP_X1 t_h h32 rfl 1 (by decide +kernel) (List.mem_of_getElem? (i := 2) rfl) rfl dX1_encipher_118 ?_
              refine v_iload B dX1_encipher_121 rfl ?_
              refine v_iload_n B dX1_encipher_123 rfl rfl ?_
              refine v_iconst B (v := iI 1) dX1_encipher_124 rfl ?_
              refine v_iadd B (v := iI (z89_3 + 1)) dX1_encipher_125 ((iI_add _ _).trans (congrArg iI (by omega))) ?_
              refine v_iconst B (v := iI 3) dX1_encipher_126 rfl ?_
              obtain ⟨z43, e44, r45⟩ := iI_and (z89_3 + 1) (c := 3) (by decide) (by decide)
              refine v_iand B (v := iI z43) dX1_encipher_127 e44 ?_
              refine v_iadd B (v := iI (z27 + z43)) dX1_encipher_128 ((iI_add _ _).trans (congrArg iI (by omega))) ?_
              obtain ⟨z46, e47, r48⟩ := e38 ((z27 + z43) : Int).toNat
              refine u_iald B Z (t0 := 0) t34 h36 rfl (by omega) e47 dX1_encipher_129 ?_
              obtain ⟨z49, e50, r51⟩ := iI_xor (a := z39) (b := z46) 8 (by decide) (by omega) (by omega)
              refine v_ixor B (v := iI z49) dX1_encipher_130 e50 ?_
              refine v_istore B (lv' := [(6, .int (iI z49)), (5, .int (iI z39)), (4, .int (iI z27)), (0, .ref h), (1, .ref g), (2, .int (iI z41_2)), (3, .int (iI z89_3))]) dX1_encipher_131 (by decide +kernel) rfl ?_
              refine v_iload B dX1_encipher_133 rfl ?_
              refine v_aload_n B dX1_encipher_135 rfl rfl ?_
              refine u_get B Z (C := RX1) (T := TX1) (N := 2) (ci := 1) hi_encipherP_X1 t_h h32 rfl 1 (by decide +kernel) (List.mem_of_getElem? (i := 2) rfl) rfl dX1_encipher_136 ?_
              refine v_iload B dX1_encipher_139 rfl ?_
              obtain ⟨z52, e53, r54⟩ := e38 (z27 : Int).toNat
              refine u_iald B Z (t0 := 0) t34 h36 rfl (by omega) e53 dX1_encipher_141 ?_
              refine v_aload_n B dX1_encipher_142 rfl rfl ?_
              refine u_get B Z (C := RX1) (T := TX1) (N := 2) (ci := 1) hi_encipherP_X1 t_h h32 rfl 1 (by decide +kernel) (List.mem_of_getElem? (i := 2) rfl) rfl dX1_encipher_143 ?_
              refine v_iload B dX1_encipher_146 rfl ?_
              refine v_iconst B (v := iI 1) dX1_encipher_148 rfl ?_
              refine v_iadd B (v := iI (z27 + 1)) dX1_encipher_149 ((iI_add _ _).trans (congrArg iI (by omega))) ?_
              obtain ⟨z55, e56, r57⟩ := e38 ((z27 + 1) : Int).toNat
              refine u_iald B Z (t0 := 0) t34 h36 rfl (by omega) e56 dX1_encipher_150 ?_
              obtain ⟨z58, e59, r60⟩ := iI_xor (a := z52) (b := z55) 8 (by decide) (by omega) (by omega)
              refine v_ixor B (v := iI z58) dX1_encipher_151 e59 ?_
              refine v_aload_n B dX1_encipher_152 rfl rfl ?_
              refine u_get B Z (C := RX1) (T := TX1) (N := 2) (ci := 1) hi_encipherP_X1 t_h h32 rfl 1 (by decide +kernel) (List.mem_of_getElem? (i := 2) rfl) rfl dX1_encipher_153 ?_
              refine v_iload B dX1_encipher_156 rfl ?_
              refine v_iconst B (v := iI 2) dX1_encipher_158 rfl ?_
              refine v_iadd B (v := iI (z27 + 2)) dX1_encipher_159 ((iI_add _ _).trans (congrArg iI (by omega))) ?_
              obtain ⟨z61, e62, r63⟩ := e38 ((z27 + 2) : Int).toNat
              refine u_iald B Z (t0 := 0) t34 h36 rfl (by omega) e62 dX1_encipher_160 ?_
              obtain ⟨z64, e65, r66⟩ := iI_xor (a := z58) (b := z61) 8 (by decide) (by omega) (by omega)
              refine v_ixor B (v := iI z64) dX1_encipher_161 e65 ?_
              refine v_aload_n B dX1_encipher_162 rfl rfl ?_
              refine u_get B Z (C := RX1) (T := TX1) (N := 2) (ci := 1) hi_encipherP_X1 t_h h32 rfl 1 (by decide +kernel) (List.mem_of_getElem? (i := 2) rfl) rfl dX1_encipher_163 ?_
              refine v_iload B dX1_encipher_166 rfl ?_
              refine v_iconst B (v := iI 3) dX1_encipher_168 rfl ?_
              refine v_iadd B (v := iI (z27 + 3)) dX1_encipher_169 ((iI_add _ _).trans (congrArg iI (by omega))) ?_
              obtain ⟨z67, e68, r69⟩ := e38 ((z27 + 3) : Int).toNat
              refine u_iald B Z (t0 := 0) t34 h36 rfl (by omega) e68 dX1_encipher_170 ?_
              obtain ⟨z70, e71, r72⟩ := iI_xor (a := z64) (b := z67) 8 (by decide) (by omega) (by omega)
              refine v_ixor B (v := iI z70) dX1_encipher_171 e71 ?_
              obtain ⟨z73, e74, r75⟩ := iI_xor (a := z39) (b := z70) 8 (by decide) (by omega) (by omega)
              refine v_ixor B (v := iI z73) dX1_encipher_172 e74 ?_
              refine v_istore B (lv' := [(5, .int (iI z73)), (6, .int (iI z49)), (4, .int (iI z27)), (0, .ref h), (1, .ref g), (2, .int (iI z41_2)), (3, .int (iI z89_3))]) dX1_encipher_173 (by decide +kernel) rfl ?_
              refine v_iload B dX1_encipher_175 rfl ?_
              refine v_iload B dX1_encipher_177 rfl ?_
              refine v_iconst B (v := iI 1) dX1_encipher_179 rfl ?_
              refine v_ishl B (v := iI (2 * z49)) dX1_encipher_180 ((iI_shl z49 1 (by decide)).trans (congrArg iI (by omega))) ?_
              refine v_sipush B (v := iI 283) dX1_encipher_181 (by decide +kernel) ?_
              refine v_iload B dX1_encipher_184 rfl ?_
              refine v_bipush B (v := iI 7) dX1_encipher_186 (by decide +kernel) ?_
              obtain ⟨z76, e77⟩ : ∃ z : Int, z = z49 / 128 := ⟨_, rfl⟩
              refine v_ishr B (v := iI z76) dX1_encipher_188 ((iI_shr (a := z49) (by omega) 7 (by decide)).trans (congrArg iI (by omega))) ?_
              refine v_imul B (v := iI (283 * z76)) dX1_encipher_189 ((iI_mul _ _).trans (congrArg iI (by omega))) ?_
              obtain ⟨z78, e79, r80⟩ := iI_xt (c := z49) (by omega) e77
              refine v_ixor B (v := iI z78) dX1_encipher_190 e79 ?_
              obtain ⟨z81, e82, r83⟩ := iI_xor (a := z73) (b := z78) 8 (by decide) (by omega) (by omega)
              refine v_ixor B (v := iI z81) dX1_encipher_191 e82 ?_
              refine v_istore B (lv' := [(5, .int (iI z81)), (6, .int (iI z49)), (4, .int (iI z27)), (0, .ref h), (1, .ref g), (2, .int (iI z41_2)), (3, .int (iI z89_3))]) dX1_encipher_192 (by decide +kernel) rfl ?_
              refine v_lv [3, 4, 5, 6, 0] rfl ?_
              exact J194 z81 ⟨by omega, by omega⟩ ⟨by omega, by omega⟩
      have J49 : ∀ (k49 : Nat) (σ_49 : Nat → va_E) (z49_3 : Int), (2147483648 - z49_3).toNat ≤ k49 → Good K τ σ_49 → Fr τ [(3, π), (2, 32)] σ0 σ_49 → (1 ≤ z41_2 ∧ z41_2 ≤ 10) → (0 ≤ z49_3 ∧ z49_3 ≤ 16) → V p l e R s m args below meth c 7 D A Q (0, 0) (fd dom σ_49) [(0, .ref h), (1, .ref g), (2, .int (iI z41_2)), (3, .int (iI z49_3))] 49 [] := by
        intro k49
        induction k49 with
        | zero => intro σ_49 z49_3 m49 G_49 F_49 r49_2 r49_3; omega
        | succ k49 IH49 =>
          intro σ_49 z49_3 m49 G_49 F_49 r49_2 r49_3
          refine v_iload_n B dX1_encipher_49 rfl rfl ?_
          refine v_bipush B (v := iI 16) dX1_encipher_50 (by decide +kernel) ?_
          refine u_icmp_ge B (tgt := 87) (by omega) (by omega) dX1_encipher_52 (by decide +kernel) (fun c84 => ?_) (fun c84 => ?_)
          · refine v_iconst B (v := iI 0) dX1_encipher_87 rfl ?_
            refine v_istore_n B (lv' := [(3, .int (iI 0)), (0, .ref h), (1, .ref g), (2, .int (iI z41_2))]) dX1_encipher_88 rfl (by decide +kernel) rfl ?_
            refine v_lv [1, 2, 3, 0] rfl ?_
            exact J89 _ σ_49 0 (Nat.le_refl _) G_49 F_49 ⟨by omega, by omega⟩ ⟨by omega, by omega⟩
          · refine v_aload_n B dX1_encipher_55 rfl rfl ?_
            obtain ⟨a85, a86, h87, t88, t89⟩ : okCipher τ (σ_49 h) := G_49 h _ t_h
            refine u_get B Z (C := RX1) (T := TX1) (N := 2) (ci := 1) hi_encipherP_X1 t_h h87 rfl 1 (by decide +kernel) (List.mem_of_getElem? (i := 2) rfl) rfl dX1_encipher_56 ?_
            refine v_iload_n B dX1_encipher_59 rfl rfl ?_
            refine u_gets3 B hz (List.mem_of_getElem? (i := 3) rfl) dX1_encipher_60 ?_
            refine v_aload_n B dX1_encipher_63 rfl rfl ?_
            refine v_iload_n B dX1_encipher_64 rfl rfl ?_
            refine v_iconst B (v := iI 4) dX1_encipher_65 rfl ?_
            refine v_iload_n B dX1_encipher_66 rfl rfl ?_
            refine v_iconst B (v := iI 3) dX1_encipher_67 rfl ?_
            obtain ⟨z90, e91, r92⟩ := iI_and z49_3 (c := 3) (by decide) (by decide)
            refine v_iand B (v := iI z90) dX1_encipher_68 e91 ?_
            refine v_imul B (v := iI (4 * z90)) dX1_encipher_69 ((iI_mul _ _).trans (congrArg iI (by omega))) ?_
            refine v_iadd B (v := iI (z49_3 + 4 * z90)) dX1_encipher_70 ((iI_add _ _).trans (congrArg iI (by omega))) ?_
            refine v_bipush B (v := iI 15) dX1_encipher_71 (by decide +kernel) ?_
            obtain ⟨z93, e94, r95⟩ := iI_and (z49_3 + 4 * z90) (c := 15) (by decide) (by decide)
            refine v_iand B (v := iI z93) dX1_encipher_73 e94 ?_
            obtain ⟨f96, h97, r98⟩ : okP K 16 (σ_49 g) := G_49 g _ t_g
            obtain ⟨z99, e100, r101⟩ := iI_any (f96 (z93 : Int).toNat)
            refine u_iald B Z (t0 := 0) t_g h97 rfl (by omega) e100 dX1_encipher_74 ?_
            refine v_sipush B (v := iI 255) dX1_encipher_75 (by decide +kernel) ?_
            obtain ⟨z102, e103, r104⟩ := iI_and z99 (c := 255) (by decide) (by decide)
            refine v_iand B (v := iI z102) dX1_encipher_78 e103 ?_
            refine u_sbox B hz (by omega) dX1_encipher_79 (fun z105 r106 => ?_)
            obtain ⟨f107, h108, r109, e110⟩ : okB K 16 (σ_49 a86) := G_49 a86 _ t89
            refine u_iast B Z (t0 := 0) t89 h108 rfl (by omega) dX1_encipher_80 (fun σ111 h112 n113 => ?_)
            have G114 := G_49.put t89 (⟨_, h112, r109, el_upd e110 (by omega) _⟩ : Ok K τ (2, 32, 16) (σ111 a86)) n113
            have F115 := F_49.put t89 (by simp) n113
            have h116 := (n113 h (ne_ty t_h t89 (by simp))).trans h87
            have h117 := (n113 g (ne_ty t_g t89 (by simp))).trans h97
            refine v_iinc B (k := 3) (v := iI (z49_3 + 1)) (lv' := [(3, .int (iI (z49_3 + 1))), (0, .ref h), (1, .ref g), (2, .int (iI z41_2))]) dX1_encipher_81 rfl ((iI_add _ _).trans (congrArg iI (by omega))) (by decide +kernel) rfl ?_
            refine v_goto B (tgt := 49) dX1_encipher_84 (by decide +kernel) ?_
            refine v_lv [1, 2, 3, 0] rfl ?_
            exact IH49 σ111 (z49_3 + 1) (by omega) G114 F115 ⟨by omega, by omega⟩ ⟨by omega, by omega⟩
      refine v_iload_n B dX1_encipher_41 rfl rfl ?_
      refine v_bipush B (v := iI 10) dX1_encipher_42 (by decide +kernel) ?_
      refine u_icmp_gt B (tgt := 223) (by omega) (by omega) dX1_encipher_44 (by decide +kernel) (fun c118 => ?_) (fun c118 => ?_)
      · exact hend σ_41 _ _ G_41 F_41 dX1_encipher_223
      · refine v_iconst B (v := iI 0) dX1_encipher_47 rfl ?_
        refine v_istore_n B (lv' := [(3, .int (iI 0)), (0, .ref h), (1, .ref g), (2, .int (iI z41_2))]) dX1_encipher_48 rfl (by decide +kernel) rfl ?_
        refine v_lv [1, 2, 3, 0] rfl ?_
        exact J49 _ σ_41 0 (Nat.le_refl _) G_41 F_41 ⟨by omega, by omega⟩ ⟨by omega, by omega⟩
  have J10 : ∀ (k10 : Nat) (σ_10 : Nat → va_E) (z10_2 : Int), (2147483648 - z10_2).toNat ≤ k10 → Good K τ σ_10 → Fr τ [(3, π), (2, 32)] σ0 σ_10 → (0 ≤ z10_2 ∧ z10_2 ≤ 16) → V p l e R s m args below meth c 7 D A Q (0, 0) (fd dom σ_10) [(0, .ref h), (1, .ref g), (2, .int (iI z10_2))] 10 [] := by
    intro k10
    induction k10 with
    | zero => intro σ_10 z10_2 m10 G_10 F_10 r10_2; omega
    | succ k10 IH10 =>
      intro σ_10 z10_2 m10 G_10 F_10 r10_2
      refine v_iload_n B dX1_encipher_10 rfl rfl ?_
      refine v_bipush B (v := iI 16) dX1_encipher_11 (by decide +kernel) ?_
      refine u_icmp_ge B (tgt := 39) (by omega) (by omega) dX1_encipher_13 (by decide +kernel) (fun c119 => ?_) (fun c119 => ?_)
      · refine v_iconst B (v := iI 1) dX1_encipher_39 rfl ?_
        refine v_istore_n B (lv' := [(2, .int (iI 1)), (0, .ref h), (1, .ref g)]) dX1_encipher_40 rfl (by decide +kernel) rfl ?_
        refine v_lv [1, 2, 0] rfl ?_
        exact J41 _ σ_10 1 (Nat.le_refl _) G_10 F_10 ⟨by omega, by omega⟩
      · refine v_aload_n B dX1_encipher_16 rfl rfl ?_
        refine v_iload_n B dX1_encipher_17 rfl rfl ?_
        refine v_aload_n B dX1_encipher_18 rfl rfl ?_
        refine v_iload_n B dX1_encipher_19 rfl rfl ?_
        obtain ⟨f120, h121, r122⟩ : okP K 16 (σ_10 g) := G_10 g _ t_g
        obtain ⟨z123, e124, r125⟩ := iI_any (f120 (z10_2 : Int).toNat)
        refine u_iald B Z (t0 := 0) t_g h121 rfl (by omega) e124 dX1_encipher_20 ?_
        refine v_aload_n B dX1_encipher_21 rfl rfl ?_
        obtain ⟨a126, a127, h128, t129, t130⟩ : okCipher τ (σ_10 h) := G_10 h _ t_h
        refine u_get B Z (C := RX1) (T := TX1) (N := 2) (ci := 1) hi_encipherP_X1 t_h h128 rfl 0 (by decide +kernel) (List.mem_of_getElem? (i := 1) rfl) rfl dX1_encipher_22 ?_
        refine v_iload_n B dX1_encipher_25 rfl rfl ?_
        obtain ⟨f131, h132, r133, e134⟩ : okB K 176 (σ_10 a126) := G_10 a126 _ t129
        obtain ⟨z135, e136, r137⟩ := e134 (z10_2 : Int).toNat
        refine u_iald B Z (t0 := 0) t129 h132 rfl (by omega) e136 dX1_encipher_26 ?_
        obtain ⟨z138, e139, r140⟩ := iI_any (iI z123 ^^^ iI z135)
        refine v_ixor B (v := iI z138) dX1_encipher_27 e139 ?_
        refine v_sipush B (v := iI 255) dX1_encipher_28 (by decide +kernel) ?_
        obtain ⟨z141, e142, r143⟩ := iI_and z138 (c := 255) (by decide) (by decide)
        refine v_iand B (v := iI z141) dX1_encipher_31 e142 ?_
        refine u_iast B Z (t0 := 0) t_g h121 rfl (by omega) dX1_encipher_32 (fun σ144 h145 n146 => ?_)
        have G147 := G_10.put t_g (⟨_, h145, r122⟩ : Ok K τ (3, π, 16) (σ144 g)) n146
        have F148 := F_10.put t_g (by simp) n146
        have h149 := (n146 h (ne_ty t_h t_g (by simp))).trans h128
        have h150 := (n146 a126 (ne_ty t129 t_g (by simp))).trans h132
        refine v_iinc B (k := 2) (v := iI (z10_2 + 1)) (lv' := [(2, .int (iI (z10_2 + 1))), (0, .ref h), (1, .ref g)]) dX1_encipher_33 rfl ((iI_add _ _).trans (congrArg iI (by omega))) (by decide +kernel) rfl ?_
        refine v_goto B (tgt := 10) dX1_encipher_36 (by decide +kernel) ?_
        refine v_lv [1, 2, 0] rfl ?_
        exact IH10 σ144 (z10_2 + 1) (by omega) G147 F148 ⟨by omega, by omega⟩
  refine v_aload_n B dX1_encipher_0 rfl rfl ?_
  obtain ⟨f151, h152, r153⟩ : okP K 16 (σ0 g) := G0 g _ t_g
  refine u_alen B Z (t0 := 0) (v := 16) t_g h152 rfl (by first | rfl | omega) dX1_encipher_1 ?_
  refine v_bipush B (v := iI 16) dX1_encipher_2 (by decide +kernel) ?_
  refine u_icmp_ge B (tgt := 8) (by omega) (by omega) dX1_encipher_4 (by decide +kernel) (fun c154 => ?_) (fun c154 => by omega)
  refine v_iconst B (v := iI 0) dX1_encipher_8 rfl ?_
  refine v_istore_n B (lv' := [(2, .int (iI 0)), (0, .ref h), (1, .ref g)]) dX1_encipher_9 rfl (by decide +kernel) rfl ?_
  refine v_lv [1, 2, 0] rfl ?_
  exact J10 _ σ0 0 (Nat.le_refl _) G0 F0 ⟨by omega, by omega⟩
set_option maxRecDepth 100000 in
theorem c_encipherP (l : Launch) (D : va_G) (K : Nat → ClassId) {τ : Nat → Option Ty} {dom : List Nat} (Z : Sk τ dom) (zb zL : Nat) (zx : Nat → Int32) (zs : Nat → Nat) {π : Nat} (h : Nat) (g : Nat) (t_h : τ h = some (31, 0, 0)) (t_g : τ g = some (3, π, 16)) (σ0 : Nat → va_E) (G0 : Good K τ σ0) : MZ l yX1_encipher wp_encipherP ({ frames := 0, cells := 0, slots := 0, locals := 0 }) D (tysA K) [.ref h, .ref g] (fd dom σ0) zb zL zx zs (Qv D (fun σ' => Good K τ σ' ∧ Fr τ [(3, π), (2, 32)] σ0 σ') (fun σ' => fd dom σ')) 0 0 := by
  refine mz_of (cc := cX1_encipher) (maxL := 7) (ret := none) (by decide +kernel) rfl (Nat.le_of_ble_eq_true rfl) ?_
  intro p e s m below meth c A B hr hlk _ hz
  exact b_encipherP ⟨Nat.le_refl _, Nat.le_refl _⟩ B Z hz h g t_h t_g σ0 G0 (fun σ' lv pc G F hd => v_vret B hr hlk σ' ⟨G, F⟩ rfl (Nat.le_refl _) (Nat.le_refl _) hd)
