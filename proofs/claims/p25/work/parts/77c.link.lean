def wp_Link_isProperMap : List Cond := .code yX6_isProperMap cX6_isProperMap 2 (some .boolean) :: (([.methodLink RX6 25 yJ13_bitCount_95d88, .static yJ13_bitCount_95d88, .initialized RJ13, .code yJ13_bitCount_95d88 cJ13_bitCount_95d88 2 (some .int), .constantLong RJ13 314 (6148914691236517205), .constantLong RJ13 316 (3689348814741910323), .constantLong RJ13 318 (1085102592571150095)] : List Cond) ++ ([]))
set_option maxRecDepth 100000 in
theorem gd_Link_isProperMap_bitCount_25 : GoodIn wp_Link_isProperMap (va_wsS RX6 25 yJ13_bitCount_95d88 wp_bitCount) := goodIn_app (goodIn_r _ [1, 2, 3] rfl rfl) (goodIn_ca (goodIn_r _ [4, 5, 6, 7] rfl rfl) (goodIn_nil))
set_option maxHeartbeats 4000000 in
set_option maxRecDepth 100000 in
theorem b_Link_isProperMap {p : Program} {l : Launch} {e : Env} {R : Room} {s : State} {m : MethodId} {args : Array Value} {below : List Frame} {meth : Method} {c : Code} {D : va_G} {K : Nat → ClassId} {A : Nat → Prop} {Q : State → Prop} {τ : Nat → Option Ty} {dom : List Nat} {zb zL : Nat} {zx : Nat → Int32} {zs : Nat → Nat} (hR : 1 ≤ R.frames ∧ 21 ≤ R.locals) (B : Bx p s m args c cX6_isProperMap 2 RX6 wp_Link_isProperMap D (tysA K) A) (Z : Sk τ dom) (hz : ZL zb zL zx zs A s s.heap) (y1 : Int) (r_y1 : InL y1) (σ0 : Nat → va_E) (G0 : Good K τ σ0) (hend : ∀ (z : Int) (lv : List (Nat × Value)) (pc : Nat), (0 ≤ z ∧ z ≤ 1) → decode cX6_isProperMap pc = .ok (.ireturn, 1) → V p l e R s m args below meth c 2 D A Q (0, 0) (fd dom σ0) lv pc [.int (iI z)]) : V p l e R s m args below meth c 2 D A Q (0, 0) (fd dom σ0) [(0, .long (lI y1))] 0 [] := by
  have F0 : Fr τ [] σ0 σ0 := Fr.rf
  refine v_lload_n B dX6_isProperMap_0 rfl rfl ?_
  refine v_bipush B (v := iI 37) dX6_isProperMap_1 (by decide +kernel) ?_
  obtain ⟨yy1, e2, r3⟩ := lI_any (((lI y1).toUInt64 >>> ((iI 37).toInt64.toUInt64 &&& Int64.toUInt64 63)).toInt64)
  refine v_lushr B (v := lI yy1) dX6_isProperMap_3 e2 ?_
  refine v_lconst B (v := lI 0) dX6_isProperMap_4 (by decide +kernel) ?_
  obtain ⟨z4, e5, r6⟩ := iI_any (lg_cmp (lI yy1) (lI 0))
  refine v_lcmp B (v := iI z4) dX6_isProperMap_5 e5 ?_
  refine u_if_ne B (tgt := 21) (by omega) dX6_isProperMap_6 (by decide +kernel) (fun c7 => ?_) (fun c7 => ?_)
  · refine v_iconst B (v := iI 0) dX6_isProperMap_21 rfl ?_
    exact hend 0 _ _ ⟨by omega, by omega⟩ dX6_isProperMap_22
  · refine v_lload_n B dX6_isProperMap_9 rfl rfl ?_
    refine u_callSi B Z hz (n := 1) (As := [.long (lI y1)]) (rest := []) (c_bitCount l D K Z _ _ _ _ y1 ⟨by omega, by omega⟩ σ0 G0) gd_Link_isProperMap_bitCount_25 rfl rfl rfl (by decide +kernel) ⟨Nat.le_trans (by decide +kernel) hR.1, Nat.le_trans (by decide +kernel) hR.2⟩ rfl rfl (Nat.le_of_ble_eq_true rfl) dX6_isProperMap_10 ⟨Nat.zero_le _, Nat.zero_le _⟩ (fun v10 σ8 p9 => ?_)
    obtain ⟨rfl, z14, e15, r16⟩ := p9
    subst e15
    refine v_iconst B (v := iI 2) dX6_isProperMap_13 rfl ?_
    refine u_icmp_lt B (tgt := 21) (by omega) (by omega) dX6_isProperMap_14 (by decide +kernel) (fun c17 => ?_) (fun c17 => ?_)
    · refine v_iconst B (v := iI 0) dX6_isProperMap_21 rfl ?_
      exact hend 0 _ _ ⟨by omega, by omega⟩ dX6_isProperMap_22
    · refine v_iconst B (v := iI 1) dX6_isProperMap_17 rfl ?_
      refine v_goto B (tgt := 22) dX6_isProperMap_18 (by decide +kernel) ?_
      exact hend 1 _ _ ⟨by omega, by omega⟩ dX6_isProperMap_22
set_option maxRecDepth 100000 in
theorem c_Link_isProperMap (l : Launch) (D : va_G) (K : Nat → ClassId) {τ : Nat → Option Ty} {dom : List Nat} (Z : Sk τ dom) (zb zL : Nat) (zx : Nat → Int32) (zs : Nat → Nat) (y1 : Int) (r_y1 : InL y1) (σ0 : Nat → va_E) (G0 : Good K τ σ0) : MZ l yX6_isProperMap wp_Link_isProperMap ({ frames := 1, cells := 0, slots := 0, locals := 21 }) D (tysA K) [.long (lI y1)] (fd dom σ0) zb zL zx zs (Qi D (fun r σ' => σ0 = σ' ∧ ∃ z : Int, r = iI z ∧ (0 ≤ z ∧ z ≤ 1)) (fun σ' => fd dom σ')) 0 0 := by
  refine mz_of (cc := cX6_isProperMap) (maxL := 2) (ret := (some .boolean)) (by decide +kernel) rfl (Nat.le_of_ble_eq_true rfl) ?_
  intro p e s m below meth c A B hr hlk _ hz
  exact b_Link_isProperMap ⟨Nat.le_refl _, Nat.le_refl _⟩ B Z hz y1 r_y1 σ0 G0 (fun z lv pc hZ hd => v_zret B hr hlk (nar01 (by omega)) σ0 ⟨rfl, z, rfl, hZ⟩ rfl (Nat.le_refl _) (Nat.le_refl _) hd)

def wp_Link_isProper : List Cond := .code yX6_isProper cX6_isProper 5 (some .boolean) :: (([.methodLink RX6 21 yX6_isProperMap, .static yX6_isProperMap, .initialized RX6, .code yX6_isProperMap cX6_isProperMap 2 (some .boolean), .methodLink RX6 25 yJ13_bitCount_95d88, .static yJ13_bitCount_95d88, .initialized RJ13, .code yJ13_bitCount_95d88 cJ13_bitCount_95d88 2 (some .int), .constantLong RJ13 314 (6148914691236517205), .constantLong RJ13 316 (3689348814741910323), .constantLong RJ13 318 (1085102592571150095)] : List Cond) ++ ([]))
set_option maxRecDepth 100000 in
theorem gd_Link_isProper_Link_isProperMap_21 : GoodIn wp_Link_isProper (va_wsS RX6 21 yX6_isProperMap wp_Link_isProperMap) := goodIn_app (goodIn_r _ [1, 2, 3] rfl rfl) (goodIn_ca (goodIn_r _ [4, 5, 6, 7, 8, 9, 10, 11] rfl rfl) (goodIn_nil))
set_option maxHeartbeats 4000000 in
set_option maxRecDepth 100000 in
theorem b_Link_isProper {p : Program} {l : Launch} {e : Env} {R : Room} {s : State} {m : MethodId} {args : Array Value} {below : List Frame} {meth : Method} {c : Code} {D : va_G} {K : Nat → ClassId} {A : Nat → Prop} {Q : State → Prop} {τ : Nat → Option Ty} {dom : List Nat} {zb zL : Nat} {zx : Nat → Int32} {zs : Nat → Nat} (hR : 2 ≤ R.frames ∧ 42 ≤ R.locals) (B : Bx p s m args c cX6_isProper 5 RX6 wp_Link_isProper D (tysA K) A) (Z : Sk τ dom) (hz : ZL zb zL zx zs A s s.heap) (x1 : Int) (x2 : Int) (x3 : Int) (y4 : Int) (r_x1 : -2147483648 ≤ x1 ∧ x1 ≤ 2147483647) (r_x2 : -2147483648 ≤ x2 ∧ x2 ≤ 2147483647) (r_x3 : -2147483648 ≤ x3 ∧ x3 ≤ 2147483647) (r_y4 : InL y4) (σ0 : Nat → va_E) (G0 : Good K τ σ0) (hend : ∀ (z : Int) (lv : List (Nat × Value)) (pc : Nat), (0 ≤ z ∧ z ≤ 1) → decode cX6_isProper pc = .ok (.ireturn, 1) → V p l e R s m args below meth c 5 D A Q (0, 0) (fd dom σ0) lv pc [.int (iI z)]) : V p l e R s m args below meth c 5 D A Q (0, 0) (fd dom σ0) [(0, .int (iI x1)), (1, .int (iI x2)), (2, .int (iI x3)), (3, .long (lI y4))] 0 [] := by
  have F0 : Fr τ [] σ0 σ0 := Fr.rf
  refine v_iload_n B dX6_isProper_0 rfl rfl ?_
  refine v_iconst B (v := iI 2) dX6_isProper_1 rfl ?_
  refine u_icmp_lt B (tgt := 46) (by omega) (by omega) dX6_isProper_2 (by decide +kernel) (fun c1 => ?_) (fun c1 => ?_)
  · refine v_iconst B (v := iI 0) dX6_isProper_46 rfl ?_
    exact hend 0 _ _ ⟨by omega, by omega⟩ dX6_isProper_47
  · refine v_iload_n B dX6_isProper_5 rfl rfl ?_
    refine v_bipush B (v := iI 50) dX6_isProper_6 (by decide +kernel) ?_
    refine u_icmp_gt B (tgt := 46) (by omega) (by omega) dX6_isProper_8 (by decide +kernel) (fun c2 => ?_) (fun c2 => ?_)
    · refine v_iconst B (v := iI 0) dX6_isProper_46 rfl ?_
      exact hend 0 _ _ ⟨by omega, by omega⟩ dX6_isProper_47
    · refine v_iload_n B dX6_isProper_11 rfl rfl ?_
      refine v_bipush B (v := iI 10) dX6_isProper_12 (by decide +kernel) ?_
      refine u_icmp_lt B (tgt := 46) (by omega) (by omega) dX6_isProper_14 (by decide +kernel) (fun c3 => ?_) (fun c3 => ?_)
      · refine v_iconst B (v := iI 0) dX6_isProper_46 rfl ?_
        exact hend 0 _ _ ⟨by omega, by omega⟩ dX6_isProper_47
      · refine v_iload_n B dX6_isProper_17 rfl rfl ?_
        refine v_sipush B (v := iI 2000) dX6_isProper_18 (by decide +kernel) ?_
        refine u_icmp_gt B (tgt := 46) (by omega) (by omega) dX6_isProper_21 (by decide +kernel) (fun c4 => ?_) (fun c4 => ?_)
        · refine v_iconst B (v := iI 0) dX6_isProper_46 rfl ?_
          exact hend 0 _ _ ⟨by omega, by omega⟩ dX6_isProper_47
        · refine v_iload_n B dX6_isProper_24 rfl rfl ?_
          refine v_iconst B (v := iI 5) dX6_isProper_25 rfl ?_
          refine u_icmp_lt B (tgt := 46) (by omega) (by omega) dX6_isProper_26 (by decide +kernel) (fun c5 => ?_) (fun c5 => ?_)
          · refine v_iconst B (v := iI 0) dX6_isProper_46 rfl ?_
            exact hend 0 _ _ ⟨by omega, by omega⟩ dX6_isProper_47
          · refine v_iload_n B dX6_isProper_29 rfl rfl ?_
            refine v_bipush B (v := iI 16) dX6_isProper_30 (by decide +kernel) ?_
            refine u_icmp_gt B (tgt := 46) (by omega) (by omega) dX6_isProper_32 (by decide +kernel) (fun c6 => ?_) (fun c6 => ?_)
            · refine v_iconst B (v := iI 0) dX6_isProper_46 rfl ?_
              exact hend 0 _ _ ⟨by omega, by omega⟩ dX6_isProper_47
            · refine v_lload_n B dX6_isProper_35 rfl rfl ?_
              refine u_callSi B Z hz (n := 1) (As := [.long (lI y4)]) (rest := []) (c_Link_isProperMap l D K Z _ _ _ _ y4 ⟨by omega, by omega⟩ σ0 G0) gd_Link_isProper_Link_isProperMap_21 rfl rfl rfl (by decide +kernel) ⟨Nat.le_trans (by decide +kernel) hR.1, Nat.le_trans (by decide +kernel) hR.2⟩ rfl rfl (Nat.le_of_ble_eq_true rfl) dX6_isProper_36 ⟨Nat.zero_le _, Nat.zero_le _⟩ (fun v9 σ7 p8 => ?_)
              obtain ⟨rfl, z13, e14, r15⟩ := p8
              subst e14
              refine u_if_eq B (tgt := 46) (by omega) dX6_isProper_39 (by decide +kernel) (fun c16 => ?_) (fun c16 => ?_)
              · refine v_iconst B (v := iI 0) dX6_isProper_46 rfl ?_
                exact hend 0 _ _ ⟨by omega, by omega⟩ dX6_isProper_47
              · refine v_iconst B (v := iI 1) dX6_isProper_42 rfl ?_
                refine v_goto B (tgt := 47) dX6_isProper_43 (by decide +kernel) ?_
                exact hend 1 _ _ ⟨by omega, by omega⟩ dX6_isProper_47
set_option maxRecDepth 100000 in
theorem c_Link_isProper (l : Launch) (D : va_G) (K : Nat → ClassId) {τ : Nat → Option Ty} {dom : List Nat} (Z : Sk τ dom) (zb zL : Nat) (zx : Nat → Int32) (zs : Nat → Nat) (x1 : Int) (x2 : Int) (x3 : Int) (y4 : Int) (r_x1 : -2147483648 ≤ x1 ∧ x1 ≤ 2147483647) (r_x2 : -2147483648 ≤ x2 ∧ x2 ≤ 2147483647) (r_x3 : -2147483648 ≤ x3 ∧ x3 ≤ 2147483647) (r_y4 : InL y4) (σ0 : Nat → va_E) (G0 : Good K τ σ0) : MZ l yX6_isProper wp_Link_isProper ({ frames := 2, cells := 0, slots := 0, locals := 42 }) D (tysA K) [.int (iI x1), .int (iI x2), .int (iI x3), .long (lI y4)] (fd dom σ0) zb zL zx zs (Qi D (fun r σ' => σ0 = σ' ∧ ∃ z : Int, r = iI z ∧ (0 ≤ z ∧ z ≤ 1)) (fun σ' => fd dom σ')) 0 0 := by
  refine mz_of (cc := cX6_isProper) (maxL := 5) (ret := (some .boolean)) (by decide +kernel) rfl (Nat.le_of_ble_eq_true rfl) ?_
  intro p e s m below meth c A B hr hlk _ hz
  exact b_Link_isProper ⟨Nat.le_refl _, Nat.le_refl _⟩ B Z hz x1 x2 x3 y4 r_x1 r_x2 r_x3 r_y4 σ0 G0 (fun z lv pc hZ hd => v_zret B hr hlk (nar01 (by omega)) σ0 ⟨rfl, z, rfl, hZ⟩ rfl (Nat.le_refl _) (Nat.le_refl _) hd)

def wp_Link_channelFor : List Cond := .code yX6_channelFor cX6_channelFor 6 (some .int) :: (([.methodLink RX6 25 yJ13_bitCount_95d88, .static yJ13_bitCount_95d88, .initialized RJ13, .code yJ13_bitCount_95d88 cJ13_bitCount_95d88 2 (some .int), .constantLong RJ13 314 (6148914691236517205), .constantLong RJ13 316 (3689348814741910323), .constantLong RJ13 318 (1085102592571150095)] : List Cond) ++ ([]))
set_option maxRecDepth 100000 in
theorem gd_Link_channelFor_bitCount_25 : GoodIn wp_Link_channelFor (va_wsS RX6 25 yJ13_bitCount_95d88 wp_bitCount) := goodIn_app (goodIn_r _ [1, 2, 3] rfl rfl) (goodIn_ca (goodIn_r _ [4, 5, 6, 7] rfl rfl) (goodIn_nil))
set_option maxHeartbeats 4000000 in
set_option maxRecDepth 100000 in
theorem b_Link_channelFor {p : Program} {l : Launch} {e : Env} {R : Room} {s : State} {m : MethodId} {args : Array Value} {below : List Frame} {meth : Method} {c : Code} {D : va_G} {K : Nat → ClassId} {A : Nat → Prop} {Q : State → Prop} {τ : Nat → Option Ty} {dom : List Nat} {zb zL : Nat} {zx : Nat → Int32} {zs : Nat → Nat} (hR : 1 ≤ R.frames ∧ 21 ≤ R.locals) (B : Bx p s m args c cX6_channelFor 6 RX6 wp_Link_channelFor D (tysA K) A) (Z : Sk τ dom) (hz : ZL zb zL zx zs A s s.heap) (x1 : Int) (y2 : Int) (r_x1 : -2147483648 ≤ x1 ∧ x1 ≤ 2147483647) (r_y2 : InL y2) (σ0 : Nat → va_E) (G0 : Good K τ σ0) (hend : ∀ (z : Int) (lv : List (Nat × Value)) (pc : Nat), (-2147483648 ≤ z ∧ z ≤ 2147483647) → decode cX6_channelFor pc = .ok (.ireturn, 1) → V p l e R s m args below meth c 6 D A Q (0, 0) (fd dom σ0) lv pc [.int (iI z)]) : V p l e R s m args below meth c 6 D A Q (0, 0) (fd dom σ0) [(0, .int (iI x1)), (1, .long (lI y2))] 0 [] := by
  have F0 : Fr τ [] σ0 σ0 := Fr.rf
  have J29 : ∀ (k29 : Nat) (z29_4 : Int) (z29_5 : Int), (2147483648 - z29_5).toNat ≤ k29 → (-2147483648 ≤ z29_4 ∧ z29_4 ≤ 2147483647) → (0 ≤ z29_5 ∧ z29_5 ≤ 37) → V p l e R s m args below meth c 6 D A Q (0, 0) (fd dom σ0) [(0, .int (iI x1)), (1, .long (lI y2)), (4, .int (iI z29_4)), (5, .int (iI z29_5))] 29 [] := by
    intro k29
    induction k29 with
    | zero => intro z29_4 z29_5 m29 r29_4 r29_5; omega
    | succ k29 IH29 =>
      intro z29_4 z29_5 m29 r29_4 r29_5
      have J58 : ∀ (z58_4 : Int), (-2147483648 ≤ z58_4 ∧ z58_4 ≤ 2147483647) → (0 ≤ z29_5 ∧ z29_5 ≤ 36) → V p l e R s m args below meth c 6 D A Q (0, 0) (fd dom σ0) [(0, .int (iI x1)), (1, .long (lI y2)), (4, .int (iI z58_4)), (5, .int (iI z29_5))] 58 [] := by
        intro z58_4 r58_4 r58_5
        refine v_iinc B (k := 3) (v := iI (z29_5 + 1)) (lv' := [(5, .int (iI (z29_5 + 1))), (0, .int (iI x1)), (1, .long (lI y2)), (4, .int (iI z58_4))]) dX6_channelFor_58 rfl ((iI_add _ _).trans (congrArg iI (by omega))) (by decide +kernel) rfl ?_
        refine v_goto B (tgt := 29) dX6_channelFor_61 (by decide +kernel) ?_
        refine v_lv [1, 2, 3, 0] rfl ?_
        exact IH29 z58_4 (z29_5 + 1) (by omega) ⟨by omega, by omega⟩ ⟨by omega, by omega⟩
      refine v_iload B dX6_channelFor_29 rfl ?_
      refine v_bipush B (v := iI 37) dX6_channelFor_31 (by decide +kernel) ?_
      refine u_icmp_ge B (tgt := 64) (by omega) (by omega) dX6_channelFor_33 (by decide +kernel) (fun c1 => ?_) (fun c1 => ?_)
      · refine v_iload_n B dX6_channelFor_64 rfl rfl ?_
        exact hend x1 _ _ ⟨by omega, by omega⟩ dX6_channelFor_65
      · refine v_lload_n B dX6_channelFor_36 rfl rfl ?_
        refine v_iload B dX6_channelFor_37 rfl ?_
        obtain ⟨yy2, e3, r4⟩ := lI_any (((lI y2).toUInt64 >>> ((iI z29_5).toInt64.toUInt64 &&& Int64.toUInt64 63)).toInt64)
        refine v_lushr B (v := lI yy2) dX6_channelFor_39 e3 ?_
        refine v_lconst B (v := lI 1) dX6_channelFor_40 (by decide +kernel) ?_
        obtain ⟨yy5, e6, r7⟩ := lI_and yy2 (c := 1) (by decide) (by decide)
        refine v_land B (v := lI yy5) dX6_channelFor_41 e6 ?_
        refine v_lconst B (v := lI 1) dX6_channelFor_42 (by decide +kernel) ?_
        obtain ⟨z8, e9, r10⟩ := iI_any (lg_cmp (lI yy5) (lI 1))
        refine v_lcmp B (v := iI z8) dX6_channelFor_43 e9 ?_
        refine u_if_ne B (tgt := 58) (by omega) dX6_channelFor_44 (by decide +kernel) (fun c11 => ?_) (fun c11 => ?_)
        · exact J58 z29_4 ⟨by omega, by omega⟩ ⟨by omega, by omega⟩
        · refine v_iload B dX6_channelFor_47 rfl ?_
          refine u_if_ne B (tgt := 55) (by omega) dX6_channelFor_49 (by decide +kernel) (fun c12 => ?_) (fun c12 => ?_)
          · obtain ⟨z13, e14, r15⟩ := iI_any (iI z29_4 + iI (-1))
            refine v_iinc B (k := 2) (v := iI z13) (lv' := [(4, .int (iI z13)), (0, .int (iI x1)), (1, .long (lI y2)), (5, .int (iI z29_5))]) dX6_channelFor_55 rfl e14 (by decide +kernel) rfl ?_
            refine v_lv [1, 2, 0, 3] rfl ?_
            exact J58 z13 ⟨by omega, by omega⟩ ⟨by omega, by omega⟩
          · refine v_iload B dX6_channelFor_52 rfl ?_
            exact hend z29_5 _ _ ⟨by omega, by omega⟩ dX6_channelFor_54
  refine v_lload_n B dX6_channelFor_0 rfl rfl ?_
  refine u_callSi B Z hz (n := 1) (As := [.long (lI y2)]) (rest := []) (c_bitCount l D K Z _ _ _ _ y2 ⟨by omega, by omega⟩ σ0 G0) gd_Link_channelFor_bitCount_25 rfl rfl rfl (by decide +kernel) ⟨Nat.le_trans (by decide +kernel) hR.1, Nat.le_trans (by decide +kernel) hR.2⟩ rfl rfl (Nat.le_of_ble_eq_true rfl) dX6_channelFor_1 ⟨Nat.zero_le _, Nat.zero_le _⟩ (fun v18 σ16 p17 => ?_)
  obtain ⟨rfl, z22, e23, r24⟩ := p17
  subst e23
  refine v_istore_n B (lv' := [(3, .int (iI z22)), (0, .int (iI x1)), (1, .long (lI y2))]) dX6_channelFor_4 rfl (by decide +kernel) rfl ?_
  refine v_iload_n B dX6_channelFor_5 rfl rfl ?_
  refine u_if_eq B (tgt := 19) (by omega) dX6_channelFor_6 (by decide +kernel) (fun c25 => ?_) (fun c25 => ?_)
  · refine v_iload_n B dX6_channelFor_19 rfl rfl ?_
    exact hend x1 _ _ ⟨by omega, by omega⟩ dX6_channelFor_20
  · refine v_lload_n B dX6_channelFor_9 rfl rfl ?_
    refine v_iload_n B dX6_channelFor_10 rfl rfl ?_
    obtain ⟨yy26, e27, r28⟩ := lI_any (((lI y2).toUInt64 >>> ((iI x1).toInt64.toUInt64 &&& Int64.toUInt64 63)).toInt64)
    refine v_lushr B (v := lI yy26) dX6_channelFor_11 e27 ?_
    refine v_lconst B (v := lI 1) dX6_channelFor_12 (by decide +kernel) ?_
    obtain ⟨yy29, e30, r31⟩ := lI_and yy26 (c := 1) (by decide) (by decide)
    refine v_land B (v := lI yy29) dX6_channelFor_13 e30 ?_
    refine v_lconst B (v := lI 1) dX6_channelFor_14 (by decide +kernel) ?_
    obtain ⟨z32, e33, r34⟩ := iI_any (lg_cmp (lI yy29) (lI 1))
    refine v_lcmp B (v := iI z32) dX6_channelFor_15 e33 ?_
    refine u_if_ne B (tgt := 21) (by omega) dX6_channelFor_16 (by decide +kernel) (fun c35 => ?_) (fun c35 => ?_)
    · refine v_iload_n B dX6_channelFor_21 rfl rfl ?_
      refine v_iload_n B dX6_channelFor_22 rfl rfl ?_
      obtain ⟨z36, e37, q39, q40⟩ := iI_remt (a := x1) (b := z22) (by omega) (by omega)
      refine v_irem B (v := iI z36) dX6_channelFor_23 (fun q => absurd ((iI_eq (a := z22) (b := 0) (by omega) (by omega)).mp q) (by omega)) e37 ?_
      refine v_istore B (lv' := [(4, .int (iI z36)), (3, .int (iI z22)), (0, .int (iI x1)), (1, .long (lI y2))]) dX6_channelFor_24 (by decide +kernel) rfl ?_
      refine v_iconst B (v := iI 0) dX6_channelFor_26 rfl ?_
      refine v_istore B (lv' := [(5, .int (iI 0)), (4, .int (iI z36)), (3, .int (iI z22)), (0, .int (iI x1)), (1, .long (lI y2))]) dX6_channelFor_27 (by decide +kernel) rfl ?_
      refine v_lv [3, 4, 1, 0] rfl ?_
      exact J29 _ z36 0 (Nat.le_refl _) ⟨by omega, by omega⟩ ⟨by omega, by omega⟩
    · refine v_iload_n B dX6_channelFor_19 rfl rfl ?_
      exact hend x1 _ _ ⟨by omega, by omega⟩ dX6_channelFor_20
set_option maxRecDepth 100000 in
theorem c_Link_channelFor (l : Launch) (D : va_G) (K : Nat → ClassId) {τ : Nat → Option Ty} {dom : List Nat} (Z : Sk τ dom) (zb zL : Nat) (zx : Nat → Int32) (zs : Nat → Nat) (x1 : Int) (y2 : Int) (r_x1 : -2147483648 ≤ x1 ∧ x1 ≤ 2147483647) (r_y2 : InL y2) (σ0 : Nat → va_E) (G0 : Good K τ σ0) : MZ l yX6_channelFor wp_Link_channelFor ({ frames := 1, cells := 0, slots := 0, locals := 21 }) D (tysA K) [.int (iI x1), .long (lI y2)] (fd dom σ0) zb zL zx zs (Qi D (fun r σ' => σ0 = σ' ∧ ∃ z : Int, r = iI z ∧ (-2147483648 ≤ z ∧ z ≤ 2147483647)) (fun σ' => fd dom σ')) 0 0 := by
  refine mz_of (cc := cX6_channelFor) (maxL := 6) (ret := (some .int)) (by decide +kernel) rfl (Nat.le_of_ble_eq_true rfl) ?_
  intro p e s m below meth c A B hr hlk _ hz
  exact b_Link_channelFor ⟨Nat.le_refl _, Nat.le_refl _⟩ B Z hz x1 y2 r_x1 r_y2 σ0 G0 (fun z lv pc hZ hd => v_iret B hr hlk σ0 ⟨rfl, z, rfl, hZ⟩ rfl (Nat.le_refl _) (Nat.le_refl _) hd)

def wp_Link_arrange : List Cond := .code yX6_arrange cX6_arrange 6 none :: (([.fieldLink RX6 31 "LowEnergy$Link" "interval" "I", .fieldLink RX6 34 "LowEnergy$Link" "timeout" "I", .fieldLink RX6 37 "LowEnergy$Link" "hop" "I", .fieldLink RX6 40 "LowEnergy$Link" "map" "J"] : List Cond) ++ (wsX60 ++ ([])))
theorem hi_Link_arrange_X6 : ∀ x ∈ u_ws RX6 TX6 20, x ∈ wp_Link_arrange := fun _ h => List.mem_cons_of_mem _ (List.mem_append_right _ (List.mem_append_left _ h))
set_option maxHeartbeats 4000000 in
set_option maxRecDepth 100000 in
theorem b_Link_arrange {p : Program} {l : Launch} {e : Env} {R : Room} {s : State} {m : MethodId} {args : Array Value} {below : List Frame} {meth : Method} {c : Code} {D : va_G} {K : Nat → ClassId} {A : Nat → Prop} {Q : State → Prop} {τ : Nat → Option Ty} {dom : List Nat} {zb zL : Nat} {zx : Nat → Int32} {zs : Nat → Nat} (hR : 0 ≤ R.frames ∧ 0 ≤ R.locals) (B : Bx p s m args c cX6_arrange 6 RX6 wp_Link_arrange D (tysA K) A) (Z : Sk τ dom) (hz : ZL zb zL zx zs A s s.heap) (h : Nat) (x1 : Int) (x2 : Int) (x3 : Int) (y4 : Int) (t_h : τ h = some (36, 0, 0)) (r_x1 : -2147483648 ≤ x1 ∧ x1 ≤ 2147483647) (r_x2 : -2147483648 ≤ x2 ∧ x2 ≤ 2147483647) (r_x3 : -2147483648 ≤ x3 ∧ x3 ≤ 2147483647) (r_y4 : InL y4) (σ0 : Nat → va_E) (G0 : Good K τ σ0) (hend : ∀ (σ' : Nat → va_E) (lv : List (Nat × Value)) (pc : Nat), Good K τ σ' → Fr τ [(36, 0)] σ0 σ' → decode cX6_arrange pc = .ok (.return_, 1) → V p l e R s m args below meth c 6 D A Q (0, 0) (fd dom σ') lv pc []) : V p l e R s m args below meth c 6 D A Q (0, 0) (fd dom σ0) [(0, .ref h), (1, .int (iI x1)), (2, .int (iI x2)), (3, .int (iI x3)), (4, .long (lI y4))] 0 [] := by
  have F0 : Fr τ [(36, 0)] σ0 σ0 := Fr.rf
  refine v_aload_n B dX6_arrange_0 rfl rfl ?_
  refine v_iload_n B dX6_arrange_1 rfl rfl ?_
  obtain ⟨z1, z2, z3, z4, z5, yy6, yy7, z8, z9, z10, z11, z12, z13, z14, z15, z16, z17, z18, z19, yy20, h21, r22, r23, r24, r25, r26, r27, r28, r29, r30, r31, r32, r33, r34, r35, r36, r37, r38, r39, r40, r41⟩ : okLink τ (σ0 h) := G0 h _ t_h
  refine u_put B Z (C := RX6) (T := TX6) (N := 20) (ci := 6) hi_Link_arrange_X6 t_h h21 rfl 2 (by decide +kernel) tyX6 tyX6_ok nmX6 (List.mem_of_getElem? (i := 1) rfl) rfl (ty := .int) (tyX6_ok 2 (by decide +kernel)) rfl rfl (Nat.le_of_ble_eq_true rfl) (fs' := [.int (iI z1), .int (iI z2), .int (iI x1), .int (iI z4), .int (iI z5), .long (lI yy6), .long (lI yy7), .int (iI z8), .int (iI z9), .int (iI z10), .int (iI z11), .int (iI z12), .int (iI z13), .int (iI z14), .int (iI z15), .int (iI z16), .int (iI z17), .int (iI z18), .int (iI z19), .long (lI yy20)]) rfl dX6_arrange_2 (fun σ42 h43 n44 => ?_)
  have G45 := G0.put t_h (⟨z1, z2, x1, z4, z5, yy6, yy7, z8, z9, z10, z11, z12, z13, z14, z15, z16, z17, z18, z19, yy20, h43, ⟨by omega, by omega⟩, ⟨by omega, by omega⟩, ⟨by omega, by omega⟩, ⟨by omega, by omega⟩, ⟨by omega, by omega⟩, ⟨by omega, by omega⟩, ⟨by omega, by omega⟩, ⟨by omega, by omega⟩, ⟨by omega, by omega⟩, ⟨by omega, by omega⟩, ⟨by omega, by omega⟩, ⟨by omega, by omega⟩, ⟨by omega, by omega⟩, ⟨by omega, by omega⟩, ⟨by omega, by omega⟩, ⟨by omega, by omega⟩, ⟨by omega, by omega⟩, ⟨by omega, by omega⟩, ⟨by omega, by omega⟩, ⟨by omega, by omega⟩⟩ : Ok K τ (36, 0, 0) (σ42 h)) n44
  have F46 := F0.put t_h (by simp) n44
  refine v_aload_n B dX6_arrange_5 rfl rfl ?_
  refine v_iload_n B dX6_arrange_6 rfl rfl ?_
  refine u_put B Z (C := RX6) (T := TX6) (N := 20) (ci := 6) hi_Link_arrange_X6 t_h h43 rfl 3 (by decide +kernel) tyX6 tyX6_ok nmX6 (List.mem_of_getElem? (i := 2) rfl) rfl (ty := .int) (tyX6_ok 3 (by decide +kernel)) rfl rfl (Nat.le_of_ble_eq_true rfl) (fs' := [.int (iI z1), .int (iI z2), .int (iI x1), .int (iI x2), .int (iI z5), .long (lI yy6), .long (lI yy7), .int (iI z8), .int (iI z9), .int (iI z10), .int (iI z11), .int (iI z12), .int (iI z13), .int (iI z14), .int (iI z15), .int (iI z16), .int (iI z17), .int (iI z18), .int (iI z19), .long (lI yy20)]) rfl dX6_arrange_7 (fun σ47 h48 n49 => ?_)
  have G50 := G45.put t_h (⟨z1, z2, x1, x2, z5, yy6, yy7, z8, z9, z10, z11, z12, z13, z14, z15, z16, z17, z18, z19, yy20, h48, ⟨by omega, by omega⟩, ⟨by omega, by omega⟩, ⟨by omega, by omega⟩, ⟨by omega, by omega⟩, ⟨by omega, by omega⟩, ⟨by omega, by omega⟩, ⟨by omega, by omega⟩, ⟨by omega, by omega⟩, ⟨by omega, by omega⟩, ⟨by omega, by omega⟩, ⟨by omega, by omega⟩, ⟨by omega, by omega⟩, ⟨by omega, by omega⟩, ⟨by omega, by omega⟩, ⟨by omega, by omega⟩, ⟨by omega, by omega⟩, ⟨by omega, by omega⟩, ⟨by omega, by omega⟩, ⟨by omega, by omega⟩, ⟨by omega, by omega⟩⟩ : Ok K τ (36, 0, 0) (σ47 h)) n49
  have F51 := F46.put t_h (by simp) n49
  refine v_aload_n B dX6_arrange_10 rfl rfl ?_
  refine v_iload_n B dX6_arrange_11 rfl rfl ?_
  refine u_put B Z (C := RX6) (T := TX6) (N := 20) (ci := 6) hi_Link_arrange_X6 t_h h48 rfl 4 (by decide +kernel) tyX6 tyX6_ok nmX6 (List.mem_of_getElem? (i := 3) rfl) rfl (ty := .int) (tyX6_ok 4 (by decide +kernel)) rfl rfl (Nat.le_of_ble_eq_true rfl) (fs' := [.int (iI z1), .int (iI z2), .int (iI x1), .int (iI x2), .int (iI x3), .long (lI yy6), .long (lI yy7), .int (iI z8), .int (iI z9), .int (iI z10), .int (iI z11), .int (iI z12), .int (iI z13), .int (iI z14), .int (iI z15), .int (iI z16), .int (iI z17), .int (iI z18), .int (iI z19), .long (lI yy20)]) rfl dX6_arrange_12 (fun σ52 h53 n54 => ?_)
  have G55 := G50.put t_h (⟨z1, z2, x1, x2, x3, yy6, yy7, z8, z9, z10, z11, z12, z13, z14, z15, z16, z17, z18, z19, yy20, h53, ⟨by omega, by omega⟩, ⟨by omega, by omega⟩, ⟨by omega, by omega⟩, ⟨by omega, by omega⟩, ⟨by omega, by omega⟩, ⟨by omega, by omega⟩, ⟨by omega, by omega⟩, ⟨by omega, by omega⟩, ⟨by omega, by omega⟩, ⟨by omega, by omega⟩, ⟨by omega, by omega⟩, ⟨by omega, by omega⟩, ⟨by omega, by omega⟩, ⟨by omega, by omega⟩, ⟨by omega, by omega⟩, ⟨by omega, by omega⟩, ⟨by omega, by omega⟩, ⟨by omega, by omega⟩, ⟨by omega, by omega⟩, ⟨by omega, by omega⟩⟩ : Ok K τ (36, 0, 0) (σ52 h)) n54
  have F56 := F51.put t_h (by simp) n54
  refine v_aload_n B dX6_arrange_15 rfl rfl ?_
  refine v_lload B dX6_arrange_16 rfl ?_
  refine u_put B Z (C := RX6) (T := TX6) (N := 20) (ci := 6) hi_Link_arrange_X6 t_h h53 rfl 5 (by decide +kernel) tyX6 tyX6_ok nmX6 (List.mem_of_getElem? (i := 4) rfl) rfl (ty := .long) (tyX6_ok 5 (by decide +kernel)) rfl rfl (Nat.le_of_ble_eq_true rfl) (fs' := [.int (iI z1), .int (iI z2), .int (iI x1), .int (iI x2), .int (iI x3), .long (lI y4), .long (lI yy7), .int (iI z8), .int (iI z9), .int (iI z10), .int (iI z11), .int (iI z12), .int (iI z13), .int (iI z14), .int (iI z15), .int (iI z16), .int (iI z17), .int (iI z18), .int (iI z19), .long (lI yy20)]) rfl dX6_arrange_18 (fun σ57 h58 n59 => ?_)
  have G60 := G55.put t_h (⟨z1, z2, x1, x2, x3, y4, yy7, z8, z9, z10, z11, z12, z13, z14, z15, z16, z17, z18, z19, yy20, h58, ⟨by omega, by omega⟩, ⟨by omega, by omega⟩, ⟨by omega, by omega⟩, ⟨by omega, by omega⟩, ⟨by omega, by omega⟩, ⟨by omega, by omega⟩, ⟨by omega, by omega⟩, ⟨by omega, by omega⟩, ⟨by omega, by omega⟩, ⟨by omega, by omega⟩, ⟨by omega, by omega⟩, ⟨by omega, by omega⟩, ⟨by omega, by omega⟩, ⟨by omega, by omega⟩, ⟨by omega, by omega⟩, ⟨by omega, by omega⟩, ⟨by omega, by omega⟩, ⟨by omega, by omega⟩, ⟨by omega, by omega⟩, ⟨by omega, by omega⟩⟩ : Ok K τ (36, 0, 0) (σ57 h)) n59
  have F61 := F56.put t_h (by simp) n59
  exact hend σ57 _ _ G60 F61 dX6_arrange_21
set_option maxRecDepth 100000 in
theorem c_Link_arrange (l : Launch) (D : va_G) (K : Nat → ClassId) {τ : Nat → Option Ty} {dom : List Nat} (Z : Sk τ dom) (zb zL : Nat) (zx : Nat → Int32) (zs : Nat → Nat) (h : Nat) (x1 : Int) (x2 : Int) (x3 : Int) (y4 : Int) (t_h : τ h = some (36, 0, 0)) (r_x1 : -2147483648 ≤ x1 ∧ x1 ≤ 2147483647) (r_x2 : -2147483648 ≤ x2 ∧ x2 ≤ 2147483647) (r_x3 : -2147483648 ≤ x3 ∧ x3 ≤ 2147483647) (r_y4 : InL y4) (σ0 : Nat → va_E) (G0 : Good K τ σ0) : MZ l yX6_arrange wp_Link_arrange ({ frames := 0, cells := 0, slots := 0, locals := 0 }) D (tysA K) [.ref h, .int (iI x1), .int (iI x2), .int (iI x3), .long (lI y4)] (fd dom σ0) zb zL zx zs (Qv D (fun σ' => Good K τ σ' ∧ Fr τ [(36, 0)] σ0 σ') (fun σ' => fd dom σ')) 0 0 := by
  refine mz_of (cc := cX6_arrange) (maxL := 6) (ret := none) (by decide +kernel) rfl (Nat.le_of_ble_eq_true rfl) ?_
  intro p e s m below meth c A B hr hlk _ hz
  exact b_Link_arrange ⟨Nat.le_refl _, Nat.le_refl _⟩ B Z hz h x1 x2 x3 y4 t_h r_x1 r_x2 r_x3 r_y4 σ0 G0 (fun σ' lv pc G F hd => v_vret B hr hlk σ' ⟨G, F⟩ rfl (Nat.le_refl _) (Nat.le_refl _) hd)

def wp_Link_begin : List Cond := .code yX6_begin cX6_begin 2 none :: (([.fieldLink RX6 31 "LowEnergy$Link" "interval" "I", .fieldLink RX6 44 "LowEnergy$Link" "anchor" "I", .fieldLink RX6 47 "LowEnergy$Link" "heardAt" "I"] : List Cond) ++ (wsX60 ++ ([])))
theorem hi_Link_begin_X6 : ∀ x ∈ u_ws RX6 TX6 20, x ∈ wp_Link_begin := fun _ h => List.mem_cons_of_mem _ (List.mem_append_right _ (List.mem_append_left _ h))
set_option maxHeartbeats 4000000 in
set_option maxRecDepth 100000 in
theorem b_Link_begin {p : Program} {l : Launch} {e : Env} {R : Room} {s : State} {m : MethodId} {args : Array Value} {below : List Frame} {meth : Method} {c : Code} {D : va_G} {K : Nat → ClassId} {A : Nat → Prop} {Q : State → Prop} {τ : Nat → Option Ty} {dom : List Nat} {zb zL : Nat} {zx : Nat → Int32} {zs : Nat → Nat} (hR : 0 ≤ R.frames ∧ 0 ≤ R.locals) (B : Bx p s m args c cX6_begin 2 RX6 wp_Link_begin D (tysA K) A) (Z : Sk τ dom) (hz : ZL zb zL zx zs A s s.heap) (h : Nat) (x1 : Int) (t_h : τ h = some (36, 0, 0)) (r_x1 : -2147483648 ≤ x1 ∧ x1 ≤ 2147483647) (σ0 : Nat → va_E) (G0 : Good K τ σ0) (hend : ∀ (σ' : Nat → va_E) (lv : List (Nat × Value)) (pc : Nat), Good K τ σ' → Fr τ [(36, 0)] σ0 σ' → decode cX6_begin pc = .ok (.return_, 1) → V p l e R s m args below meth c 2 D A Q (0, 0) (fd dom σ') lv pc []) : V p l e R s m args below meth c 2 D A Q (0, 0) (fd dom σ0) [(0, .ref h), (1, .int (iI x1))] 0 [] := by
  have F0 : Fr τ [(36, 0)] σ0 σ0 := Fr.rf
  refine v_aload_n B dX6_begin_0 rfl rfl ?_
  refine v_iload_n B dX6_begin_1 rfl rfl ?_
  refine v_aload_n B dX6_begin_2 rfl rfl ?_
  obtain ⟨z1, z2, z3, z4, z5, yy6, yy7, z8, z9, z10, z11, z12, z13, z14, z15, z16, z17, z18, z19, yy20, h21, r22, r23, r24, r25, r26, r27, r28, r29, r30, r31, r32, r33, r34, r35, r36, r37, r38, r39, r40, r41⟩ : okLink τ (σ0 h) := G0 h _ t_h
  refine u_get B Z (C := RX6) (T := TX6) (N := 20) (ci := 6) hi_Link_begin_X6 t_h h21 rfl 2 (by decide +kernel) (List.mem_of_getElem? (i := 1) rfl) rfl dX6_begin_3 ?_
  obtain ⟨z42, e43, r44⟩ := iI_any (iI x1 + iI z3)
  refine v_iadd B (v := iI z42) dX6_begin_6 e43 ?_
  refine u_put B Z (C := RX6) (T := TX6) (N := 20) (ci := 6) hi_Link_begin_X6 t_h h21 rfl 9 (by decide +kernel) tyX6 tyX6_ok nmX6 (List.mem_of_getElem? (i := 2) rfl) rfl (ty := .int) (tyX6_ok 9 (by decide +kernel)) rfl rfl (Nat.le_of_ble_eq_true rfl) (fs' := [.int (iI z1), .int (iI z2), .int (iI z3), .int (iI z4), .int (iI z5), .long (lI yy6), .long (lI yy7), .int (iI z8), .int (iI z9), .int (iI z42), .int (iI z11), .int (iI z12), .int (iI z13), .int (iI z14), .int (iI z15), .int (iI z16), .int (iI z17), .int (iI z18), .int (iI z19), .long (lI yy20)]) rfl dX6_begin_7 (fun σ45 h46 n47 => ?_)
  have G48 := G0.put t_h (⟨z1, z2, z3, z4, z5, yy6, yy7, z8, z9, z42, z11, z12, z13, z14, z15, z16, z17, z18, z19, yy20, h46, ⟨by omega, by omega⟩, ⟨by omega, by omega⟩, ⟨by omega, by omega⟩, ⟨by omega, by omega⟩, ⟨by omega, by omega⟩, ⟨by omega, by omega⟩, ⟨by omega, by omega⟩, ⟨by omega, by omega⟩, ⟨by omega, by omega⟩, ⟨by omega, by omega⟩, ⟨by omega, by omega⟩, ⟨by omega, by omega⟩, ⟨by omega, by omega⟩, ⟨by omega, by omega⟩, ⟨by omega, by omega⟩, ⟨by omega, by omega⟩, ⟨by omega, by omega⟩, ⟨by omega, by omega⟩, ⟨by omega, by omega⟩, ⟨by omega, by omega⟩⟩ : Ok K τ (36, 0, 0) (σ45 h)) n47
  have F49 := F0.put t_h (by simp) n47
  refine v_aload_n B dX6_begin_10 rfl rfl ?_
  refine v_iload_n B dX6_begin_11 rfl rfl ?_
  refine u_put B Z (C := RX6) (T := TX6) (N := 20) (ci := 6) hi_Link_begin_X6 t_h h46 rfl 13 (by decide +kernel) tyX6 tyX6_ok nmX6 (List.mem_of_getElem? (i := 3) rfl) rfl (ty := .int) (tyX6_ok 13 (by decide +kernel)) rfl rfl (Nat.le_of_ble_eq_true rfl) (fs' := [.int (iI z1), .int (iI z2), .int (iI z3), .int (iI z4), .int (iI z5), .long (lI yy6), .long (lI yy7), .int (iI z8), .int (iI z9), .int (iI z42), .int (iI z11), .int (iI z12), .int (iI z13), .int (iI x1), .int (iI z15), .int (iI z16), .int (iI z17), .int (iI z18), .int (iI z19), .long (lI yy20)]) rfl dX6_begin_12 (fun σ50 h51 n52 => ?_)
  have G53 := G48.put t_h (⟨z1, z2, z3, z4, z5, yy6, yy7, z8, z9, z42, z11, z12, z13, x1, z15, z16, z17, z18, z19, yy20, h51, ⟨by omega, by omega⟩, ⟨by omega, by omega⟩, ⟨by omega, by omega⟩, ⟨by omega, by omega⟩, ⟨by omega, by omega⟩, ⟨by omega, by omega⟩, ⟨by omega, by omega⟩, ⟨by omega, by omega⟩, ⟨by omega, by omega⟩, ⟨by omega, by omega⟩, ⟨by omega, by omega⟩, ⟨by omega, by omega⟩, ⟨by omega, by omega⟩, ⟨by omega, by omega⟩, ⟨by omega, by omega⟩, ⟨by omega, by omega⟩, ⟨by omega, by omega⟩, ⟨by omega, by omega⟩, ⟨by omega, by omega⟩, ⟨by omega, by omega⟩⟩ : Ok K τ (36, 0, 0) (σ50 h)) n52
  have F54 := F49.put t_h (by simp) n52
  exact hend σ50 _ _ G53 F54 dX6_begin_15
set_option maxRecDepth 100000 in
theorem c_Link_begin (l : Launch) (D : va_G) (K : Nat → ClassId) {τ : Nat → Option Ty} {dom : List Nat} (Z : Sk τ dom) (zb zL : Nat) (zx : Nat → Int32) (zs : Nat → Nat) (h : Nat) (x1 : Int) (t_h : τ h = some (36, 0, 0)) (r_x1 : -2147483648 ≤ x1 ∧ x1 ≤ 2147483647) (σ0 : Nat → va_E) (G0 : Good K τ σ0) : MZ l yX6_begin wp_Link_begin ({ frames := 0, cells := 0, slots := 0, locals := 0 }) D (tysA K) [.ref h, .int (iI x1)] (fd dom σ0) zb zL zx zs (Qv D (fun σ' => Good K τ σ' ∧ Fr τ [(36, 0)] σ0 σ') (fun σ' => fd dom σ')) 0 0 := by
  refine mz_of (cc := cX6_begin) (maxL := 2) (ret := none) (by decide +kernel) rfl (Nat.le_of_ble_eq_true rfl) ?_
  intro p e s m below meth c A B hr hlk _ hz
  exact b_Link_begin ⟨Nat.le_refl _, Nat.le_refl _⟩ B Z hz h x1 t_h r_x1 σ0 G0 (fun σ' lv pc G F hd => v_vret B hr hlk σ' ⟨G, F⟩ rfl (Nat.le_refl _) (Nat.le_refl _) hd)

def wp_Link_reset : List Cond := .code yX6_reset cX6_reset 1 none :: (([.fieldLink RX6 50 "LowEnergy$Link" "mapWaits" "Z", .fieldLink RX6 54 "LowEnergy$Link" "event" "I", .fieldLink RX6 57 "LowEnergy$Link" "u" "I", .fieldLink RX6 9 "LowEnergy$Link" "channel" "I", .fieldLink RX6 60 "LowEnergy$Link" "heardGood" "Z", .fieldLink RX6 63 "LowEnergy$Link" "sn" "I", .fieldLink RX6 66 "LowEnergy$Link" "nesn" "I", .fieldLink RX6 15 "LowEnergy$Link" "reason" "I", .fieldLink RX6 18 "LowEnergy$Link" "laterReason" "I"] : List Cond) ++ (wsX60 ++ ([])))
theorem hi_Link_reset_X6 : ∀ x ∈ u_ws RX6 TX6 20, x ∈ wp_Link_reset := fun _ h => List.mem_cons_of_mem _ (List.mem_append_right _ (List.mem_append_left _ h))
set_option maxHeartbeats 4000000 in
set_option maxRecDepth 100000 in
theorem b_Link_reset {p : Program} {l : Launch} {e : Env} {R : Room} {s : State} {m : MethodId} {args : Array Value} {below : List Frame} {meth : Method} {c : Code} {D : va_G} {K : Nat → ClassId} {A : Nat → Prop} {Q : State → Prop} {τ : Nat → Option Ty} {dom : List Nat} {zb zL : Nat} {zx : Nat → Int32} {zs : Nat → Nat} (hR : 0 ≤ R.frames ∧ 0 ≤ R.locals) (B : Bx p s m args c cX6_reset 1 RX6 wp_Link_reset D (tysA K) A) (Z : Sk τ dom) (hz : ZL zb zL zx zs A s s.heap) (h : Nat) (t_h : τ h = some (36, 0, 0)) (σ0 : Nat → va_E) (G0 : Good K τ σ0) (hend : ∀ (σ' : Nat → va_E) (lv : List (Nat × Value)) (pc : Nat), Good K τ σ' → Fr τ [(36, 0)] σ0 σ' → decode cX6_reset pc = .ok (.return_, 1) → V p l e R s m args below meth c 1 D A Q (0, 0) (fd dom σ') lv pc []) : V p l e R s m args below meth c 1 D A Q (0, 0) (fd dom σ0) [(0, .ref h)] 0 [] := by
  have F0 : Fr τ [(36, 0)] σ0 σ0 := Fr.rf
  refine v_aload_n B dX6_reset_0 rfl rfl ?_
  refine v_iconst B (v := iI 0) dX6_reset_1 rfl ?_
  obtain ⟨z1, z2, z3, z4, z5, yy6, yy7, z8, z9, z10, z11, z12, z13, z14, z15, z16, z17, z18, z19, yy20, h21, r22, r23, r24, r25, r26, r27, r28, r29, r30, r31, r32, r33, r34, r35, r36, r37, r38, r39, r40, r41⟩ : okLink τ (σ0 h) := G0 h _ t_h
  refine u_put B Z (C := RX6) (T := TX6) (N := 20) (ci := 6) hi_Link_reset_X6 t_h h21 rfl 7 (by decide +kernel) tyX6 tyX6_ok nmX6 (List.mem_of_getElem? (i := 1) rfl) rfl (ty := .boolean) (tyX6_ok 7 (by decide +kernel)) (nar01 (by omega)) (fit01 (by omega)) (Nat.le_of_ble_eq_true rfl) (fs' := [.int (iI z1), .int (iI z2), .int (iI z3), .int (iI z4), .int (iI z5), .long (lI yy6), .long (lI yy7), .int (iI 0), .int (iI z9), .int (iI z10), .int (iI z11), .int (iI z12), .int (iI z13), .int (iI z14), .int (iI z15), .int (iI z16), .int (iI z17), .int (iI z18), .int (iI z19), .long (lI yy20)]) rfl dX6_reset_2 (fun σ42 h43 n44 => ?_)
  have G45 := G0.put t_h (⟨z1, z2, z3, z4, z5, yy6, yy7, 0, z9, z10, z11, z12, z13, z14, z15, z16, z17, z18, z19, yy20, h43, ⟨by omega, by omega⟩, ⟨by omega, by omega⟩, ⟨by omega, by omega⟩, ⟨by omega, by omega⟩, ⟨by omega, by omega⟩, ⟨by omega, by omega⟩, ⟨by omega, by omega⟩, ⟨by omega, by omega⟩, ⟨by omega, by omega⟩, ⟨by omega, by omega⟩, ⟨by omega, by omega⟩, ⟨by omega, by omega⟩, ⟨by omega, by omega⟩, ⟨by omega, by omega⟩, ⟨by omega, by omega⟩, ⟨by omega, by omega⟩, ⟨by omega, by omega⟩, ⟨by omega, by omega⟩, ⟨by omega, by omega⟩, ⟨by omega, by omega⟩⟩ : Ok K τ (36, 0, 0) (σ42 h)) n44
  have F46 := F0.put t_h (by simp) n44
  refine v_aload_n B dX6_reset_5 rfl rfl ?_
  refine v_iconst B (v := iI 0) dX6_reset_6 rfl ?_
  refine u_put B Z (C := RX6) (T := TX6) (N := 20) (ci := 6) hi_Link_reset_X6 t_h h43 rfl 10 (by decide +kernel) tyX6 tyX6_ok nmX6 (List.mem_of_getElem? (i := 2) rfl) rfl (ty := .int) (tyX6_ok 10 (by decide +kernel)) rfl rfl (Nat.le_of_ble_eq_true rfl) (fs' := [.int (iI z1), .int (iI z2), .int (iI z3), .int (iI z4), .int (iI z5), .long (lI yy6), .long (lI yy7), .int (iI 0), .int (iI z9), .int (iI z10), .int (iI 0), .int (iI z12), .int (iI z13), .int (iI z14), .int (iI z15), .int (iI z16), .int (iI z17), .int (iI z18), .int (iI z19), .long (lI yy20)]) rfl dX6_reset_7 (fun σ47 h48 n49 => ?_)
  have G50 := G45.put t_h (⟨z1, z2, z3, z4, z5, yy6, yy7, 0, z9, z10, 0, z12, z13, z14, z15, z16, z17, z18, z19, yy20, h48, ⟨by omega, by omega⟩, ⟨by omega, by omega⟩, ⟨by omega, by omega⟩, ⟨by omega, by omega⟩, ⟨by omega, by omega⟩, ⟨by omega, by omega⟩, ⟨by omega, by omega⟩, ⟨by omega, by omega⟩, ⟨by omega, by omega⟩, ⟨by omega, by omega⟩, ⟨by omega, by omega⟩, ⟨by omega, by omega⟩, ⟨by omega, by omega⟩, ⟨by omega, by omega⟩, ⟨by omega, by omega⟩, ⟨by omega, by omega⟩, ⟨by omega, by omega⟩, ⟨by omega, by omega⟩, ⟨by omega, by omega⟩, ⟨by omega, by omega⟩⟩ : Ok K τ (36, 0, 0) (σ47 h)) n49
  have F51 := F46.put t_h (by simp) n49
  refine v_aload_n B dX6_reset_10 rfl rfl ?_
  refine v_iconst B (v := iI 0) dX6_reset_11 rfl ?_
  refine u_put B Z (C := RX6) (T := TX6) (N := 20) (ci := 6) hi_Link_reset_X6 t_h h48 rfl 11 (by decide +kernel) tyX6 tyX6_ok nmX6 (List.mem_of_getElem? (i := 3) rfl) rfl (ty := .int) (tyX6_ok 11 (by decide +kernel)) rfl rfl (Nat.le_of_ble_eq_true rfl) (fs' := [.int (iI z1), .int (iI z2), .int (iI z3), .int (iI z4), .int (iI z5), .long (lI yy6), .long (lI yy7), .int (iI 0), .int (iI z9), .int (iI z10), .int (iI 0), .int (iI 0), .int (iI z13), .int (iI z14), .int (iI z15), .int (iI z16), .int (iI z17), .int (iI z18), .int (iI z19), .long (lI yy20)]) rfl dX6_reset_12 (fun σ52 h53 n54 => ?_)
  have G55 := G50.put t_h (⟨z1, z2, z3, z4, z5, yy6, yy7, 0, z9, z10, 0, 0, z13, z14, z15, z16, z17, z18, z19, yy20, h53, ⟨by omega, by omega⟩, ⟨by omega, by omega⟩, ⟨by omega, by omega⟩, ⟨by omega, by omega⟩, ⟨by omega, by omega⟩, ⟨by omega, by omega⟩, ⟨by omega, by omega⟩, ⟨by omega, by omega⟩, ⟨by omega, by omega⟩, ⟨by omega, by omega⟩, ⟨by omega, by omega⟩, ⟨by omega, by omega⟩, ⟨by omega, by omega⟩, ⟨by omega, by omega⟩, ⟨by omega, by omega⟩, ⟨by omega, by omega⟩, ⟨by omega, by omega⟩, ⟨by omega, by omega⟩, ⟨by omega, by omega⟩, ⟨by omega, by omega⟩⟩ : Ok K τ (36, 0, 0) (σ52 h)) n54
  have F56 := F51.put t_h (by simp) n54
  refine v_aload_n B dX6_reset_15 rfl rfl ?_
  refine v_iconst B (v := iI (-1)) dX6_reset_16 rfl ?_
  refine u_put B Z (C := RX6) (T := TX6) (N := 20) (ci := 6) hi_Link_reset_X6 t_h h53 rfl 12 (by decide +kernel) tyX6 tyX6_ok nmX6 (List.mem_of_getElem? (i := 4) rfl) rfl (ty := .int) (tyX6_ok 12 (by decide +kernel)) rfl rfl (Nat.le_of_ble_eq_true rfl) (fs' := [.int (iI z1), .int (iI z2), .int (iI z3), .int (iI z4), .int (iI z5), .long (lI yy6), .long (lI yy7), .int (iI 0), .int (iI z9), .int (iI z10), .int (iI 0), .int (iI 0), .int (iI (-1)), .int (iI z14), .int (iI z15), .int (iI z16), .int (iI z17), .int (iI z18), .int (iI z19), .long (lI yy20)]) rfl dX6_reset_17 (fun σ57 h58 n59 => ?_)
  have G60 := G55.put t_h (⟨z1, z2, z3, z4, z5, yy6, yy7, 0, z9, z10, 0, 0, (-1), z14, z15, z16, z17, z18, z19, yy20, h58, ⟨by omega, by omega⟩, ⟨by omega, by omega⟩, ⟨by omega, by omega⟩, ⟨by omega, by omega⟩, ⟨by omega, by omega⟩, ⟨by omega, by omega⟩, ⟨by omega, by omega⟩, ⟨by omega, by omega⟩, ⟨by omega, by omega⟩, ⟨by omega, by omega⟩, ⟨by omega, by omega⟩, ⟨by omega, by omega⟩, ⟨by omega, by omega⟩, ⟨by omega, by omega⟩, ⟨by omega, by omega⟩, ⟨by omega, by omega⟩, ⟨by omega, by omega⟩, ⟨by omega, by omega⟩, ⟨by omega, by omega⟩, ⟨by omega, by omega⟩⟩ : Ok K τ (36, 0, 0) (σ57 h)) n59
  have F61 := F56.put t_h (by simp) n59
  refine v_aload_n B dX6_reset_20 rfl rfl ?_
  refine v_iconst B (v := iI 0) dX6_reset_21 rfl ?_
  refine u_put B Z (C := RX6) (T := TX6) (N := 20) (ci := 6) hi_Link_reset_X6 t_h h58 rfl 14 (by decide +kernel) tyX6 tyX6_ok nmX6 (List.mem_of_getElem? (i := 5) rfl) rfl (ty := .boolean) (tyX6_ok 14 (by decide +kernel)) (nar01 (by omega)) (fit01 (by omega)) (Nat.le_of_ble_eq_true rfl) (fs' := [.int (iI z1), .int (iI z2), .int (iI z3), .int (iI z4), .int (iI z5), .long (lI yy6), .long (lI yy7), .int (iI 0), .int (iI z9), .int (iI z10), .int (iI 0), .int (iI 0), .int (iI (-1)), .int (iI z14), .int (iI 0), .int (iI z16), .int (iI z17), .int (iI z18), .int (iI z19), .long (lI yy20)]) rfl dX6_reset_22 (fun σ62 h63 n64 => ?_)
  have G65 := G60.put t_h (⟨z1, z2, z3, z4, z5, yy6, yy7, 0, z9, z10, 0, 0, (-1), z14, 0, z16, z17, z18, z19, yy20, h63, ⟨by omega, by omega⟩, ⟨by omega, by omega⟩, ⟨by omega, by omega⟩, ⟨by omega, by omega⟩, ⟨by omega, by omega⟩, ⟨by omega, by omega⟩, ⟨by omega, by omega⟩, ⟨by omega, by omega⟩, ⟨by omega, by omega⟩, ⟨by omega, by omega⟩, ⟨by omega, by omega⟩, ⟨by omega, by omega⟩, ⟨by omega, by omega⟩, ⟨by omega, by omega⟩, ⟨by omega, by omega⟩, ⟨by omega, by omega⟩, ⟨by omega, by omega⟩, ⟨by omega, by omega⟩, ⟨by omega, by omega⟩, ⟨by omega, by omega⟩⟩ : Ok K τ (36, 0, 0) (σ62 h)) n64
  have F66 := F61.put t_h (by simp) n64
  refine v_aload_n B dX6_reset_25 rfl rfl ?_
  refine v_iconst B (v := iI 0) dX6_reset_26 rfl ?_
  refine u_put B Z (C := RX6) (T := TX6) (N := 20) (ci := 6) hi_Link_reset_X6 t_h h63 rfl 15 (by decide +kernel) tyX6 tyX6_ok nmX6 (List.mem_of_getElem? (i := 6) rfl) rfl (ty := .int) (tyX6_ok 15 (by decide +kernel)) rfl rfl (Nat.le_of_ble_eq_true rfl) (fs' := [.int (iI z1), .int (iI z2), .int (iI z3), .int (iI z4), .int (iI z5), .long (lI yy6), .long (lI yy7), .int (iI 0), .int (iI z9), .int (iI z10), .int (iI 0), .int (iI 0), .int (iI (-1)), .int (iI z14), .int (iI 0), .int (iI 0), .int (iI z17), .int (iI z18), .int (iI z19), .long (lI yy20)]) rfl dX6_reset_27 (fun σ67 h68 n69 => ?_)
  have G70 := G65.put t_h (⟨z1, z2, z3, z4, z5, yy6, yy7, 0, z9, z10, 0, 0, (-1), z14, 0, 0, z17, z18, z19, yy20, h68, ⟨by omega, by omega⟩, ⟨by omega, by omega⟩, ⟨by omega, by omega⟩, ⟨by omega, by omega⟩, ⟨by omega, by omega⟩, ⟨by omega, by omega⟩, ⟨by omega, by omega⟩, ⟨by omega, by omega⟩, ⟨by omega, by omega⟩, ⟨by omega, by omega⟩, ⟨by omega, by omega⟩, ⟨by omega, by omega⟩, ⟨by omega, by omega⟩, ⟨by omega, by omega⟩, ⟨by omega, by omega⟩, ⟨by omega, by omega⟩, ⟨by omega, by omega⟩, ⟨by omega, by omega⟩, ⟨by omega, by omega⟩, ⟨by omega, by omega⟩⟩ : Ok K τ (36, 0, 0) (σ67 h)) n69
  have F71 := F66.put t_h (by simp) n69
  refine v_aload_n B dX6_reset_30 rfl rfl ?_
  refine v_iconst B (v := iI 0) dX6_reset_31 rfl ?_
  refine u_put B Z (C := RX6) (T := TX6) (N := 20) (ci := 6) hi_Link_reset_X6 t_h h68 rfl 16 (by decide +kernel) tyX6 tyX6_ok nmX6 (List.mem_of_getElem? (i := 7) rfl) rfl (ty := .int) (tyX6_ok 16 (by decide +kernel)) rfl rfl (Nat.le_of_ble_eq_true rfl) (fs' := [.int (iI z1), .int (iI z2), .int (iI z3), .int (iI z4), .int (iI z5), .long (lI yy6), .long (lI yy7), .int (iI 0), .int (iI z9), .int (iI z10), .int (iI 0), .int (iI 0), .int (iI (-1)), .int (iI z14), .int (iI 0), .int (iI 0), .int (iI 0), .int (iI z18), .int (iI z19), .long (lI yy20)]) rfl dX6_reset_32 (fun σ72 h73 n74 => ?_)
  have G75 := G70.put t_h (⟨z1, z2, z3, z4, z5, yy6, yy7, 0, z9, z10, 0, 0, (-1), z14, 0, 0, 0, z18, z19, yy20, h73, ⟨by omega, by omega⟩, ⟨by omega, by omega⟩, ⟨by omega, by omega⟩, ⟨by omega, by omega⟩, ⟨by omega, by omega⟩, ⟨by omega, by omega⟩, ⟨by omega, by omega⟩, ⟨by omega, by omega⟩, ⟨by omega, by omega⟩, ⟨by omega, by omega⟩, ⟨by omega, by omega⟩, ⟨by omega, by omega⟩, ⟨by omega, by omega⟩, ⟨by omega, by omega⟩, ⟨by omega, by omega⟩, ⟨by omega, by omega⟩, ⟨by omega, by omega⟩, ⟨by omega, by omega⟩, ⟨by omega, by omega⟩, ⟨by omega, by omega⟩⟩ : Ok K τ (36, 0, 0) (σ72 h)) n74
  have F76 := F71.put t_h (by simp) n74
  refine v_aload_n B dX6_reset_35 rfl rfl ?_
  refine v_iconst B (v := iI (-1)) dX6_reset_36 rfl ?_
  refine u_put B Z (C := RX6) (T := TX6) (N := 20) (ci := 6) hi_Link_reset_X6 t_h h73 rfl 17 (by decide +kernel) tyX6 tyX6_ok nmX6 (List.mem_of_getElem? (i := 8) rfl) rfl (ty := .int) (tyX6_ok 17 (by decide +kernel)) rfl rfl (Nat.le_of_ble_eq_true rfl) (fs' := [.int (iI z1), .int (iI z2), .int (iI z3), .int (iI z4), .int (iI z5), .long (lI yy6), .long (lI yy7), .int (iI 0), .int (iI z9), .int (iI z10), .int (iI 0), .int (iI 0), .int (iI (-1)), .int (iI z14), .int (iI 0), .int (iI 0), .int (iI 0), .int (iI (-1)), .int (iI z19), .long (lI yy20)]) rfl dX6_reset_37 (fun σ77 h78 n79 => ?_)
  have G80 := G75.put t_h (⟨z1, z2, z3, z4, z5, yy6, yy7, 0, z9, z10, 0, 0, (-1), z14, 0, 0, 0, (-1), z19, yy20, h78, ⟨by omega, by omega⟩, ⟨by omega, by omega⟩, ⟨by omega, by omega⟩, ⟨by omega, by omega⟩, ⟨by omega, by omega⟩, ⟨by omega, by omega⟩, ⟨by omega, by omega⟩, ⟨by omega, by omega⟩, ⟨by omega, by omega⟩, ⟨by omega, by omega⟩, ⟨by omega, by omega⟩, ⟨by omega, by omega⟩, ⟨by omega, by omega⟩, ⟨by omega, by omega⟩, ⟨by omega, by omega⟩, ⟨by omega, by omega⟩, ⟨by omega, by omega⟩, ⟨by omega, by omega⟩, ⟨by omega, by omega⟩, ⟨by omega, by omega⟩⟩ : Ok K τ (36, 0, 0) (σ77 h)) n79
  have F81 := F76.put t_h (by simp) n79
  refine v_aload_n B dX6_reset_40 rfl rfl ?_
  refine v_iconst B (v := iI (-1)) dX6_reset_41 rfl ?_
  refine u_put B Z (C := RX6) (T := TX6) (N := 20) (ci := 6) hi_Link_reset_X6 t_h h78 rfl 18 (by decide +kernel) tyX6 tyX6_ok nmX6 (List.mem_of_getElem? (i := 9) rfl) rfl (ty := .int) (tyX6_ok 18 (by decide +kernel)) rfl rfl (Nat.le_of_ble_eq_true rfl) (fs' := [.int (iI z1), .int (iI z2), .int (iI z3), .int (iI z4), .int (iI z5), .long (lI yy6), .long (lI yy7), .int (iI 0), .int (iI z9), .int (iI z10), .int (iI 0), .int (iI 0), .int (iI (-1)), .int (iI z14), .int (iI 0), .int (iI 0), .int (iI 0), .int (iI (-1)), .int (iI (-1)), .long (lI yy20)]) rfl dX6_reset_42 (fun σ82 h83 n84 => ?_)
  have G85 := G80.put t_h (⟨z1, z2, z3, z4, z5, yy6, yy7, 0, z9, z10, 0, 0, (-1), z14, 0, 0, 0, (-1), (-1), yy20, h83, ⟨by omega, by omega⟩, ⟨by omega, by omega⟩, ⟨by omega, by omega⟩, ⟨by omega, by omega⟩, ⟨by omega, by omega⟩, ⟨by omega, by omega⟩, ⟨by omega, by omega⟩, ⟨by omega, by omega⟩, ⟨by omega, by omega⟩, ⟨by omega, by omega⟩, ⟨by omega, by omega⟩, ⟨by omega, by omega⟩, ⟨by omega, by omega⟩, ⟨by omega, by omega⟩, ⟨by omega, by omega⟩, ⟨by omega, by omega⟩, ⟨by omega, by omega⟩, ⟨by omega, by omega⟩, ⟨by omega, by omega⟩, ⟨by omega, by omega⟩⟩ : Ok K τ (36, 0, 0) (σ82 h)) n84
  have F86 := F81.put t_h (by simp) n84
  exact hend σ82 _ _ G85 F86 dX6_reset_45
set_option maxRecDepth 100000 in
theorem c_Link_reset (l : Launch) (D : va_G) (K : Nat → ClassId) {τ : Nat → Option Ty} {dom : List Nat} (Z : Sk τ dom) (zb zL : Nat) (zx : Nat → Int32) (zs : Nat → Nat) (h : Nat) (t_h : τ h = some (36, 0, 0)) (σ0 : Nat → va_E) (G0 : Good K τ σ0) : MZ l yX6_reset wp_Link_reset ({ frames := 0, cells := 0, slots := 0, locals := 0 }) D (tysA K) [.ref h] (fd dom σ0) zb zL zx zs (Qv D (fun σ' => Good K τ σ' ∧ Fr τ [(36, 0)] σ0 σ') (fun σ' => fd dom σ')) 0 0 := by
  refine mz_of (cc := cX6_reset) (maxL := 1) (ret := none) (by decide +kernel) rfl (Nat.le_of_ble_eq_true rfl) ?_
  intro p e s m below meth c A B hr hlk _ hz
  exact b_Link_reset ⟨Nat.le_refl _, Nat.le_refl _⟩ B Z hz h t_h σ0 G0 (fun σ' lv pc G F hd => v_vret B hr hlk σ' ⟨G, F⟩ rfl (Nat.le_refl _) (Nat.le_refl _) hd)

def wp_Link_awaitMap : List Cond := .code yX6_awaitMap cX6_awaitMap 4 none :: (([.fieldLink RX6 69 "LowEnergy$Link" "nextMap" "J", .fieldLink RX6 72 "LowEnergy$Link" "instant" "I", .fieldLink RX6 50 "LowEnergy$Link" "mapWaits" "Z"] : List Cond) ++ (wsX60 ++ ([])))
theorem hi_Link_awaitMap_X6 : ∀ x ∈ u_ws RX6 TX6 20, x ∈ wp_Link_awaitMap := fun _ h => List.mem_cons_of_mem _ (List.mem_append_right _ (List.mem_append_left _ h))
set_option maxHeartbeats 4000000 in
set_option maxRecDepth 100000 in
theorem b_Link_awaitMap {p : Program} {l : Launch} {e : Env} {R : Room} {s : State} {m : MethodId} {args : Array Value} {below : List Frame} {meth : Method} {c : Code} {D : va_G} {K : Nat → ClassId} {A : Nat → Prop} {Q : State → Prop} {τ : Nat → Option Ty} {dom : List Nat} {zb zL : Nat} {zx : Nat → Int32} {zs : Nat → Nat} (hR : 0 ≤ R.frames ∧ 0 ≤ R.locals) (B : Bx p s m args c cX6_awaitMap 4 RX6 wp_Link_awaitMap D (tysA K) A) (Z : Sk τ dom) (hz : ZL zb zL zx zs A s s.heap) (h : Nat) (y1 : Int) (x3 : Int) (t_h : τ h = some (36, 0, 0)) (r_y1 : InL y1) (r_x3 : -2147483648 ≤ x3 ∧ x3 ≤ 2147483647) (σ0 : Nat → va_E) (G0 : Good K τ σ0) (hend : ∀ (σ' : Nat → va_E) (lv : List (Nat × Value)) (pc : Nat), Good K τ σ' → Fr τ [(36, 0)] σ0 σ' → decode cX6_awaitMap pc = .ok (.return_, 1) → V p l e R s m args below meth c 4 D A Q (0, 0) (fd dom σ') lv pc []) : V p l e R s m args below meth c 4 D A Q (0, 0) (fd dom σ0) [(0, .ref h), (1, .long (lI y1)), (3, .int (iI x3))] 0 [] := by
  have F0 : Fr τ [(36, 0)] σ0 σ0 := Fr.rf
  refine v_aload_n B dX6_awaitMap_0 rfl rfl ?_
  refine v_lload_n B dX6_awaitMap_1 rfl rfl ?_
  obtain ⟨z1, z2, z3, z4, z5, yy6, yy7, z8, z9, z10, z11, z12, z13, z14, z15, z16, z17, z18, z19, yy20, h21, r22, r23, r24, r25, r26, r27, r28, r29, r30, r31, r32, r33, r34, r35, r36, r37, r38, r39, r40, r41⟩ : okLink τ (σ0 h) := G0 h _ t_h
  refine u_put B Z (C := RX6) (T := TX6) (N := 20) (ci := 6) hi_Link_awaitMap_X6 t_h h21 rfl 6 (by decide +kernel) tyX6 tyX6_ok nmX6 (List.mem_of_getElem? (i := 1) rfl) rfl (ty := .long) (tyX6_ok 6 (by decide +kernel)) rfl rfl (Nat.le_of_ble_eq_true rfl) (fs' := [.int (iI z1), .int (iI z2), .int (iI z3), .int (iI z4), .int (iI z5), .long (lI yy6), .long (lI y1), .int (iI z8), .int (iI z9), .int (iI z10), .int (iI z11), .int (iI z12), .int (iI z13), .int (iI z14), .int (iI z15), .int (iI z16), .int (iI z17), .int (iI z18), .int (iI z19), .long (lI yy20)]) rfl dX6_awaitMap_2 (fun σ42 h43 n44 => ?_)
  have G45 := G0.put t_h (⟨z1, z2, z3, z4, z5, yy6, y1, z8, z9, z10, z11, z12, z13, z14, z15, z16, z17, z18, z19, yy20, h43, ⟨by omega, by omega⟩, ⟨by omega, by omega⟩, ⟨by omega, by omega⟩, ⟨by omega, by omega⟩, ⟨by omega, by omega⟩, ⟨by omega, by omega⟩, ⟨by omega, by omega⟩, ⟨by omega, by omega⟩, ⟨by omega, by omega⟩, ⟨by omega, by omega⟩, ⟨by omega, by omega⟩, ⟨by omega, by omega⟩, ⟨by omega, by omega⟩, ⟨by omega, by omega⟩, ⟨by omega, by omega⟩, ⟨by omega, by omega⟩, ⟨by omega, by omega⟩, ⟨by omega, by omega⟩, ⟨by omega, by omega⟩, ⟨by omega, by omega⟩⟩ : Ok K τ (36, 0, 0) (σ42 h)) n44
  have F46 := F0.put t_h (by simp) n44
  refine v_aload_n B dX6_awaitMap_5 rfl rfl ?_
  refine v_iload_n B dX6_awaitMap_6 rfl rfl ?_
  refine u_put B Z (C := RX6) (T := TX6) (N := 20) (ci := 6) hi_Link_awaitMap_X6 t_h h43 rfl 8 (by decide +kernel) tyX6 tyX6_ok nmX6 (List.mem_of_getElem? (i := 2) rfl) rfl (ty := .int) (tyX6_ok 8 (by decide +kernel)) rfl rfl (Nat.le_of_ble_eq_true rfl) (fs' := [.int (iI z1), .int (iI z2), .int (iI z3), .int (iI z4), .int (iI z5), .long (lI yy6), .long (lI y1), .int (iI z8), .int (iI x3), .int (iI z10), .int (iI z11), .int (iI z12), .int (iI z13), .int (iI z14), .int (iI z15), .int (iI z16), .int (iI z17), .int (iI z18), .int (iI z19), .long (lI yy20)]) rfl dX6_awaitMap_7 (fun σ47 h48 n49 => ?_)
  have G50 := G45.put t_h (⟨z1, z2, z3, z4, z5, yy6, y1, z8, x3, z10, z11, z12, z13, z14, z15, z16, z17, z18, z19, yy20, h48, ⟨by omega, by omega⟩, ⟨by omega, by omega⟩, ⟨by omega, by omega⟩, ⟨by omega, by omega⟩, ⟨by omega, by omega⟩, ⟨by omega, by omega⟩, ⟨by omega, by omega⟩, ⟨by omega, by omega⟩, ⟨by omega, by omega⟩, ⟨by omega, by omega⟩, ⟨by omega, by omega⟩, ⟨by omega, by omega⟩, ⟨by omega, by omega⟩, ⟨by omega, by omega⟩, ⟨by omega, by omega⟩, ⟨by omega, by omega⟩, ⟨by omega, by omega⟩, ⟨by omega, by omega⟩, ⟨by omega, by omega⟩, ⟨by omega, by omega⟩⟩ : Ok K τ (36, 0, 0) (σ47 h)) n49
  have F51 := F46.put t_h (by simp) n49
  refine v_aload_n B dX6_awaitMap_10 rfl rfl ?_
  refine v_iconst B (v := iI 1) dX6_awaitMap_11 rfl ?_
  refine u_put B Z (C := RX6) (T := TX6) (N := 20) (ci := 6) hi_Link_awaitMap_X6 t_h h48 rfl 7 (by decide +kernel) tyX6 tyX6_ok nmX6 (List.mem_of_getElem? (i := 3) rfl) rfl (ty := .boolean) (tyX6_ok 7 (by decide +kernel)) (nar01 (by omega)) (fit01 (by omega)) (Nat.le_of_ble_eq_true rfl) (fs' := [.int (iI z1), .int (iI z2), .int (iI z3), .int (iI z4), .int (iI z5), .long (lI yy6), .long (lI y1), .int (iI 1), .int (iI x3), .int (iI z10), .int (iI z11), .int (iI z12), .int (iI z13), .int (iI z14), .int (iI z15), .int (iI z16), .int (iI z17), .int (iI z18), .int (iI z19), .long (lI yy20)]) rfl dX6_awaitMap_12 (fun σ52 h53 n54 => ?_)
  have G55 := G50.put t_h (⟨z1, z2, z3, z4, z5, yy6, y1, 1, x3, z10, z11, z12, z13, z14, z15, z16, z17, z18, z19, yy20, h53, ⟨by omega, by omega⟩, ⟨by omega, by omega⟩, ⟨by omega, by omega⟩, ⟨by omega, by omega⟩, ⟨by omega, by omega⟩, ⟨by omega, by omega⟩, ⟨by omega, by omega⟩, ⟨by omega, by omega⟩, ⟨by omega, by omega⟩, ⟨by omega, by omega⟩, ⟨by omega, by omega⟩, ⟨by omega, by omega⟩, ⟨by omega, by omega⟩, ⟨by omega, by omega⟩, ⟨by omega, by omega⟩, ⟨by omega, by omega⟩, ⟨by omega, by omega⟩, ⟨by omega, by omega⟩, ⟨by omega, by omega⟩, ⟨by omega, by omega⟩⟩ : Ok K τ (36, 0, 0) (σ52 h)) n54
  have F56 := F51.put t_h (by simp) n54
  exact hend σ52 _ _ G55 F56 dX6_awaitMap_15
set_option maxRecDepth 100000 in
theorem c_Link_awaitMap (l : Launch) (D : va_G) (K : Nat → ClassId) {τ : Nat → Option Ty} {dom : List Nat} (Z : Sk τ dom) (zb zL : Nat) (zx : Nat → Int32) (zs : Nat → Nat) (h : Nat) (y1 : Int) (x3 : Int) (t_h : τ h = some (36, 0, 0)) (r_y1 : InL y1) (r_x3 : -2147483648 ≤ x3 ∧ x3 ≤ 2147483647) (σ0 : Nat → va_E) (G0 : Good K τ σ0) : MZ l yX6_awaitMap wp_Link_awaitMap ({ frames := 0, cells := 0, slots := 0, locals := 0 }) D (tysA K) [.ref h, .long (lI y1), .int (iI x3)] (fd dom σ0) zb zL zx zs (Qv D (fun σ' => Good K τ σ' ∧ Fr τ [(36, 0)] σ0 σ') (fun σ' => fd dom σ')) 0 0 := by
  refine mz_of (cc := cX6_awaitMap) (maxL := 4) (ret := none) (by decide +kernel) rfl (Nat.le_of_ble_eq_true rfl) ?_
  intro p e s m below meth c A B hr hlk _ hz
  exact b_Link_awaitMap ⟨Nat.le_refl _, Nat.le_refl _⟩ B Z hz h y1 x3 t_h r_y1 r_x3 σ0 G0 (fun σ' lv pc G F hd => v_vret B hr hlk σ' ⟨G, F⟩ rfl (Nat.le_refl _) (Nat.le_refl _) hd)

def wp_Link_giveReason : List Cond := .code yX6_giveReason cX6_giveReason 2 none :: (([.fieldLink RX6 15 "LowEnergy$Link" "reason" "I"] : List Cond) ++ (wsX60 ++ ([])))
theorem hi_Link_giveReason_X6 : ∀ x ∈ u_ws RX6 TX6 20, x ∈ wp_Link_giveReason := fun _ h => List.mem_cons_of_mem _ (List.mem_append_right _ (List.mem_append_left _ h))
set_option maxHeartbeats 4000000 in
set_option maxRecDepth 100000 in
theorem b_Link_giveReason {p : Program} {l : Launch} {e : Env} {R : Room} {s : State} {m : MethodId} {args : Array Value} {below : List Frame} {meth : Method} {c : Code} {D : va_G} {K : Nat → ClassId} {A : Nat → Prop} {Q : State → Prop} {τ : Nat → Option Ty} {dom : List Nat} {zb zL : Nat} {zx : Nat → Int32} {zs : Nat → Nat} (hR : 0 ≤ R.frames ∧ 0 ≤ R.locals) (B : Bx p s m args c cX6_giveReason 2 RX6 wp_Link_giveReason D (tysA K) A) (Z : Sk τ dom) (hz : ZL zb zL zx zs A s s.heap) (h : Nat) (x1 : Int) (t_h : τ h = some (36, 0, 0)) (r_x1 : -2147483648 ≤ x1 ∧ x1 ≤ 2147483647) (σ0 : Nat → va_E) (G0 : Good K τ σ0) (hend : ∀ (σ' : Nat → va_E) (lv : List (Nat × Value)) (pc : Nat), Good K τ σ' → Fr τ [(36, 0)] σ0 σ' → decode cX6_giveReason pc = .ok (.return_, 1) → V p l e R s m args below meth c 2 D A Q (0, 0) (fd dom σ') lv pc []) : V p l e R s m args below meth c 2 D A Q (0, 0) (fd dom σ0) [(0, .ref h), (1, .int (iI x1))] 0 [] := by
  have F0 : Fr τ [(36, 0)] σ0 σ0 := Fr.rf
  refine v_aload_n B dX6_giveReason_0 rfl rfl ?_
  obtain ⟨z1, z2, z3, z4, z5, yy6, yy7, z8, z9, z10, z11, z12, z13, z14, z15, z16, z17, z18, z19, yy20, h21, r22, r23, r24, r25, r26, r27, r28, r29, r30, r31, r32, r33, r34, r35, r36, r37, r38, r39, r40, r41⟩ : okLink τ (σ0 h) := G0 h _ t_h
  refine u_get B Z (C := RX6) (T := TX6) (N := 20) (ci := 6) hi_Link_giveReason_X6 t_h h21 rfl 17 (by decide +kernel) (List.mem_of_getElem? (i := 1) rfl) rfl dX6_giveReason_1 ?_
  refine v_iconst B (v := iI (-1)) dX6_giveReason_4 rfl ?_
  refine u_icmp_ne B (tgt := 13) (by omega) (by omega) dX6_giveReason_5 (by decide +kernel) (fun c42 => ?_) (fun c42 => ?_)
  · exact hend σ0 _ _ G0 F0 dX6_giveReason_13
  · refine v_aload_n B dX6_giveReason_8 rfl rfl ?_
    refine v_iload_n B dX6_giveReason_9 rfl rfl ?_
    refine u_put B Z (C := RX6) (T := TX6) (N := 20) (ci := 6) hi_Link_giveReason_X6 t_h h21 rfl 17 (by decide +kernel) tyX6 tyX6_ok nmX6 (List.mem_of_getElem? (i := 1) rfl) rfl (ty := .int) (tyX6_ok 17 (by decide +kernel)) rfl rfl (Nat.le_of_ble_eq_true rfl) (fs' := [.int (iI z1), .int (iI z2), .int (iI z3), .int (iI z4), .int (iI z5), .long (lI yy6), .long (lI yy7), .int (iI z8), .int (iI z9), .int (iI z10), .int (iI z11), .int (iI z12), .int (iI z13), .int (iI z14), .int (iI z15), .int (iI z16), .int (iI z17), .int (iI x1), .int (iI z19), .long (lI yy20)]) rfl dX6_giveReason_10 (fun σ43 h44 n45 => ?_)
    have G46 := G0.put t_h (⟨z1, z2, z3, z4, z5, yy6, yy7, z8, z9, z10, z11, z12, z13, z14, z15, z16, z17, x1, z19, yy20, h44, ⟨by omega, by omega⟩, ⟨by omega, by omega⟩, ⟨by omega, by omega⟩, ⟨by omega, by omega⟩, ⟨by omega, by omega⟩, ⟨by omega, by omega⟩, ⟨by omega, by omega⟩, ⟨by omega, by omega⟩, ⟨by omega, by omega⟩, ⟨by omega, by omega⟩, ⟨by omega, by omega⟩, ⟨by omega, by omega⟩, ⟨by omega, by omega⟩, ⟨by omega, by omega⟩, ⟨by omega, by omega⟩, ⟨by omega, by omega⟩, ⟨by omega, by omega⟩, ⟨by omega, by omega⟩, ⟨by omega, by omega⟩, ⟨by omega, by omega⟩⟩ : Ok K τ (36, 0, 0) (σ43 h)) n45
    have F47 := F0.put t_h (by simp) n45
    exact hend σ43 _ _ G46 F47 dX6_giveReason_13
set_option maxRecDepth 100000 in
theorem c_Link_giveReason (l : Launch) (D : va_G) (K : Nat → ClassId) {τ : Nat → Option Ty} {dom : List Nat} (Z : Sk τ dom) (zb zL : Nat) (zx : Nat → Int32) (zs : Nat → Nat) (h : Nat) (x1 : Int) (t_h : τ h = some (36, 0, 0)) (r_x1 : -2147483648 ≤ x1 ∧ x1 ≤ 2147483647) (σ0 : Nat → va_E) (G0 : Good K τ σ0) : MZ l yX6_giveReason wp_Link_giveReason ({ frames := 0, cells := 0, slots := 0, locals := 0 }) D (tysA K) [.ref h, .int (iI x1)] (fd dom σ0) zb zL zx zs (Qv D (fun σ' => Good K τ σ' ∧ Fr τ [(36, 0)] σ0 σ') (fun σ' => fd dom σ')) 0 0 := by
  refine mz_of (cc := cX6_giveReason) (maxL := 2) (ret := none) (by decide +kernel) rfl (Nat.le_of_ble_eq_true rfl) ?_
  intro p e s m below meth c A B hr hlk _ hz
  exact b_Link_giveReason ⟨Nat.le_refl _, Nat.le_refl _⟩ B Z hz h x1 t_h r_x1 σ0 G0 (fun σ' lv pc G F hd => v_vret B hr hlk σ' ⟨G, F⟩ rfl (Nat.le_refl _) (Nat.le_refl _) hd)

def wp_Link_hearMap : List Cond := .code yX6_hearMap cX6_hearMap 5 none :: (([.methodLink RX6 76 yX6_giveReason, .instanceMethod yX6_giveReason, .selects RX6 yX6_giveReason yX6_giveReason, .initialized RX6, .code yX6_giveReason cX6_giveReason 2 none, .fieldLink RX6 15 "LowEnergy$Link" "reason" "I", .fieldLink RX6 54 "LowEnergy$Link" "event" "I", .constant RX6 75 (65535), .methodLink RX6 21 yX6_isProperMap, .static yX6_isProperMap, .code yX6_isProperMap cX6_isProperMap 2 (some .boolean), .methodLink RX6 25 yJ13_bitCount_95d88, .static yJ13_bitCount_95d88, .initialized RJ13, .code yJ13_bitCount_95d88 cJ13_bitCount_95d88 2 (some .int), .constantLong RJ13 314 (6148914691236517205), .constantLong RJ13 316 (3689348814741910323), .constantLong RJ13 318 (1085102592571150095), .fieldLink RX6 50 "LowEnergy$Link" "mapWaits" "Z", .methodLink RX6 80 yX6_awaitMap, .instanceMethod yX6_awaitMap, .selects RX6 yX6_awaitMap yX6_awaitMap, .code yX6_awaitMap cX6_awaitMap 4 none, .fieldLink RX6 69 "LowEnergy$Link" "nextMap" "J", .fieldLink RX6 72 "LowEnergy$Link" "instant" "I"] : List Cond) ++ (wsX60 ++ ([])))
theorem hi_Link_hearMap_X6 : ∀ x ∈ u_ws RX6 TX6 20, x ∈ wp_Link_hearMap := fun _ h => List.mem_cons_of_mem _ (List.mem_append_right _ (List.mem_append_left _ h))
set_option maxRecDepth 100000 in
theorem gd_Link_hearMap_Link_giveReason_76 : GoodIn wp_Link_hearMap (wsV RX6 76 RX6 yX6_giveReason wp_Link_giveReason) := goodIn_app (goodIn_r _ [1, 2, 3, 4] rfl rfl) (goodIn_ca (goodIn_r _ [5, 6] rfl rfl) (goodIn_app (goodIn_cls hi_Link_hearMap_X6 gw_X6) (goodIn_nil)))
set_option maxRecDepth 100000 in
theorem gd_Link_hearMap_Link_isProperMap_21 : GoodIn wp_Link_hearMap (va_wsS RX6 21 yX6_isProperMap wp_Link_isProperMap) := goodIn_app (goodIn_r _ [9, 10, 4] rfl rfl) (goodIn_ca (goodIn_r _ [11, 12, 13, 14, 15, 16, 17, 18] rfl rfl) (goodIn_nil))
set_option maxRecDepth 100000 in
theorem gd_Link_hearMap_Link_awaitMap_80 : GoodIn wp_Link_hearMap (wsV RX6 80 RX6 yX6_awaitMap wp_Link_awaitMap) := goodIn_app (goodIn_r _ [20, 21, 22, 4] rfl rfl) (goodIn_ca (goodIn_r _ [23, 24, 25, 19] rfl rfl) (goodIn_app (goodIn_cls hi_Link_hearMap_X6 gw_X6) (goodIn_nil)))
set_option maxHeartbeats 4000000 in
set_option maxRecDepth 100000 in
theorem b_Link_hearMap {p : Program} {l : Launch} {e : Env} {R : Room} {s : State} {m : MethodId} {args : Array Value} {below : List Frame} {meth : Method} {c : Code} {D : va_G} {K : Nat → ClassId} {A : Nat → Prop} {Q : State → Prop} {τ : Nat → Option Ty} {dom : List Nat} {zb zL : Nat} {zx : Nat → Int32} {zs : Nat → Nat} (hR : 2 ≤ R.frames ∧ 42 ≤ R.locals) (B : Bx p s m args c cX6_hearMap 5 RX6 wp_Link_hearMap D (tysA K) A) (Z : Sk τ dom) (hz : ZL zb zL zx zs A s s.heap) (h : Nat) (y1 : Int) (x3 : Int) (t_h : τ h = some (36, 0, 0)) (r_y1 : InL y1) (r_x3 : -2147483648 ≤ x3 ∧ x3 ≤ 2147483647) (σ0 : Nat → va_E) (G0 : Good K τ σ0) (hend : ∀ (σ' : Nat → va_E) (lv : List (Nat × Value)) (pc : Nat), Good K τ σ' → Fr τ [(36, 0)] σ0 σ' → decode cX6_hearMap pc = .ok (.return_, 1) → V p l e R s m args below meth c 5 D A Q (0, 0) (fd dom σ') lv pc []) : V p l e R s m args below meth c 5 D A Q (0, 0) (fd dom σ0) [(0, .ref h), (1, .long (lI y1)), (3, .int (iI x3))] 0 [] := by
  have F0 : Fr τ [(36, 0)] σ0 σ0 := Fr.rf
  have J25 : V p l e R s m args below meth c 5 D A Q (0, 0) (fd dom σ0) [(0, .ref h)] 25 [] := by
    refine v_aload_n B dX6_hearMap_25 rfl rfl ?_
    refine v_bipush B (v := iI 40) dX6_hearMap_26 (by decide +kernel) ?_
    refine u_callVv B Z hz (n := 1) (As := [.int (iI 40)]) (rest := []) (c_Link_giveReason l D K Z _ _ _ _ h 40 t_h ⟨by omega, by omega⟩ σ0 G0) gd_Link_hearMap_Link_giveReason_76 rfl rfl rfl (by decide +kernel) ⟨Nat.le_trans (by decide +kernel) hR.1, Nat.le_trans (by decide +kernel) hR.2⟩ t_h (cls_Link G0 t_h) rfl rfl rfl rfl (Nat.le_of_ble_eq_true rfl) dX6_hearMap_28 ⟨Nat.zero_le _, Nat.zero_le _⟩ (fun σ1 p2 => ?_)
    obtain ⟨G4, F5⟩ := p2
    have F6 := F0.call F5 (by first | rfl | simp)
    refine v_goto B (tgt := 55) dX6_hearMap_31 (by decide +kernel) ?_
    exact hend σ1 _ _ G4 F6 dX6_hearMap_55
  refine v_iload_n B dX6_hearMap_0 rfl rfl ?_
  refine v_aload_n B dX6_hearMap_1 rfl rfl ?_
  obtain ⟨z7, z8, z9, z10, z11, yy12, yy13, z14, z15, z16, z17, z18, z19, z20, z21, z22, z23, z24, z25, yy26, h27, r28, r29, r30, r31, r32, r33, r34, r35, r36, r37, r38, r39, r40, r41, r42, r43, r44, r45, r46, r47⟩ : okLink τ (σ0 h) := G0 h _ t_h
  refine u_get B Z (C := RX6) (T := TX6) (N := 20) (ci := 6) hi_Link_hearMap_X6 t_h h27 rfl 10 (by decide +kernel) (List.mem_of_getElem? (i := 7) rfl) rfl dX6_hearMap_2 ?_
  obtain ⟨z48, e49, r50⟩ := iI_any (iI x3 - iI z17)
  refine v_isub B (v := iI z48) dX6_hearMap_5 e49 ?_
  refine v_ldc B (v := iI 65535) (u_ci (List.mem_of_getElem? (i := 8) rfl) (by decide +kernel)) dX6_hearMap_6 ?_
  obtain ⟨z51, e52, r53⟩ := iI_and z48 (c := 65535) (by decide) (by decide)
  refine v_iand B (v := iI z51) dX6_hearMap_8 e52 ?_
  refine v_istore B (lv' := [(4, .int (iI z51)), (0, .ref h), (1, .long (lI y1)), (3, .int (iI x3))]) dX6_hearMap_9 (by decide +kernel) rfl ?_
  refine v_iload B dX6_hearMap_11 rfl ?_
  refine v_iconst B (v := iI 1) dX6_hearMap_13 rfl ?_
  refine u_icmp_lt B (tgt := 25) (by omega) (by omega) dX6_hearMap_14 (by decide +kernel) (fun c54 => ?_) (fun c54 => ?_)
  · refine v_lv [1] rfl ?_
    exact J25
  · refine v_iload B dX6_hearMap_17 rfl ?_
    refine v_sipush B (v := iI 32767) dX6_hearMap_19 (by decide +kernel) ?_
    refine u_icmp_le B (tgt := 34) (by omega) (by omega) dX6_hearMap_22 (by decide +kernel) (fun c55 => ?_) (fun c55 => ?_)
    · refine v_lload_n B dX6_hearMap_34 rfl rfl ?_
      refine u_callSi B Z hz (n := 1) (As := [.long (lI y1)]) (rest := []) (c_Link_isProperMap l D K Z _ _ _ _ y1 ⟨by omega, by omega⟩ σ0 G0) gd_Link_hearMap_Link_isProperMap_21 rfl rfl rfl (by decide +kernel) ⟨Nat.le_trans (by decide +kernel) hR.1, Nat.le_trans (by decide +kernel) hR.2⟩ rfl rfl (Nat.le_of_ble_eq_true rfl) dX6_hearMap_35 ⟨Nat.zero_le _, Nat.zero_le _⟩ (fun v58 σ56 p57 => ?_)
      obtain ⟨rfl, z62, e63, r64⟩ := p57
      subst e63
      refine u_if_eq B (tgt := 50) (by omega) dX6_hearMap_38 (by decide +kernel) (fun c65 => ?_) (fun c65 => ?_)
      · refine v_aload_n B dX6_hearMap_50 rfl rfl ?_
        refine v_iconst B (v := iI 0) dX6_hearMap_51 rfl ?_
        refine u_put B Z (C := RX6) (T := TX6) (N := 20) (ci := 6) hi_Link_hearMap_X6 t_h h27 rfl 7 (by decide +kernel) tyX6 tyX6_ok nmX6 (List.mem_of_getElem? (i := 19) rfl) rfl (ty := .boolean) (tyX6_ok 7 (by decide +kernel)) (nar01 (by omega)) (fit01 (by omega)) (Nat.le_of_ble_eq_true rfl) (fs' := [.int (iI z7), .int (iI z8), .int (iI z9), .int (iI z10), .int (iI z11), .long (lI yy12), .long (lI yy13), .int (iI 0), .int (iI z15), .int (iI z16), .int (iI z17), .int (iI z18), .int (iI z19), .int (iI z20), .int (iI z21), .int (iI z22), .int (iI z23), .int (iI z24), .int (iI z25), .long (lI yy26)]) rfl dX6_hearMap_52 (fun σ66 h67 n68 => ?_)
        have G69 := G0.put t_h (⟨z7, z8, z9, z10, z11, yy12, yy13, 0, z15, z16, z17, z18, z19, z20, z21, z22, z23, z24, z25, yy26, h67, ⟨by omega, by omega⟩, ⟨by omega, by omega⟩, ⟨by omega, by omega⟩, ⟨by omega, by omega⟩, ⟨by omega, by omega⟩, ⟨by omega, by omega⟩, ⟨by omega, by omega⟩, ⟨by omega, by omega⟩, ⟨by omega, by omega⟩, ⟨by omega, by omega⟩, ⟨by omega, by omega⟩, ⟨by omega, by omega⟩, ⟨by omega, by omega⟩, ⟨by omega, by omega⟩, ⟨by omega, by omega⟩, ⟨by omega, by omega⟩, ⟨by omega, by omega⟩, ⟨by omega, by omega⟩, ⟨by omega, by omega⟩, ⟨by omega, by omega⟩⟩ : Ok K τ (36, 0, 0) (σ66 h)) n68
        have F70 := F0.put t_h (by simp) n68
        exact hend σ66 _ _ G69 F70 dX6_hearMap_55
      · refine v_aload_n B dX6_hearMap_41 rfl rfl ?_
        refine v_lload_n B dX6_hearMap_42 rfl rfl ?_
        refine v_iload_n B dX6_hearMap_43 rfl rfl ?_
        refine u_callVv B Z hz (n := 2) (As := [.long (lI y1), .int (iI x3)]) (rest := []) (c_Link_awaitMap l D K Z _ _ _ _ h y1 x3 t_h ⟨by omega, by omega⟩ ⟨by omega, by omega⟩ σ0 G0) gd_Link_hearMap_Link_awaitMap_80 rfl rfl rfl (by decide +kernel) ⟨Nat.le_trans (by decide +kernel) hR.1, Nat.le_trans (by decide +kernel) hR.2⟩ t_h (cls_Link G0 t_h) rfl rfl rfl rfl (Nat.le_of_ble_eq_true rfl) dX6_hearMap_44 ⟨Nat.zero_le _, Nat.zero_le _⟩ (fun σ71 p72 => ?_)
        obtain ⟨G74, F75⟩ := p72
        have F76 := F0.call F75 (by first | rfl | simp)
        refine v_goto B (tgt := 55) dX6_hearMap_47 (by decide +kernel) ?_
        exact hend σ71 _ _ G74 F76 dX6_hearMap_55
    · refine v_lv [1] rfl ?_
      exact J25
set_option maxRecDepth 100000 in
theorem c_Link_hearMap (l : Launch) (D : va_G) (K : Nat → ClassId) {τ : Nat → Option Ty} {dom : List Nat} (Z : Sk τ dom) (zb zL : Nat) (zx : Nat → Int32) (zs : Nat → Nat) (h : Nat) (y1 : Int) (x3 : Int) (t_h : τ h = some (36, 0, 0)) (r_y1 : InL y1) (r_x3 : -2147483648 ≤ x3 ∧ x3 ≤ 2147483647) (σ0 : Nat → va_E) (G0 : Good K τ σ0) : MZ l yX6_hearMap wp_Link_hearMap ({ frames := 2, cells := 0, slots := 0, locals := 42 }) D (tysA K) [.ref h, .long (lI y1), .int (iI x3)] (fd dom σ0) zb zL zx zs (Qv D (fun σ' => Good K τ σ' ∧ Fr τ [(36, 0)] σ0 σ') (fun σ' => fd dom σ')) 0 0 := by
  refine mz_of (cc := cX6_hearMap) (maxL := 5) (ret := none) (by decide +kernel) rfl (Nat.le_of_ble_eq_true rfl) ?_
  intro p e s m below meth c A B hr hlk _ hz
  exact b_Link_hearMap ⟨Nat.le_refl _, Nat.le_refl _⟩ B Z hz h y1 x3 t_h r_y1 r_x3 σ0 G0 (fun σ' lv pc G F hd => v_vret B hr hlk σ' ⟨G, F⟩ rfl (Nat.le_refl _) (Nat.le_refl _) hd)

def wp_Link_hopOn : List Cond := .code yX6_hopOn cX6_hopOn 1 none :: (([.fieldLink RX6 57 "LowEnergy$Link" "u" "I", .fieldLink RX6 37 "LowEnergy$Link" "hop" "I", .fieldLink RX6 40 "LowEnergy$Link" "map" "J", .methodLink RX6 84 yX6_channelFor, .static yX6_channelFor, .initialized RX6, .code yX6_channelFor cX6_channelFor 6 (some .int), .methodLink RX6 25 yJ13_bitCount_95d88, .static yJ13_bitCount_95d88, .initialized RJ13, .code yJ13_bitCount_95d88 cJ13_bitCount_95d88 2 (some .int), .constantLong RJ13 314 (6148914691236517205), .constantLong RJ13 316 (3689348814741910323), .constantLong RJ13 318 (1085102592571150095), .fieldLink RX6 9 "LowEnergy$Link" "channel" "I", .fieldLink RX6 50 "LowEnergy$Link" "mapWaits" "Z", .fieldLink RX6 54 "LowEnergy$Link" "event" "I", .fieldLink RX6 72 "LowEnergy$Link" "instant" "I", .fieldLink RX6 69 "LowEnergy$Link" "nextMap" "J"] : List Cond) ++ (wsX60 ++ ([])))
theorem hi_Link_hopOn_X6 : ∀ x ∈ u_ws RX6 TX6 20, x ∈ wp_Link_hopOn := fun _ h => List.mem_cons_of_mem _ (List.mem_append_right _ (List.mem_append_left _ h))
set_option maxRecDepth 100000 in
theorem gd_Link_hopOn_Link_channelFor_84 : GoodIn wp_Link_hopOn (va_wsS RX6 84 yX6_channelFor wp_Link_channelFor) := goodIn_app (goodIn_r _ [4, 5, 6] rfl rfl) (goodIn_ca (goodIn_r _ [7, 8, 9, 10, 11, 12, 13, 14] rfl rfl) (goodIn_nil))
set_option maxHeartbeats 4000000 in
set_option maxRecDepth 100000 in
theorem b_Link_hopOn {p : Program} {l : Launch} {e : Env} {R : Room} {s : State} {m : MethodId} {args : Array Value} {below : List Frame} {meth : Method} {c : Code} {D : va_G} {K : Nat → ClassId} {A : Nat → Prop} {Q : State → Prop} {τ : Nat → Option Ty} {dom : List Nat} {zb zL : Nat} {zx : Nat → Int32} {zs : Nat → Nat} (hR : 2 ≤ R.frames ∧ 46 ≤ R.locals) (B : Bx p s m args c cX6_hopOn 1 RX6 wp_Link_hopOn D (tysA K) A) (Z : Sk τ dom) (hz : ZL zb zL zx zs A s s.heap) (h : Nat) (t_h : τ h = some (36, 0, 0)) (σ0 : Nat → va_E) (G0 : Good K τ σ0) (hend : ∀ (σ' : Nat → va_E) (lv : List (Nat × Value)) (pc : Nat), Good K τ σ' → Fr τ [(36, 0)] σ0 σ' → decode cX6_hopOn pc = .ok (.return_, 1) → V p l e R s m args below meth c 1 D A Q (0, 0) (fd dom σ') lv pc []) : V p l e R s m args below meth c 1 D A Q (0, 0) (fd dom σ0) [(0, .ref h)] 0 [] := by
  have F0 : Fr τ [(36, 0)] σ0 σ0 := Fr.rf
  have J31 : ∀ (σ_31 : Nat → va_E), Good K τ σ_31 → Fr τ [(36, 0)] σ0 σ_31 → V p l e R s m args below meth c 1 D A Q (0, 0) (fd dom σ_31) [(0, .ref h)] 31 [] := by
    intro σ_31 G_31 F_31
    refine v_aload_n B dX6_hopOn_31 rfl rfl ?_
    refine v_aload_n B dX6_hopOn_32 rfl rfl ?_
    obtain ⟨z1, z2, z3, z4, z5, yy6, yy7, z8, z9, z10, z11, z12, z13, z14, z15, z16, z17, z18, z19, yy20, h21, r22, r23, r24, r25, r26, r27, r28, r29, r30, r31, r32, r33, r34, r35, r36, r37, r38, r39, r40, r41⟩ : okLink τ (σ_31 h) := G_31 h _ t_h
    refine u_get B Z (C := RX6) (T := TX6) (N := 20) (ci := 6) hi_Link_hopOn_X6 t_h h21 rfl 11 (by decide +kernel) (List.mem_of_getElem? (i := 1) rfl) rfl dX6_hopOn_33 ?_
    refine v_aload_n B dX6_hopOn_36 rfl rfl ?_
    refine u_get B Z (C := RX6) (T := TX6) (N := 20) (ci := 6) hi_Link_hopOn_X6 t_h h21 rfl 4 (by decide +kernel) (List.mem_of_getElem? (i := 2) rfl) rfl dX6_hopOn_37 ?_
    obtain ⟨z42, e43, r44⟩ := iI_any (iI z12 + iI z5)
    refine v_iadd B (v := iI z42) dX6_hopOn_40 e43 ?_
    refine v_bipush B (v := iI 37) dX6_hopOn_41 (by decide +kernel) ?_
    obtain ⟨z45, e46, q48, q49⟩ := iI_remt (a := z42) (b := 37) (by omega) (by omega)
    refine v_irem B (v := iI z45) dX6_hopOn_43 (fun q => absurd ((iI_eq (a := 37) (b := 0) (by omega) (by omega)).mp q) (by omega)) e46 ?_
    refine u_put B Z (C := RX6) (T := TX6) (N := 20) (ci := 6) hi_Link_hopOn_X6 t_h h21 rfl 11 (by decide +kernel) tyX6 tyX6_ok nmX6 (List.mem_of_getElem? (i := 1) rfl) rfl (ty := .int) (tyX6_ok 11 (by decide +kernel)) rfl rfl (Nat.le_of_ble_eq_true rfl) (fs' := [.int (iI z1), .int (iI z2), .int (iI z3), .int (iI z4), .int (iI z5), .long (lI yy6), .long (lI yy7), .int (iI z8), .int (iI z9), .int (iI z10), .int (iI z11), .int (iI z45), .int (iI z13), .int (iI z14), .int (iI z15), .int (iI z16), .int (iI z17), .int (iI z18), .int (iI z19), .long (lI yy20)]) rfl dX6_hopOn_44 (fun σ50 h51 n52 => ?_)
    have G53 := G_31.put t_h (⟨z1, z2, z3, z4, z5, yy6, yy7, z8, z9, z10, z11, z45, z13, z14, z15, z16, z17, z18, z19, yy20, h51, ⟨by omega, by omega⟩, ⟨by omega, by omega⟩, ⟨by omega, by omega⟩, ⟨by omega, by omega⟩, ⟨by omega, by omega⟩, ⟨by omega, by omega⟩, ⟨by omega, by omega⟩, ⟨by omega, by omega⟩, ⟨by omega, by omega⟩, ⟨by omega, by omega⟩, ⟨by omega, by omega⟩, ⟨by omega, by omega⟩, ⟨by omega, by omega⟩, ⟨by omega, by omega⟩, ⟨by omega, by omega⟩, ⟨by omega, by omega⟩, ⟨by omega, by omega⟩, ⟨by omega, by omega⟩, ⟨by omega, by omega⟩, ⟨by omega, by omega⟩⟩ : Ok K τ (36, 0, 0) (σ50 h)) n52
    have F54 := F_31.put t_h (by simp) n52
    refine v_aload_n B dX6_hopOn_47 rfl rfl ?_
    refine v_aload_n B dX6_hopOn_48 rfl rfl ?_
    refine u_get B Z (C := RX6) (T := TX6) (N := 20) (ci := 6) hi_Link_hopOn_X6 t_h h51 rfl 11 (by decide +kernel) (List.mem_of_getElem? (i := 1) rfl) rfl dX6_hopOn_49 ?_
    refine v_aload_n B dX6_hopOn_52 rfl rfl ?_
    refine u_get B Z (C := RX6) (T := TX6) (N := 20) (ci := 6) hi_Link_hopOn_X6 t_h h51 rfl 5 (by decide +kernel) (List.mem_of_getElem? (i := 3) rfl) rfl dX6_hopOn_53 ?_
    refine u_callSi B Z hz (n := 2) (As := [.int (iI z45), .long (lI yy6)]) (rest := [.ref h]) (c_Link_channelFor l D K Z _ _ _ _ z45 yy6 ⟨by omega, by omega⟩ ⟨by omega, by omega⟩ σ50 G53) gd_Link_hopOn_Link_channelFor_84 rfl rfl rfl (by decide +kernel) ⟨Nat.le_trans (by decide +kernel) hR.1, Nat.le_trans (by decide +kernel) hR.2⟩ rfl rfl (Nat.le_of_ble_eq_true rfl) dX6_hopOn_56 ⟨Nat.zero_le _, Nat.zero_le _⟩ (fun v57 σ55 p56 => ?_)
    obtain ⟨rfl, z61, e62, r63⟩ := p56
    subst e62
    refine u_put B Z (C := RX6) (T := TX6) (N := 20) (ci := 6) hi_Link_hopOn_X6 t_h h51 rfl 12 (by decide +kernel) tyX6 tyX6_ok nmX6 (List.mem_of_getElem? (i := 15) rfl) rfl (ty := .int) (tyX6_ok 12 (by decide +kernel)) rfl rfl (Nat.le_of_ble_eq_true rfl) (fs' := [.int (iI z1), .int (iI z2), .int (iI z3), .int (iI z4), .int (iI z5), .long (lI yy6), .long (lI yy7), .int (iI z8), .int (iI z9), .int (iI z10), .int (iI z11), .int (iI z45), .int (iI z61), .int (iI z14), .int (iI z15), .int (iI z16), .int (iI z17), .int (iI z18), .int (iI z19), .long (lI yy20)]) rfl dX6_hopOn_59 (fun σ64 h65 n66 => ?_)
    have G67 := G53.put t_h (⟨z1, z2, z3, z4, z5, yy6, yy7, z8, z9, z10, z11, z45, z61, z14, z15, z16, z17, z18, z19, yy20, h65, ⟨by omega, by omega⟩, ⟨by omega, by omega⟩, ⟨by omega, by omega⟩, ⟨by omega, by omega⟩, ⟨by omega, by omega⟩, ⟨by omega, by omega⟩, ⟨by omega, by omega⟩, ⟨by omega, by omega⟩, ⟨by omega, by omega⟩, ⟨by omega, by omega⟩, ⟨by omega, by omega⟩, ⟨by omega, by omega⟩, ⟨by omega, by omega⟩, ⟨by omega, by omega⟩, ⟨by omega, by omega⟩, ⟨by omega, by omega⟩, ⟨by omega, by omega⟩, ⟨by omega, by omega⟩, ⟨by omega, by omega⟩, ⟨by omega, by omega⟩⟩ : Ok K τ (36, 0, 0) (σ64 h)) n66
    have F68 := F54.put t_h (by simp) n66
    exact hend σ64 _ _ G67 F68 dX6_hopOn_62
  refine v_aload_n B dX6_hopOn_0 rfl rfl ?_
  obtain ⟨z69, z70, z71, z72, z73, yy74, yy75, z76, z77, z78, z79, z80, z81, z82, z83, z84, z85, z86, z87, yy88, h89, r90, r91, r92, r93, r94, r95, r96, r97, r98, r99, r100, r101, r102, r103, r104, r105, r106, r107, r108, r109⟩ : okLink τ (σ0 h) := G0 h _ t_h
  refine u_get B Z (C := RX6) (T := TX6) (N := 20) (ci := 6) hi_Link_hopOn_X6 t_h h89 rfl 7 (by decide +kernel) (List.mem_of_getElem? (i := 16) rfl) rfl dX6_hopOn_1 ?_
  refine u_if_eq B (tgt := 31) (by omega) dX6_hopOn_4 (by decide +kernel) (fun c110 => ?_) (fun c110 => ?_)
  · exact J31 σ0 G0 F0
  · refine v_aload_n B dX6_hopOn_7 rfl rfl ?_
    refine u_get B Z (C := RX6) (T := TX6) (N := 20) (ci := 6) hi_Link_hopOn_X6 t_h h89 rfl 10 (by decide +kernel) (List.mem_of_getElem? (i := 17) rfl) rfl dX6_hopOn_8 ?_
    refine v_aload_n B dX6_hopOn_11 rfl rfl ?_
    refine u_get B Z (C := RX6) (T := TX6) (N := 20) (ci := 6) hi_Link_hopOn_X6 t_h h89 rfl 8 (by decide +kernel) (List.mem_of_getElem? (i := 18) rfl) rfl dX6_hopOn_12 ?_
    refine u_icmp_ne B (tgt := 31) (by omega) (by omega) dX6_hopOn_15 (by decide +kernel) (fun c111 => ?_) (fun c111 => ?_)
    · exact J31 σ0 G0 F0
    · refine v_aload_n B dX6_hopOn_18 rfl rfl ?_
      refine v_aload_n B dX6_hopOn_19 rfl rfl ?_
      refine u_get B Z (C := RX6) (T := TX6) (N := 20) (ci := 6) hi_Link_hopOn_X6 t_h h89 rfl 6 (by decide +kernel) (List.mem_of_getElem? (i := 19) rfl) rfl dX6_hopOn_20 ?_
      refine u_put B Z (C := RX6) (T := TX6) (N := 20) (ci := 6) hi_Link_hopOn_X6 t_h h89 rfl 5 (by decide +kernel) tyX6 tyX6_ok nmX6 (List.mem_of_getElem? (i := 3) rfl) rfl (ty := .long) (tyX6_ok 5 (by decide +kernel)) rfl rfl (Nat.le_of_ble_eq_true rfl) (fs' := [.int (iI z69), .int (iI z70), .int (iI z71), .int (iI z72), .int (iI z73), .long (lI yy75), .long (lI yy75), .int (iI z76), .int (iI z77), .int (iI z78), .int (iI z79), .int (iI z80), .int (iI z81), .int (iI z82), .int (iI z83), .int (iI z84), .int (iI z85), .int (iI z86), .int (iI z87), .long (lI yy88)]) rfl dX6_hopOn_23 (fun σ112 h113 n114 => ?_)
      have G115 := G0.put t_h (⟨z69, z70, z71, z72, z73, yy75, yy75, z76, z77, z78, z79, z80, z81, z82, z83, z84, z85, z86, z87, yy88, h113, ⟨by omega, by omega⟩, ⟨by omega, by omega⟩, ⟨by omega, by omega⟩, ⟨by omega, by omega⟩, ⟨by omega, by omega⟩, ⟨by omega, by omega⟩, ⟨by omega, by omega⟩, ⟨by omega, by omega⟩, ⟨by omega, by omega⟩, ⟨by omega, by omega⟩, ⟨by omega, by omega⟩, ⟨by omega, by omega⟩, ⟨by omega, by omega⟩, ⟨by omega, by omega⟩, ⟨by omega, by omega⟩, ⟨by omega, by omega⟩, ⟨by omega, by omega⟩, ⟨by omega, by omega⟩, ⟨by omega, by omega⟩, ⟨by omega, by omega⟩⟩ : Ok K τ (36, 0, 0) (σ112 h)) n114
      have F116 := F0.put t_h (by simp) n114
      refine v_aload_n B dX6_hopOn_26 rfl rfl ?_
      refine v_iconst B (v := iI 0) dX6_hopOn_27 rfl ?_
      refine u_put B Z (C := RX6) (T := TX6) (N := 20) (ci := 6) hi_Link_hopOn_X6 t_h h113 rfl 7 (by decide +kernel) tyX6 tyX6_ok nmX6 (List.mem_of_getElem? (i := 16) rfl) rfl (ty := .boolean) (tyX6_ok 7 (by decide +kernel)) (nar01 (by omega)) (fit01 (by omega)) (Nat.le_of_ble_eq_true rfl) (fs' := [.int (iI z69), .int (iI z70), .int (iI z71), .int (iI z72), .int (iI z73), .long (lI yy75), .long (lI yy75), .int (iI 0), .int (iI z77), .int (iI z78), .int (iI z79), .int (iI z80), .int (iI z81), .int (iI z82), .int (iI z83), .int (iI z84), .int (iI z85), .int (iI z86), .int (iI z87), .long (lI yy88)]) rfl dX6_hopOn_28 (fun σ117 h118 n119 => ?_)
      have G120 := G115.put t_h (⟨z69, z70, z71, z72, z73, yy75, yy75, 0, z77, z78, z79, z80, z81, z82, z83, z84, z85, z86, z87, yy88, h118, ⟨by omega, by omega⟩, ⟨by omega, by omega⟩, ⟨by omega, by omega⟩, ⟨by omega, by omega⟩, ⟨by omega, by omega⟩, ⟨by omega, by omega⟩, ⟨by omega, by omega⟩, ⟨by omega, by omega⟩, ⟨by omega, by omega⟩, ⟨by omega, by omega⟩, ⟨by omega, by omega⟩, ⟨by omega, by omega⟩, ⟨by omega, by omega⟩, ⟨by omega, by omega⟩, ⟨by omega, by omega⟩, ⟨by omega, by omega⟩, ⟨by omega, by omega⟩, ⟨by omega, by omega⟩, ⟨by omega, by omega⟩, ⟨by omega, by omega⟩⟩ : Ok K τ (36, 0, 0) (σ117 h)) n119
      have F121 := F116.put t_h (by simp) n119
      exact J31 σ117 G120 F121
set_option maxRecDepth 100000 in
theorem c_Link_hopOn (l : Launch) (D : va_G) (K : Nat → ClassId) {τ : Nat → Option Ty} {dom : List Nat} (Z : Sk τ dom) (zb zL : Nat) (zx : Nat → Int32) (zs : Nat → Nat) (h : Nat) (t_h : τ h = some (36, 0, 0)) (σ0 : Nat → va_E) (G0 : Good K τ σ0) : MZ l yX6_hopOn wp_Link_hopOn ({ frames := 2, cells := 0, slots := 0, locals := 46 }) D (tysA K) [.ref h] (fd dom σ0) zb zL zx zs (Qv D (fun σ' => Good K τ σ' ∧ Fr τ [(36, 0)] σ0 σ') (fun σ' => fd dom σ')) 0 0 := by
  refine mz_of (cc := cX6_hopOn) (maxL := 1) (ret := none) (by decide +kernel) rfl (Nat.le_of_ble_eq_true rfl) ?_
  intro p e s m below meth c A B hr hlk _ hz
  exact b_Link_hopOn ⟨Nat.le_refl _, Nat.le_refl _⟩ B Z hz h t_h σ0 G0 (fun σ' lv pc G F hd => v_vret B hr hlk σ' ⟨G, F⟩ rfl (Nat.le_refl _) (Nat.le_refl _) hd)

def wp_Link_pass : List Cond := .code yX6_pass cX6_pass 1 none :: (([.fieldLink RX6 54 "LowEnergy$Link" "event" "I", .constant RX6 75 (65535), .fieldLink RX6 44 "LowEnergy$Link" "anchor" "I", .fieldLink RX6 31 "LowEnergy$Link" "interval" "I"] : List Cond) ++ (wsX60 ++ ([])))
theorem hi_Link_pass_X6 : ∀ x ∈ u_ws RX6 TX6 20, x ∈ wp_Link_pass := fun _ h => List.mem_cons_of_mem _ (List.mem_append_right _ (List.mem_append_left _ h))
set_option maxHeartbeats 4000000 in
set_option maxRecDepth 100000 in
theorem b_Link_pass {p : Program} {l : Launch} {e : Env} {R : Room} {s : State} {m : MethodId} {args : Array Value} {below : List Frame} {meth : Method} {c : Code} {D : va_G} {K : Nat → ClassId} {A : Nat → Prop} {Q : State → Prop} {τ : Nat → Option Ty} {dom : List Nat} {zb zL : Nat} {zx : Nat → Int32} {zs : Nat → Nat} (hR : 0 ≤ R.frames ∧ 0 ≤ R.locals) (B : Bx p s m args c cX6_pass 1 RX6 wp_Link_pass D (tysA K) A) (Z : Sk τ dom) (hz : ZL zb zL zx zs A s s.heap) (h : Nat) (t_h : τ h = some (36, 0, 0)) (σ0 : Nat → va_E) (G0 : Good K τ σ0) (hend : ∀ (σ' : Nat → va_E) (lv : List (Nat × Value)) (pc : Nat), Good K τ σ' → Fr τ [(36, 0)] σ0 σ' → decode cX6_pass pc = .ok (.return_, 1) → V p l e R s m args below meth c 1 D A Q (0, 0) (fd dom σ') lv pc []) : V p l e R s m args below meth c 1 D A Q (0, 0) (fd dom σ0) [(0, .ref h)] 0 [] := by
  have F0 : Fr τ [(36, 0)] σ0 σ0 := Fr.rf
  refine v_aload_n B dX6_pass_0 rfl rfl ?_
  refine v_aload_n B dX6_pass_1 rfl rfl ?_
  obtain ⟨z1, z2, z3, z4, z5, yy6, yy7, z8, z9, z10, z11, z12, z13, z14, z15, z16, z17, z18, z19, yy20, h21, r22, r23, r24, r25, r26, r27, r28, r29, r30, r31, r32, r33, r34, r35, r36, r37, r38, r39, r40, r41⟩ : okLink τ (σ0 h) := G0 h _ t_h
  refine u_get B Z (C := RX6) (T := TX6) (N := 20) (ci := 6) hi_Link_pass_X6 t_h h21 rfl 10 (by decide +kernel) (List.mem_of_getElem? (i := 1) rfl) rfl dX6_pass_2 ?_
  refine v_iconst B (v := iI 1) dX6_pass_5 rfl ?_
  obtain ⟨z42, e43, r44⟩ := iI_any (iI z11 + iI 1)
  refine v_iadd B (v := iI z42) dX6_pass_6 e43 ?_
  refine v_ldc B (v := iI 65535) (u_ci (List.mem_of_getElem? (i := 2) rfl) (by decide +kernel)) dX6_pass_7 ?_
  obtain ⟨z45, e46, r47⟩ := iI_and z42 (c := 65535) (by decide) (by decide)
  refine v_iand B (v := iI z45) dX6_pass_9 e46 ?_
  refine u_put B Z (C := RX6) (T := TX6) (N := 20) (ci := 6) hi_Link_pass_X6 t_h h21 rfl 10 (by decide +kernel) tyX6 tyX6_ok nmX6 (List.mem_of_getElem? (i := 1) rfl) rfl (ty := .int) (tyX6_ok 10 (by decide +kernel)) rfl rfl (Nat.le_of_ble_eq_true rfl) (fs' := [.int (iI z1), .int (iI z2), .int (iI z3), .int (iI z4), .int (iI z5), .long (lI yy6), .long (lI yy7), .int (iI z8), .int (iI z9), .int (iI z10), .int (iI z45), .int (iI z12), .int (iI z13), .int (iI z14), .int (iI z15), .int (iI z16), .int (iI z17), .int (iI z18), .int (iI z19), .long (lI yy20)]) rfl dX6_pass_10 (fun σ48 h49 n50 => ?_)
  have G51 := G0.put t_h (⟨z1, z2, z3, z4, z5, yy6, yy7, z8, z9, z10, z45, z12, z13, z14, z15, z16, z17, z18, z19, yy20, h49, ⟨by omega, by omega⟩, ⟨by omega, by omega⟩, ⟨by omega, by omega⟩, ⟨by omega, by omega⟩, ⟨by omega, by omega⟩, ⟨by omega, by omega⟩, ⟨by omega, by omega⟩, ⟨by omega, by omega⟩, ⟨by omega, by omega⟩, ⟨by omega, by omega⟩, ⟨by omega, by omega⟩, ⟨by omega, by omega⟩, ⟨by omega, by omega⟩, ⟨by omega, by omega⟩, ⟨by omega, by omega⟩, ⟨by omega, by omega⟩, ⟨by omega, by omega⟩, ⟨by omega, by omega⟩, ⟨by omega, by omega⟩, ⟨by omega, by omega⟩⟩ : Ok K τ (36, 0, 0) (σ48 h)) n50
  have F52 := F0.put t_h (by simp) n50
  refine v_aload_n B dX6_pass_13 rfl rfl ?_
  refine v_dup B dX6_pass_14 rfl ?_
  refine u_get B Z (C := RX6) (T := TX6) (N := 20) (ci := 6) hi_Link_pass_X6 t_h h49 rfl 9 (by decide +kernel) (List.mem_of_getElem? (i := 3) rfl) rfl dX6_pass_15 ?_
  refine v_aload_n B dX6_pass_18 rfl rfl ?_
  refine u_get B Z (C := RX6) (T := TX6) (N := 20) (ci := 6) hi_Link_pass_X6 t_h h49 rfl 2 (by decide +kernel) (List.mem_of_getElem? (i := 4) rfl) rfl dX6_pass_19 ?_
  obtain ⟨z53, e54, r55⟩ := iI_any (iI z10 + iI z3)
  refine v_iadd B (v := iI z53) dX6_pass_22 e54 ?_
  refine u_put B Z (C := RX6) (T := TX6) (N := 20) (ci := 6) hi_Link_pass_X6 t_h h49 rfl 9 (by decide +kernel) tyX6 tyX6_ok nmX6 (List.mem_of_getElem? (i := 3) rfl) rfl (ty := .int) (tyX6_ok 9 (by decide +kernel)) rfl rfl (Nat.le_of_ble_eq_true rfl) (fs' := [.int (iI z1), .int (iI z2), .int (iI z3), .int (iI z4), .int (iI z5), .long (lI yy6), .long (lI yy7), .int (iI z8), .int (iI z9), .int (iI z53), .int (iI z45), .int (iI z12), .int (iI z13), .int (iI z14), .int (iI z15), .int (iI z16), .int (iI z17), .int (iI z18), .int (iI z19), .long (lI yy20)]) rfl dX6_pass_23 (fun σ56 h57 n58 => ?_)
  have G59 := G51.put t_h (⟨z1, z2, z3, z4, z5, yy6, yy7, z8, z9, z53, z45, z12, z13, z14, z15, z16, z17, z18, z19, yy20, h57, ⟨by omega, by omega⟩, ⟨by omega, by omega⟩, ⟨by omega, by omega⟩, ⟨by omega, by omega⟩, ⟨by omega, by omega⟩, ⟨by omega, by omega⟩, ⟨by omega, by omega⟩, ⟨by omega, by omega⟩, ⟨by omega, by omega⟩, ⟨by omega, by omega⟩, ⟨by omega, by omega⟩, ⟨by omega, by omega⟩, ⟨by omega, by omega⟩, ⟨by omega, by omega⟩, ⟨by omega, by omega⟩, ⟨by omega, by omega⟩, ⟨by omega, by omega⟩, ⟨by omega, by omega⟩, ⟨by omega, by omega⟩, ⟨by omega, by omega⟩⟩ : Ok K τ (36, 0, 0) (σ56 h)) n58
  have F60 := F52.put t_h (by simp) n58
  exact hend σ56 _ _ G59 F60 dX6_pass_26
set_option maxRecDepth 100000 in
theorem c_Link_pass (l : Launch) (D : va_G) (K : Nat → ClassId) {τ : Nat → Option Ty} {dom : List Nat} (Z : Sk τ dom) (zb zL : Nat) (zx : Nat → Int32) (zs : Nat → Nat) (h : Nat) (t_h : τ h = some (36, 0, 0)) (σ0 : Nat → va_E) (G0 : Good K τ σ0) : MZ l yX6_pass wp_Link_pass ({ frames := 0, cells := 0, slots := 0, locals := 0 }) D (tysA K) [.ref h] (fd dom σ0) zb zL zx zs (Qv D (fun σ' => Good K τ σ' ∧ Fr τ [(36, 0)] σ0 σ') (fun σ' => fd dom σ')) 0 0 := by
  refine mz_of (cc := cX6_pass) (maxL := 1) (ret := none) (by decide +kernel) rfl (Nat.le_of_ble_eq_true rfl) ?_
  intro p e s m below meth c A B hr hlk _ hz
  exact b_Link_pass ⟨Nat.le_refl _, Nat.le_refl _⟩ B Z hz h t_h σ0 G0 (fun σ' lv pc G F hd => v_vret B hr hlk σ' ⟨G, F⟩ rfl (Nat.le_refl _) (Nat.le_refl _) hd)

def wp_Link_reasonToEnd : List Cond := .code yX6_reasonToEnd cX6_reasonToEnd 3 (some .int) :: (([.fieldLink RX6 15 "LowEnergy$Link" "reason" "I", .fieldLink RX6 47 "LowEnergy$Link" "heardAt" "I", .fieldLink RX6 60 "LowEnergy$Link" "heardGood" "Z", .fieldLink RX6 31 "LowEnergy$Link" "interval" "I", .fieldLink RX6 34 "LowEnergy$Link" "timeout" "I"] : List Cond) ++ (wsX60 ++ ([])))
theorem hi_Link_reasonToEnd_X6 : ∀ x ∈ u_ws RX6 TX6 20, x ∈ wp_Link_reasonToEnd := fun _ h => List.mem_cons_of_mem _ (List.mem_append_right _ (List.mem_append_left _ h))
set_option maxHeartbeats 4000000 in
set_option maxRecDepth 100000 in
theorem b_Link_reasonToEnd {p : Program} {l : Launch} {e : Env} {R : Room} {s : State} {m : MethodId} {args : Array Value} {below : List Frame} {meth : Method} {c : Code} {D : va_G} {K : Nat → ClassId} {A : Nat → Prop} {Q : State → Prop} {τ : Nat → Option Ty} {dom : List Nat} {zb zL : Nat} {zx : Nat → Int32} {zs : Nat → Nat} (hR : 0 ≤ R.frames ∧ 0 ≤ R.locals) (B : Bx p s m args c cX6_reasonToEnd 3 RX6 wp_Link_reasonToEnd D (tysA K) A) (Z : Sk τ dom) (hz : ZL zb zL zx zs A s s.heap) (h : Nat) (x1 : Int) (t_h : τ h = some (36, 0, 0)) (r_x1 : -2147483648 ≤ x1 ∧ x1 ≤ 2147483647) (σ0 : Nat → va_E) (G0 : Good K τ σ0) (hend : ∀ (z : Int) (lv : List (Nat × Value)) (pc : Nat), (-2147483648 ≤ z ∧ z ≤ 2147483647) → decode cX6_reasonToEnd pc = .ok (.ireturn, 1) → V p l e R s m args below meth c 3 D A Q (0, 0) (fd dom σ0) lv pc [.int (iI z)]) : V p l e R s m args below meth c 3 D A Q (0, 0) (fd dom σ0) [(0, .ref h), (1, .int (iI x1))] 0 [] := by
  have F0 : Fr τ [] σ0 σ0 := Fr.rf
  refine v_aload_n B dX6_reasonToEnd_0 rfl rfl ?_
  obtain ⟨z1, z2, z3, z4, z5, yy6, yy7, z8, z9, z10, z11, z12, z13, z14, z15, z16, z17, z18, z19, yy20, h21, r22, r23, r24, r25, r26, r27, r28, r29, r30, r31, r32, r33, r34, r35, r36, r37, r38, r39, r40, r41⟩ : okLink τ (σ0 h) := G0 h _ t_h
  refine u_get B Z (C := RX6) (T := TX6) (N := 20) (ci := 6) hi_Link_reasonToEnd_X6 t_h h21 rfl 17 (by decide +kernel) (List.mem_of_getElem? (i := 1) rfl) rfl dX6_reasonToEnd_1 ?_
  refine v_iconst B (v := iI (-1)) dX6_reasonToEnd_4 rfl ?_
  refine u_icmp_eq B (tgt := 13) (by omega) (by omega) dX6_reasonToEnd_5 (by decide +kernel) (fun c42 => ?_) (fun c42 => ?_)
  · refine v_iload_n B dX6_reasonToEnd_13 rfl rfl ?_
    refine v_aload_n B dX6_reasonToEnd_14 rfl rfl ?_
    refine u_get B Z (C := RX6) (T := TX6) (N := 20) (ci := 6) hi_Link_reasonToEnd_X6 t_h h21 rfl 13 (by decide +kernel) (List.mem_of_getElem? (i := 2) rfl) rfl dX6_reasonToEnd_15 ?_
    obtain ⟨z43, e44, r45⟩ := iI_any (iI x1 - iI z14)
    refine v_isub B (v := iI z43) dX6_reasonToEnd_18 e44 ?_
    refine v_istore_n B (lv' := [(2, .int (iI z43)), (0, .ref h), (1, .int (iI x1))]) dX6_reasonToEnd_19 rfl (by decide +kernel) rfl ?_
    refine v_aload_n B dX6_reasonToEnd_20 rfl rfl ?_
    refine u_get B Z (C := RX6) (T := TX6) (N := 20) (ci := 6) hi_Link_reasonToEnd_X6 t_h h21 rfl 14 (by decide +kernel) (List.mem_of_getElem? (i := 3) rfl) rfl dX6_reasonToEnd_21 ?_
    refine u_if_eq B (tgt := 42) (by omega) dX6_reasonToEnd_24 (by decide +kernel) (fun c46 => ?_) (fun c46 => ?_)
    · refine v_iload_n B dX6_reasonToEnd_42 rfl rfl ?_
      refine v_bipush B (v := iI 6) dX6_reasonToEnd_43 (by decide +kernel) ?_
      refine v_aload_n B dX6_reasonToEnd_45 rfl rfl ?_
      refine u_get B Z (C := RX6) (T := TX6) (N := 20) (ci := 6) hi_Link_reasonToEnd_X6 t_h h21 rfl 2 (by decide +kernel) (List.mem_of_getElem? (i := 4) rfl) rfl dX6_reasonToEnd_46 ?_
      obtain ⟨z47, e48, r49⟩ := iI_any (iI 6 * iI z3)
      refine v_imul B (v := iI z47) dX6_reasonToEnd_49 e48 ?_
      refine u_icmp_lt B (tgt := 58) (by omega) (by omega) dX6_reasonToEnd_50 (by decide +kernel) (fun c50 => ?_) (fun c50 => ?_)
      · refine v_iconst B (v := iI (-1)) dX6_reasonToEnd_58 rfl ?_
        exact hend (-1) _ _ ⟨by omega, by omega⟩ dX6_reasonToEnd_59
      · refine v_bipush B (v := iI 62) dX6_reasonToEnd_53 (by decide +kernel) ?_
        refine v_goto B (tgt := 59) dX6_reasonToEnd_55 (by decide +kernel) ?_
        exact hend 62 _ _ ⟨by omega, by omega⟩ dX6_reasonToEnd_59
    · refine v_iload_n B dX6_reasonToEnd_27 rfl rfl ?_
      refine v_aload_n B dX6_reasonToEnd_28 rfl rfl ?_
      refine u_get B Z (C := RX6) (T := TX6) (N := 20) (ci := 6) hi_Link_reasonToEnd_X6 t_h h21 rfl 3 (by decide +kernel) (List.mem_of_getElem? (i := 5) rfl) rfl dX6_reasonToEnd_29 ?_
      refine u_icmp_lt B (tgt := 40) (by omega) (by omega) dX6_reasonToEnd_32 (by decide +kernel) (fun c51 => ?_) (fun c51 => ?_)
      · refine v_iconst B (v := iI (-1)) dX6_reasonToEnd_40 rfl ?_
        exact hend (-1) _ _ ⟨by omega, by omega⟩ dX6_reasonToEnd_41
      · refine v_bipush B (v := iI 8) dX6_reasonToEnd_35 (by decide +kernel) ?_
        refine v_goto B (tgt := 41) dX6_reasonToEnd_37 (by decide +kernel) ?_
        exact hend 8 _ _ ⟨by omega, by omega⟩ dX6_reasonToEnd_41
  · refine v_aload_n B dX6_reasonToEnd_8 rfl rfl ?_
    refine u_get B Z (C := RX6) (T := TX6) (N := 20) (ci := 6) hi_Link_reasonToEnd_X6 t_h h21 rfl 17 (by decide +kernel) (List.mem_of_getElem? (i := 1) rfl) rfl dX6_reasonToEnd_9 ?_
    exact hend z18 _ _ ⟨by omega, by omega⟩ dX6_reasonToEnd_12
set_option maxRecDepth 100000 in
theorem c_Link_reasonToEnd (l : Launch) (D : va_G) (K : Nat → ClassId) {τ : Nat → Option Ty} {dom : List Nat} (Z : Sk τ dom) (zb zL : Nat) (zx : Nat → Int32) (zs : Nat → Nat) (h : Nat) (x1 : Int) (t_h : τ h = some (36, 0, 0)) (r_x1 : -2147483648 ≤ x1 ∧ x1 ≤ 2147483647) (σ0 : Nat → va_E) (G0 : Good K τ σ0) : MZ l yX6_reasonToEnd wp_Link_reasonToEnd ({ frames := 0, cells := 0, slots := 0, locals := 0 }) D (tysA K) [.ref h, .int (iI x1)] (fd dom σ0) zb zL zx zs (Qi D (fun r σ' => σ0 = σ' ∧ ∃ z : Int, r = iI z ∧ (-2147483648 ≤ z ∧ z ≤ 2147483647)) (fun σ' => fd dom σ')) 0 0 := by
  refine mz_of (cc := cX6_reasonToEnd) (maxL := 3) (ret := (some .int)) (by decide +kernel) rfl (Nat.le_of_ble_eq_true rfl) ?_
  intro p e s m below meth c A B hr hlk _ hz
  exact b_Link_reasonToEnd ⟨Nat.le_refl _, Nat.le_refl _⟩ B Z hz h x1 t_h r_x1 σ0 G0 (fun z lv pc hZ hd => v_iret B hr hlk σ0 ⟨rfl, z, rfl, hZ⟩ rfl (Nat.le_refl _) (Nat.le_refl _) hd)

def wp_Diary_note : List Cond := .code yX4_note cX4_note 6 none :: (([.fieldLink RX4 29 "LowEnergy$Diary" "count" "I", .fieldLink RX4 36 "LowEnergy$Diary" "head" "I", .fieldLink RX4 11 "LowEnergy$Diary" "kinds" "[I", .fieldLink RX4 17 "LowEnergy$Diary" "numbers" "[[I", .fieldLink RX4 22 "LowEnergy$Diary" "rows" "[LLowEnergy$Row;", .methodLink RX4 39 yX9_clear, .instanceMethod yX9_clear, .selects RX9 yX9_clear yX9_clear, .initialized RX9, .code yX9_clear cX9_clear 1 none, .fieldLink RX9 21 "LowEnergy$Row" "size" "I", .fieldLink RX4 33 "LowEnergy$Diary" "lost" "I"] : List Cond) ++ (wsX40 ++ (wsX90 ++ ([]))))
theorem hi_Diary_note_X4 : ∀ x ∈ u_ws RX4 TX4 6, x ∈ wp_Diary_note := fun _ h => List.mem_cons_of_mem _ (List.mem_append_right _ (List.mem_append_left _ h))
theorem hi_Diary_note_X9 : ∀ x ∈ u_ws RX9 TX9 2, x ∈ wp_Diary_note := fun _ h => List.mem_cons_of_mem _ (List.mem_append_right _ (List.mem_append_right _ (List.mem_append_left _ h)))
set_option maxRecDepth 100000 in
theorem gd_Diary_note_Row_clear_39 : GoodIn wp_Diary_note (wsV RX4 39 RX9 yX9_clear wp_Row_clear) := goodIn_app (goodIn_r _ [6, 7, 8, 9] rfl rfl) (goodIn_ca (goodIn_r _ [10, 11] rfl rfl) (goodIn_app (goodIn_cls hi_Diary_note_X9 gw_X9) (goodIn_nil)))
set_option maxHeartbeats 4000000 in
set_option maxRecDepth 100000 in
theorem b_Diary_note {p : Program} {l : Launch} {e : Env} {R : Room} {s : State} {m : MethodId} {args : Array Value} {below : List Frame} {meth : Method} {c : Code} {D : va_G} {K : Nat → ClassId} {A : Nat → Prop} {Q : State → Prop} {τ : Nat → Option Ty} {dom : List Nat} {zb zL : Nat} {zx : Nat → Int32} {zs : Nat → Nat} (hR : 1 ≤ R.frames ∧ 20 ≤ R.locals) (B : Bx p s m args c cX4_note 6 RX4 wp_Diary_note D (tysA K) A) (Z : Sk τ dom) (hz : ZL zb zL zx zs A s s.heap) (h : Nat) (x1 : Int) (x2 : Int) (x3 : Int) (x4 : Int) (t_h : τ h = some (34, 0, 0)) (r_x1 : -2147483648 ≤ x1 ∧ x1 ≤ 2147483647) (r_x2 : -2147483648 ≤ x2 ∧ x2 ≤ 2147483647) (r_x3 : -2147483648 ≤ x3 ∧ x3 ≤ 2147483647) (r_x4 : -2147483648 ≤ x4 ∧ x4 ≤ 2147483647) (σ0 : Nat → va_E) (G0 : Good K τ σ0) (hend : ∀ (σ' : Nat → va_E) (lv : List (Nat × Value)) (pc : Nat), Good K τ σ' → Fr τ [(3, 23), (3, 22), (1, 16), (34, 0)] σ0 σ' → decode cX4_note pc = .ok (.return_, 1) → V p l e R s m args below meth c 6 D A Q (0, 0) (fd dom σ') lv pc []) : V p l e R s m args below meth c 6 D A Q (0, 0) (fd dom σ0) [(0, .ref h), (1, .int (iI x1)), (2, .int (iI x2)), (3, .int (iI x3)), (4, .int (iI x4))] 0 [] := by
  have F0 : Fr τ [(3, 23), (3, 22), (1, 16), (34, 0)] σ0 σ0 := Fr.rf
  refine v_aload_n B dX4_note_0 rfl rfl ?_
  obtain ⟨a1, a2, a3, z4, z5, z6, h7, t8, t9, t10, r11, r12, r13⟩ : okDiary τ (σ0 h) := G0 h _ t_h
  refine u_get B Z (C := RX4) (T := TX4) (N := 6) (ci := 4) hi_Diary_note_X4 t_h h7 rfl 4 (by decide +kernel) (List.mem_of_getElem? (i := 1) rfl) rfl dX4_note_1 ?_
  refine v_bipush B (v := iI 32) dX4_note_4 (by decide +kernel) ?_
  refine u_icmp_lt B (tgt := 20) (by omega) (by omega) dX4_note_6 (by decide +kernel) (fun c14 => ?_) (fun c14 => ?_)
  · refine v_aload_n B dX4_note_20 rfl rfl ?_
    refine u_get B Z (C := RX4) (T := TX4) (N := 6) (ci := 4) hi_Diary_note_X4 t_h h7 rfl 3 (by decide +kernel) (List.mem_of_getElem? (i := 2) rfl) rfl dX4_note_21 ?_
    refine v_aload_n B dX4_note_24 rfl rfl ?_
    refine u_get B Z (C := RX4) (T := TX4) (N := 6) (ci := 4) hi_Diary_note_X4 t_h h7 rfl 4 (by decide +kernel) (List.mem_of_getElem? (i := 1) rfl) rfl dX4_note_25 ?_
    refine v_iadd B (v := iI (z4 + z5)) dX4_note_28 ((iI_add _ _).trans (congrArg iI (by omega))) ?_
    refine v_bipush B (v := iI 32) dX4_note_29 (by decide +kernel) ?_
    obtain ⟨z15, e16⟩ : ∃ z : Int, z = (z4 + z5) % 32 := ⟨_, rfl⟩
    refine v_irem B (v := iI z15) dX4_note_31 (fun q => absurd ((iI_eq (a := 32) (b := 0) (by omega) (by omega)).mp q) (by omega)) ((iI_rem (a := (z4 + z5)) (b := 32) (by omega) (by omega)).trans (congrArg iI e16.symm)) ?_
    refine v_istore B (lv' := [(5, .int (iI z15)), (0, .ref h), (1, .int (iI x1)), (2, .int (iI x2)), (3, .int (iI x3)), (4, .int (iI x4))]) dX4_note_32 (by decide +kernel) rfl ?_
    refine v_aload_n B dX4_note_34 rfl rfl ?_
    refine u_get B Z (C := RX4) (T := TX4) (N := 6) (ci := 4) hi_Diary_note_X4 t_h h7 rfl 0 (by decide +kernel) (List.mem_of_getElem? (i := 3) rfl) rfl dX4_note_35 ?_
    refine v_iload B dX4_note_38 rfl ?_
    refine v_iload_n B dX4_note_40 rfl rfl ?_
    obtain ⟨f17, h18, r19⟩ : okP K 32 (σ0 a1) := G0 a1 _ t8
    refine u_iast B Z (t0 := 0) t8 h18 rfl (by omega) dX4_note_41 (fun σ20 h21 n22 => ?_)
    have G23 := G0.put t8 (⟨_, h21, r19⟩ : Ok K τ (3, 23, 32) (σ20 a1)) n22
    have F24 := F0.put t8 (by simp) n22
    have h25 := (n22 h (ne_ty t_h t8 (by simp))).trans h7
    refine v_aload_n B dX4_note_42 rfl rfl ?_
    refine u_get B Z (C := RX4) (T := TX4) (N := 6) (ci := 4) hi_Diary_note_X4 t_h h25 rfl 1 (by decide +kernel) (List.mem_of_getElem? (i := 4) rfl) rfl dX4_note_43 ?_
    refine v_iload B dX4_note_46 rfl ?_
    obtain ⟨f26, h27, e28⟩ : okIJ K τ 32 (σ20 a2) := G23 a2 _ t9
    obtain ⟨a29, e30, t31⟩ := e28 (z15 : Int).toNat (by omega)
    refine u_aaldA B Z (t0 := 6) (v := .ref a29) t9 h27 rfl (by omega) (by rw [e30]; rfl) dX4_note_48 ?_
    refine v_iconst B (v := iI 0) dX4_note_49 rfl ?_
    refine v_iload_n B dX4_note_50 rfl rfl ?_
    obtain ⟨f32, h33, r34⟩ : okP K 3 (σ20 a29) := G23 a29 _ t31
    refine u_iast B Z (t0 := 0) t31 h33 rfl (by omega) dX4_note_51 (fun σ35 h36 n37 => ?_)
    have G38 := G23.put t31 (⟨_, h36, r34⟩ : Ok K τ (3, 22, 3) (σ35 a29)) n37
    have F39 := F24.put t31 (by simp) n37
    have h40 := (n37 h (ne_ty t_h t31 (by simp))).trans h25
    have h41 := (n37 a2 (ne_ty t9 t31 (by simp))).trans h27
    refine v_aload_n B dX4_note_52 rfl rfl ?_
    refine u_get B Z (C := RX4) (T := TX4) (N := 6) (ci := 4) hi_Diary_note_X4 t_h h40 rfl 1 (by decide +kernel) (List.mem_of_getElem? (i := 4) rfl) rfl dX4_note_53 ?_
    refine v_iload B dX4_note_56 rfl ?_
    obtain ⟨a42, e43, t44⟩ := e28 (z15 : Int).toNat (by omega)
    refine u_aaldA B Z (t0 := 6) (v := .ref a42) t9 h41 rfl (by omega) (by rw [e43]; rfl) dX4_note_58 ?_
    refine v_iconst B (v := iI 1) dX4_note_59 rfl ?_
    refine v_iload_n B dX4_note_60 rfl rfl ?_
    obtain ⟨f45, h46, r47⟩ : okP K 3 (σ35 a42) := G38 a42 _ t44
    refine u_iast B Z (t0 := 0) t44 h46 rfl (by omega) dX4_note_61 (fun σ48 h49 n50 => ?_)
    have G51 := G38.put t44 (⟨_, h49, r47⟩ : Ok K τ (3, 22, 3) (σ48 a42)) n50
    have F52 := F39.put t44 (by simp) n50
    have h53 := (n50 h (ne_ty t_h t44 (by simp))).trans h40
    have h54 := (n50 a2 (ne_ty t9 t44 (by simp))).trans h41
    refine v_aload_n B dX4_note_62 rfl rfl ?_
    refine u_get B Z (C := RX4) (T := TX4) (N := 6) (ci := 4) hi_Diary_note_X4 t_h h53 rfl 1 (by decide +kernel) (List.mem_of_getElem? (i := 4) rfl) rfl dX4_note_63 ?_
    refine v_iload B dX4_note_66 rfl ?_
    obtain ⟨a55, e56, t57⟩ := e28 (z15 : Int).toNat (by omega)
    refine u_aaldA B Z (t0 := 6) (v := .ref a55) t9 h54 rfl (by omega) (by rw [e56]; rfl) dX4_note_68 ?_
    refine v_iconst B (v := iI 2) dX4_note_69 rfl ?_
    refine v_iload B dX4_note_70 rfl ?_
    obtain ⟨f58, h59, r60⟩ : okP K 3 (σ48 a55) := G51 a55 _ t57
    refine u_iast B Z (t0 := 0) t57 h59 rfl (by omega) dX4_note_72 (fun σ61 h62 n63 => ?_)
    have G64 := G51.put t57 (⟨_, h62, r60⟩ : Ok K τ (3, 22, 3) (σ61 a55)) n63
    have F65 := F52.put t57 (by simp) n63
    have h66 := (n63 h (ne_ty t_h t57 (by simp))).trans h53
    have h67 := (n63 a2 (ne_ty t9 t57 (by simp))).trans h54
    refine v_aload_n B dX4_note_73 rfl rfl ?_
    refine u_get B Z (C := RX4) (T := TX4) (N := 6) (ci := 4) hi_Diary_note_X4 t_h h66 rfl 2 (by decide +kernel) (List.mem_of_getElem? (i := 5) rfl) rfl dX4_note_74 ?_
    refine v_iload B dX4_note_77 rfl ?_
    obtain ⟨f68, h69, e70⟩ : okRA K τ 16 32 (σ61 a3) := G64 a3 _ t10
    obtain ⟨a71, e72, t73⟩ := e70 (z15 : Int).toNat (by omega)
    refine u_aald B Z (t0 := 4) (v := .ref a71) t10 h69 rfl (by omega) (by rw [e72]; rfl) dX4_note_79 ?_
    refine u_callVv B Z hz (n := 0) (As := []) (rest := []) (c_Row_clear l D K Z _ _ _ _ a71 t73 σ61 G64) gd_Diary_note_Row_clear_39 rfl rfl rfl (by decide +kernel) ⟨Nat.le_trans (by decide +kernel) hR.1, Nat.le_trans (by decide +kernel) hR.2⟩ t73 (cls_Row G64 t73) rfl rfl rfl rfl (Nat.le_of_ble_eq_true rfl) dX4_note_80 ⟨Nat.zero_le _, Nat.zero_le _⟩ (fun σ74 p75 => ?_)
    obtain ⟨G77, F78⟩ := p75
    have F79 := F65.call F78 (by first | rfl | simp)
    have h80 := (F78 h _ t_h (by first | rfl | simp)).trans h66
    have h81 := (F78 a2 _ t9 (by first | rfl | simp)).trans h67
    have h82 := (F78 a3 _ t10 (by first | rfl | simp)).trans h69
    refine v_aload_n B dX4_note_83 rfl rfl ?_
    refine v_dup B dX4_note_84 rfl ?_
    refine u_get B Z (C := RX4) (T := TX4) (N := 6) (ci := 4) hi_Diary_note_X4 t_h h80 rfl 4 (by decide +kernel) (List.mem_of_getElem? (i := 1) rfl) rfl dX4_note_85 ?_
    refine v_iconst B (v := iI 1) dX4_note_88 rfl ?_
    refine v_iadd B (v := iI (z5 + 1)) dX4_note_89 ((iI_add _ _).trans (congrArg iI (by omega))) ?_
    refine u_put B Z (C := RX4) (T := TX4) (N := 6) (ci := 4) hi_Diary_note_X4 t_h h80 rfl 4 (by decide +kernel) tyX4 tyX4_ok nmX4 (List.mem_of_getElem? (i := 1) rfl) rfl (ty := .int) (tyX4_ok 4 (by decide +kernel)) rfl rfl (Nat.le_of_ble_eq_true rfl) (fs' := [.ref a1, .ref a2, .ref a3, .int (iI z4), .int (iI (z5 + 1)), .int (iI z6)]) rfl dX4_note_90 (fun σ83 h84 n85 => ?_)
    have G86 := G77.put t_h (⟨a1, a2, a3, z4, (z5 + 1), z6, h84, t8, t9, t10, ⟨by omega, by omega⟩, ⟨by omega, by omega⟩, ⟨by omega, by omega⟩⟩ : Ok K τ (34, 0, 0) (σ83 h)) n85
    have F87 := F79.put t_h (by simp) n85
    have h88 := (n85 a2 (ne_ty t9 t_h (by simp))).trans h81
    have h89 := (n85 a3 (ne_ty t10 t_h (by simp))).trans h82
    exact hend σ83 _ _ G86 F87 dX4_note_93
  · refine v_aload_n B dX4_note_9 rfl rfl ?_
    refine v_dup B dX4_note_10 rfl ?_
    refine u_get B Z (C := RX4) (T := TX4) (N := 6) (ci := 4) hi_Diary_note_X4 t_h h7 rfl 5 (by decide +kernel) (List.mem_of_getElem? (i := 12) rfl) rfl dX4_note_11 ?_
    refine v_iconst B (v := iI 1) dX4_note_14 rfl ?_
    obtain ⟨z90, e91, r92⟩ := iI_any (iI z6 + iI 1)
    refine v_iadd B (v := iI z90) dX4_note_15 e91 ?_
    refine u_put B Z (C := RX4) (T := TX4) (N := 6) (ci := 4) hi_Diary_note_X4 t_h h7 rfl 5 (by decide +kernel) tyX4 tyX4_ok nmX4 (List.mem_of_getElem? (i := 12) rfl) rfl (ty := .int) (tyX4_ok 5 (by decide +kernel)) rfl rfl (Nat.le_of_ble_eq_true rfl) (fs' := [.ref a1, .ref a2, .ref a3, .int (iI z4), .int (iI z5), .int (iI z90)]) rfl dX4_note_16 (fun σ93 h94 n95 => ?_)
    have G96 := G0.put t_h (⟨a1, a2, a3, z4, z5, z90, h94, t8, t9, t10, ⟨by omega, by omega⟩, ⟨by omega, by omega⟩, ⟨by omega, by omega⟩⟩ : Ok K τ (34, 0, 0) (σ93 h)) n95
    have F97 := F0.put t_h (by simp) n95
    exact hend σ93 _ _ G96 F97 dX4_note_19
set_option maxRecDepth 100000 in
theorem c_Diary_note (l : Launch) (D : va_G) (K : Nat → ClassId) {τ : Nat → Option Ty} {dom : List Nat} (Z : Sk τ dom) (zb zL : Nat) (zx : Nat → Int32) (zs : Nat → Nat) (h : Nat) (x1 : Int) (x2 : Int) (x3 : Int) (x4 : Int) (t_h : τ h = some (34, 0, 0)) (r_x1 : -2147483648 ≤ x1 ∧ x1 ≤ 2147483647) (r_x2 : -2147483648 ≤ x2 ∧ x2 ≤ 2147483647) (r_x3 : -2147483648 ≤ x3 ∧ x3 ≤ 2147483647) (r_x4 : -2147483648 ≤ x4 ∧ x4 ≤ 2147483647) (σ0 : Nat → va_E) (G0 : Good K τ σ0) : MZ l yX4_note wp_Diary_note ({ frames := 1, cells := 0, slots := 0, locals := 20 }) D (tysA K) [.ref h, .int (iI x1), .int (iI x2), .int (iI x3), .int (iI x4)] (fd dom σ0) zb zL zx zs (Qv D (fun σ' => Good K τ σ' ∧ Fr τ [(3, 23), (3, 22), (1, 16), (34, 0)] σ0 σ') (fun σ' => fd dom σ')) 0 0 := by
  refine mz_of (cc := cX4_note) (maxL := 6) (ret := none) (by decide +kernel) rfl (Nat.le_of_ble_eq_true rfl) ?_
  intro p e s m below meth c A B hr hlk _ hz
  exact b_Diary_note ⟨Nat.le_refl _, Nat.le_refl _⟩ B Z hz h x1 x2 x3 x4 t_h r_x1 r_x2 r_x3 r_x4 σ0 G0 (fun σ' lv pc G F hd => v_vret B hr hlk σ' ⟨G, F⟩ rfl (Nat.le_refl _) (Nat.le_refl _) hd)

def wp_Diary_noteBytes : List Cond := .code yX4_noteBytes cX4_noteBytes 8 none :: (([.fieldLink RX4 29 "LowEnergy$Diary" "count" "I", .fieldLink RX4 33 "LowEnergy$Diary" "lost" "I", .fieldLink RX4 22 "LowEnergy$Diary" "rows" "[LLowEnergy$Row;", .fieldLink RX4 36 "LowEnergy$Diary" "head" "I", .methodLink RX4 42 yX4_note, .instanceMethod yX4_note, .selects RX4 yX4_note yX4_note, .initialized RX4, .code yX4_note cX4_note 6 none, .fieldLink RX4 11 "LowEnergy$Diary" "kinds" "[I", .fieldLink RX4 17 "LowEnergy$Diary" "numbers" "[[I", .methodLink RX4 39 yX9_clear, .instanceMethod yX9_clear, .selects RX9 yX9_clear yX9_clear, .initialized RX9, .code yX9_clear cX9_clear 1 none, .fieldLink RX9 21 "LowEnergy$Row" "size" "I", .methodLink RX4 46 yX9_putPart, .instanceMethod yX9_putPart, .selects RX9 yX9_putPart yX9_putPart, .code yX9_putPart cX9_putPart 6 none, .fieldLink RX9 15 "LowEnergy$Row" "bytes" "[I", .methodLink RX9 9 Lib.Math.max.name, .static Lib.Math.max.name, .initialized "java/lang/Math", .code Lib.Math.max.name Lib.Math.max.code 2 (some .int)] : List Cond) ++ (wsX40 ++ (wsX90 ++ ([]))))
theorem hi_Diary_noteBytes_X4 : ∀ x ∈ u_ws RX4 TX4 6, x ∈ wp_Diary_noteBytes := fun _ h => List.mem_cons_of_mem _ (List.mem_append_right _ (List.mem_append_left _ h))
theorem hi_Diary_noteBytes_X9 : ∀ x ∈ u_ws RX9 TX9 2, x ∈ wp_Diary_noteBytes := fun _ h => List.mem_cons_of_mem _ (List.mem_append_right _ (List.mem_append_right _ (List.mem_append_left _ h)))
set_option maxRecDepth 100000 in
theorem gd_Diary_noteBytes_Diary_note_42 : GoodIn wp_Diary_noteBytes (wsV RX4 42 RX4 yX4_note wp_Diary_note) := goodIn_app (goodIn_r _ [5, 6, 7, 8] rfl rfl) (goodIn_ca (goodIn_r _ [9, 1, 4, 10, 11, 3, 12, 13, 14, 15, 16, 17, 2] rfl rfl) (goodIn_app (goodIn_cls hi_Diary_noteBytes_X4 gw_X4) (goodIn_app (goodIn_cls hi_Diary_noteBytes_X9 gw_X9) (goodIn_nil))))
set_option maxRecDepth 100000 in
theorem gd_Diary_noteBytes_Row_putPart_46 : GoodIn wp_Diary_noteBytes (wsV RX4 46 RX9 yX9_putPart wp_Row_putPart) := goodIn_app (goodIn_r _ [18, 19, 20, 15] rfl rfl) (goodIn_ca (goodIn_r _ [21, 17, 22, 23, 24, 25, 26] rfl rfl) (goodIn_app (goodIn_cls hi_Diary_noteBytes_X9 gw_X9) (goodIn_nil)))
set_option maxHeartbeats 4000000 in
set_option maxRecDepth 100000 in
theorem b_Diary_noteBytes {p : Program} {l : Launch} {e : Env} {R : Room} {s : State} {m : MethodId} {args : Array Value} {below : List Frame} {meth : Method} {c : Code} {D : va_G} {K : Nat → ClassId} {A : Nat → Prop} {Q : State → Prop} {τ : Nat → Option Ty} {dom : List Nat} {zb zL : Nat} {zx : Nat → Int32} {zs : Nat → Nat} {π : Nat} (hR : 2 ≤ R.frames ∧ 45 ≤ R.locals) (B : Bx p s m args c cX4_noteBytes 8 RX4 wp_Diary_noteBytes D (tysA K) A) (Z : Sk τ dom) (hz : ZL zb zL zx zs A s s.heap) (h : Nat) (x1 : Int) (x2 : Int) (x3 : Int) (g : Nat) (x5 : Int) (x6 : Int) (t_h : τ h = some (34, 0, 0)) (r_x1 : -2147483648 ≤ x1 ∧ x1 ≤ 2147483647) (r_x2 : -2147483648 ≤ x2 ∧ x2 ≤ 2147483647) (r_x3 : -2147483648 ≤ x3 ∧ x3 ≤ 2147483647) (t_g : τ g = some (1, π, 0)) (r_x5 : -2147483648 ≤ x5 ∧ x5 ≤ 2147483647) (r_x6 : -2147483648 ≤ x6 ∧ x6 ≤ 2147483647) (σ0 : Nat → va_E) (G0 : Good K τ σ0) (hend : ∀ (σ' : Nat → va_E) (lv : List (Nat × Value)) (pc : Nat), Good K τ σ' → Fr τ [(34, 0), (3, 23), (3, 22), (1, 16), (2, 16)] σ0 σ' → decode cX4_noteBytes pc = .ok (.return_, 1) → V p l e R s m args below meth c 8 D A Q (0, 0) (fd dom σ') lv pc []) : V p l e R s m args below meth c 8 D A Q (0, 0) (fd dom σ0) [(0, .ref h), (1, .int (iI x1)), (2, .int (iI x2)), (3, .int (iI x3)), (4, .ref g), (5, .int (iI x5)), (6, .int (iI x6))] 0 [] := by
  have F0 : Fr τ [(34, 0), (3, 23), (3, 22), (1, 16), (2, 16)] σ0 σ0 := Fr.rf
  refine v_aload_n B dX4_noteBytes_0 rfl rfl ?_
  obtain ⟨a1, a2, a3, z4, z5, z6, h7, t8, t9, t10, r11, r12, r13⟩ : okDiary τ (σ0 h) := G0 h _ t_h
  refine u_get B Z (C := RX4) (T := TX4) (N := 6) (ci := 4) hi_Diary_noteBytes_X4 t_h h7 rfl 4 (by decide +kernel) (List.mem_of_getElem? (i := 1) rfl) rfl dX4_noteBytes_1 ?_
  refine v_bipush B (v := iI 32) dX4_noteBytes_4 (by decide +kernel) ?_
  refine u_icmp_ge B (tgt := 50) (by omega) (by omega) dX4_noteBytes_6 (by decide +kernel) (fun c14 => ?_) (fun c14 => ?_)
  · refine v_aload_n B dX4_noteBytes_50 rfl rfl ?_
    refine v_dup B dX4_noteBytes_51 rfl ?_
    refine u_get B Z (C := RX4) (T := TX4) (N := 6) (ci := 4) hi_Diary_noteBytes_X4 t_h h7 rfl 5 (by decide +kernel) (List.mem_of_getElem? (i := 2) rfl) rfl dX4_noteBytes_52 ?_
    refine v_iconst B (v := iI 1) dX4_noteBytes_55 rfl ?_
    obtain ⟨z15, e16, r17⟩ := iI_any (iI z6 + iI 1)
    refine v_iadd B (v := iI z15) dX4_noteBytes_56 e16 ?_
    refine u_put B Z (C := RX4) (T := TX4) (N := 6) (ci := 4) hi_Diary_noteBytes_X4 t_h h7 rfl 5 (by decide +kernel) tyX4 tyX4_ok nmX4 (List.mem_of_getElem? (i := 2) rfl) rfl (ty := .int) (tyX4_ok 5 (by decide +kernel)) rfl rfl (Nat.le_of_ble_eq_true rfl) (fs' := [.ref a1, .ref a2, .ref a3, .int (iI z4), .int (iI z5), .int (iI z15)]) rfl dX4_noteBytes_57 (fun σ18 h19 n20 => ?_)
    have G21 := G0.put t_h (⟨a1, a2, a3, z4, z5, z15, h19, t8, t9, t10, ⟨by omega, by omega⟩, ⟨by omega, by omega⟩, ⟨by omega, by omega⟩⟩ : Ok K τ (34, 0, 0) (σ18 h)) n20
    have F22 := F0.put t_h (by simp) n20
    exact hend σ18 _ _ G21 F22 dX4_noteBytes_60
  · refine v_aload_n B dX4_noteBytes_9 rfl rfl ?_
    refine u_get B Z (C := RX4) (T := TX4) (N := 6) (ci := 4) hi_Diary_noteBytes_X4 t_h h7 rfl 2 (by decide +kernel) (List.mem_of_getElem? (i := 3) rfl) rfl dX4_noteBytes_10 ?_
    refine v_aload_n B dX4_noteBytes_13 rfl rfl ?_
    refine u_get B Z (C := RX4) (T := TX4) (N := 6) (ci := 4) hi_Diary_noteBytes_X4 t_h h7 rfl 3 (by decide +kernel) (List.mem_of_getElem? (i := 4) rfl) rfl dX4_noteBytes_14 ?_
    refine v_aload_n B dX4_noteBytes_17 rfl rfl ?_
    refine u_get B Z (C := RX4) (T := TX4) (N := 6) (ci := 4) hi_Diary_noteBytes_X4 t_h h7 rfl 4 (by decide +kernel) (List.mem_of_getElem? (i := 1) rfl) rfl dX4_noteBytes_18 ?_
    refine v_iadd B (v := iI (z4 + z5)) dX4_noteBytes_21 ((iI_add _ _).trans (congrArg iI (by omega))) ?_
    refine v_bipush B (v := iI 32) dX4_noteBytes_22 (by decide +kernel) ?_
    obtain ⟨z23, e24⟩ : ∃ z : Int, z = (z4 + z5) % 32 := ⟨_, rfl⟩
    refine v_irem B (v := iI z23) dX4_noteBytes_24 (fun q => absurd ((iI_eq (a := 32) (b := 0) (by omega) (by omega)).mp q) (by omega)) ((iI_rem (a := (z4 + z5)) (b := 32) (by omega) (by omega)).trans (congrArg iI e24.symm)) ?_
    obtain ⟨f25, h26, e27⟩ : okRA K τ 16 32 (σ0 a3) := G0 a3 _ t10
    obtain ⟨a28, e29, t30⟩ := e27 (z23 : Int).toNat (by omega)
    refine u_aald B Z (t0 := 4) (v := .ref a28) t10 h26 rfl (by omega) (by rw [e29]; rfl) dX4_noteBytes_25 ?_
    refine v_astore B (lv' := [(7, .ref a28), (0, .ref h), (1, .int (iI x1)), (2, .int (iI x2)), (3, .int (iI x3)), (4, .ref g), (5, .int (iI x5)), (6, .int (iI x6))]) dX4_noteBytes_26 (by decide +kernel) rfl ?_
    refine v_aload_n B dX4_noteBytes_28 rfl rfl ?_
    refine v_iload_n B dX4_noteBytes_29 rfl rfl ?_
    refine v_iload_n B dX4_noteBytes_30 rfl rfl ?_
    refine v_iload_n B dX4_noteBytes_31 rfl rfl ?_
    refine v_iconst B (v := iI 0) dX4_noteBytes_32 rfl ?_
    refine u_callVv B Z hz (n := 4) (As := [.int (iI x1), .int (iI x2), .int (iI x3), .int (iI 0)]) (rest := []) (c_Diary_note l D K Z _ _ _ _ h x1 x2 x3 0 t_h ⟨by omega, by omega⟩ ⟨by omega, by omega⟩ ⟨by omega, by omega⟩ ⟨by omega, by omega⟩ σ0 G0) gd_Diary_noteBytes_Diary_note_42 rfl rfl rfl (by decide +kernel) ⟨Nat.le_trans (by decide +kernel) hR.1, Nat.le_trans (by decide +kernel) hR.2⟩ t_h (cls_Diary G0 t_h) rfl rfl rfl rfl (Nat.le_of_ble_eq_true rfl) dX4_noteBytes_33 ⟨Nat.zero_le _, Nat.zero_le _⟩ (fun σ31 p32 => ?_)
    obtain ⟨G34, F35⟩ := p32
    have F36 := F0.call F35 (by first | rfl | simp)
    have h37 := (F35 a3 _ t10 (by first | rfl | simp)).trans h26
    refine v_aload B dX4_noteBytes_36 rfl ?_
    refine v_aload B dX4_noteBytes_38 rfl ?_
    refine v_iload B dX4_noteBytes_40 rfl ?_
    refine v_iload B dX4_noteBytes_42 rfl ?_
    refine u_callVv B Z hz (n := 3) (As := [.ref g, .int (iI x5), .int (iI x6)]) (rest := []) (c_Row_putPart l D K Z _ _ _ _ a28 g x5 x6 t30 t_g ⟨by omega, by omega⟩ ⟨by omega, by omega⟩ σ31 G34) gd_Diary_noteBytes_Row_putPart_46 rfl rfl rfl (by decide +kernel) ⟨Nat.le_trans (by decide +kernel) hR.1, Nat.le_trans (by decide +kernel) hR.2⟩ t30 (cls_Row G34 t30) rfl rfl rfl rfl (Nat.le_of_ble_eq_true rfl) dX4_noteBytes_44 ⟨Nat.zero_le _, Nat.zero_le _⟩ (fun σ38 p39 => ?_)
    obtain ⟨G41, F42⟩ := p39
    have F43 := F36.call F42 (by first | rfl | simp)
    have h44 := (F42 a3 _ t10 (by first | rfl | simp)).trans h37
    refine v_goto B (tgt := 60) dX4_noteBytes_47 (by decide +kernel) ?_
    exact hend σ38 _ _ G41 F43 dX4_noteBytes_60
set_option maxRecDepth 100000 in
theorem c_Diary_noteBytes (l : Launch) (D : va_G) (K : Nat → ClassId) {τ : Nat → Option Ty} {dom : List Nat} (Z : Sk τ dom) (zb zL : Nat) (zx : Nat → Int32) (zs : Nat → Nat) {π : Nat} (h : Nat) (x1 : Int) (x2 : Int) (x3 : Int) (g : Nat) (x5 : Int) (x6 : Int) (t_h : τ h = some (34, 0, 0)) (r_x1 : -2147483648 ≤ x1 ∧ x1 ≤ 2147483647) (r_x2 : -2147483648 ≤ x2 ∧ x2 ≤ 2147483647) (r_x3 : -2147483648 ≤ x3 ∧ x3 ≤ 2147483647) (t_g : τ g = some (1, π, 0)) (r_x5 : -2147483648 ≤ x5 ∧ x5 ≤ 2147483647) (r_x6 : -2147483648 ≤ x6 ∧ x6 ≤ 2147483647) (σ0 : Nat → va_E) (G0 : Good K τ σ0) : MZ l yX4_noteBytes wp_Diary_noteBytes ({ frames := 2, cells := 0, slots := 0, locals := 45 }) D (tysA K) [.ref h, .int (iI x1), .int (iI x2), .int (iI x3), .ref g, .int (iI x5), .int (iI x6)] (fd dom σ0) zb zL zx zs (Qv D (fun σ' => Good K τ σ' ∧ Fr τ [(34, 0), (3, 23), (3, 22), (1, 16), (2, 16)] σ0 σ') (fun σ' => fd dom σ')) 0 0 := by
  refine mz_of (cc := cX4_noteBytes) (maxL := 8) (ret := none) (by decide +kernel) rfl (Nat.le_of_ble_eq_true rfl) ?_
  intro p e s m below meth c A B hr hlk _ hz
  exact b_Diary_noteBytes ⟨Nat.le_refl _, Nat.le_refl _⟩ B Z hz h x1 x2 x3 g x5 x6 t_h r_x1 r_x2 r_x3 t_g r_x5 r_x6 σ0 G0 (fun σ' lv pc G F hd => v_vret B hr hlk σ' ⟨G, F⟩ rfl (Nat.le_refl _) (Nat.le_refl _) hd)

def wp_Diary_figure : List Cond := .code yX4_figure cX4_figure 2 (some .int) :: (([.fieldLink RX4 22 "LowEnergy$Diary" "rows" "[LLowEnergy$Row;", .fieldLink RX4 36 "LowEnergy$Diary" "head" "I", .methodLink RX4 53 yX9_at, .instanceMethod yX9_at, .selects RX9 yX9_at yX9_at, .initialized RX9, .code yX9_at cX9_at 2 (some .int), .fieldLink RX9 21 "LowEnergy$Row" "size" "I", .fieldLink RX9 15 "LowEnergy$Row" "bytes" "[I", .fieldLink RX4 29 "LowEnergy$Diary" "count" "I", .fieldLink RX4 17 "LowEnergy$Diary" "numbers" "[[I", .fieldLink RX4 11 "LowEnergy$Diary" "kinds" "[I"] : List Cond) ++ (wsX40 ++ (wsX90 ++ ([]))))
theorem hi_Diary_figure_X4 : ∀ x ∈ u_ws RX4 TX4 6, x ∈ wp_Diary_figure := fun _ h => List.mem_cons_of_mem _ (List.mem_append_right _ (List.mem_append_left _ h))
theorem hi_Diary_figure_X9 : ∀ x ∈ u_ws RX9 TX9 2, x ∈ wp_Diary_figure := fun _ h => List.mem_cons_of_mem _ (List.mem_append_right _ (List.mem_append_right _ (List.mem_append_left _ h)))
set_option maxRecDepth 100000 in
theorem gd_Diary_figure_Row_at_53 : GoodIn wp_Diary_figure (wsV RX4 53 RX9 yX9_at wp_Row_at) := goodIn_app (goodIn_r _ [3, 4, 5, 6] rfl rfl) (goodIn_ca (goodIn_r _ [7, 8, 9] rfl rfl) (goodIn_app (goodIn_cls hi_Diary_figure_X9 gw_X9) (goodIn_nil)))
set_option maxHeartbeats 4000000 in
set_option maxRecDepth 100000 in
theorem b_Diary_figure {p : Program} {l : Launch} {e : Env} {R : Room} {s : State} {m : MethodId} {args : Array Value} {below : List Frame} {meth : Method} {c : Code} {D : va_G} {K : Nat → ClassId} {A : Nat → Prop} {Q : State → Prop} {τ : Nat → Option Ty} {dom : List Nat} {zb zL : Nat} {zx : Nat → Int32} {zs : Nat → Nat} (hR : 1 ≤ R.frames ∧ 21 ≤ R.locals) (B : Bx p s m args c cX4_figure 2 RX4 wp_Diary_figure D (tysA K) A) (Z : Sk τ dom) (hz : ZL zb zL zx zs A s s.heap) (h : Nat) (x1 : Int) (t_h : τ h = some (34, 0, 0)) (r_x1 : -2147483648 ≤ x1 ∧ x1 ≤ 2147483647) (σ0 : Nat → va_E) (G0 : Good K τ σ0) (hend : ∀ (z : Int) (lv : List (Nat × Value)) (pc : Nat), (-2147483648 ≤ z ∧ z ≤ 2147483647) → decode cX4_figure pc = .ok (.ireturn, 1) → V p l e R s m args below meth c 2 D A Q (0, 0) (fd dom σ0) lv pc [.int (iI z)]) : V p l e R s m args below meth c 2 D A Q (0, 0) (fd dom σ0) [(0, .ref h), (1, .int (iI x1))] 0 [] := by
  have F0 : Fr τ [] σ0 σ0 := Fr.rf
  have J47 : V p l e R s m args below meth c 2 D A Q (0, 0) (fd dom σ0) [(0, .ref h), (1, .int (iI x1))] 47 [] := by
    refine v_iload_n B dX4_figure_47 rfl rfl ?_
    refine v_iconst B (v := iI 4) dX4_figure_48 rfl ?_
    refine u_icmp_ne B (tgt := 65) (by omega) (by omega) dX4_figure_49 (by decide +kernel) (fun c1 => ?_) (fun c1 => ?_)
    · refine v_iload_n B dX4_figure_65 rfl rfl ?_
      refine v_bipush B (v := iI 10) dX4_figure_66 (by decide +kernel) ?_
      refine u_icmp_lt B (tgt := 90) (by omega) (by omega) dX4_figure_68 (by decide +kernel) (fun c2 => ?_) (fun c2 => ?_)
      · refine v_iconst B (v := iI (-1)) dX4_figure_90 rfl ?_
        exact hend (-1) _ _ ⟨by omega, by omega⟩ dX4_figure_91
      · refine v_aload_n B dX4_figure_71 rfl rfl ?_
        obtain ⟨a3, a4, a5, z6, z7, z8, h9, t10, t11, t12, r13, r14, r15⟩ : okDiary τ (σ0 h) := G0 h _ t_h
        refine u_get B Z (C := RX4) (T := TX4) (N := 6) (ci := 4) hi_Diary_figure_X4 t_h h9 rfl 2 (by decide +kernel) (List.mem_of_getElem? (i := 1) rfl) rfl dX4_figure_72 ?_
        refine v_aload_n B dX4_figure_75 rfl rfl ?_
        refine u_get B Z (C := RX4) (T := TX4) (N := 6) (ci := 4) hi_Diary_figure_X4 t_h h9 rfl 3 (by decide +kernel) (List.mem_of_getElem? (i := 2) rfl) rfl dX4_figure_76 ?_
        obtain ⟨f16, h17, e18⟩ : okRA K τ 16 32 (σ0 a5) := G0 a5 _ t12
        obtain ⟨a19, e20, t21⟩ := e18 (z6 : Int).toNat (by omega)
        refine u_aald B Z (t0 := 4) (v := .ref a19) t12 h17 rfl (by omega) (by rw [e20]; rfl) dX4_figure_79 ?_
        refine v_iload_n B dX4_figure_80 rfl rfl ?_
        refine v_bipush B (v := iI 10) dX4_figure_81 (by decide +kernel) ?_
        refine v_isub B (v := iI (x1 + (-10))) dX4_figure_83 ((iI_sub _ _).trans (congrArg iI (by omega))) ?_
        refine u_callVi B Z hz (n := 1) (As := [.int (iI (x1 + (-10)))]) (rest := []) (c_Row_at l D K Z _ _ _ _ a19 (x1 + (-10)) t21 ⟨by omega, by omega⟩ σ0 G0) gd_Diary_figure_Row_at_53 rfl rfl rfl (by decide +kernel) ⟨Nat.le_trans (by decide +kernel) hR.1, Nat.le_trans (by decide +kernel) hR.2⟩ t21 (cls_Row G0 t21) rfl rfl rfl rfl (Nat.le_of_ble_eq_true rfl) dX4_figure_84 ⟨Nat.zero_le _, Nat.zero_le _⟩ (fun v24 σ22 p23 => ?_)
        obtain ⟨rfl, z28, e29, r30⟩ := p23
        subst e29
        refine v_goto B (tgt := 91) dX4_figure_87 (by decide +kernel) ?_
        exact hend z28 _ _ ⟨by omega, by omega⟩ dX4_figure_91
    · refine v_aload_n B dX4_figure_52 rfl rfl ?_
      obtain ⟨a31, a32, a33, z34, z35, z36, h37, t38, t39, t40, r41, r42, r43⟩ : okDiary τ (σ0 h) := G0 h _ t_h
      refine u_get B Z (C := RX4) (T := TX4) (N := 6) (ci := 4) hi_Diary_figure_X4 t_h h37 rfl 2 (by decide +kernel) (List.mem_of_getElem? (i := 1) rfl) rfl dX4_figure_53 ?_
      refine v_aload_n B dX4_figure_56 rfl rfl ?_
      refine u_get B Z (C := RX4) (T := TX4) (N := 6) (ci := 4) hi_Diary_figure_X4 t_h h37 rfl 3 (by decide +kernel) (List.mem_of_getElem? (i := 2) rfl) rfl dX4_figure_57 ?_
      obtain ⟨f44, h45, e46⟩ : okRA K τ 16 32 (σ0 a33) := G0 a33 _ t40
      obtain ⟨a47, e48, t49⟩ := e46 (z34 : Int).toNat (by omega)
      refine u_aald B Z (t0 := 4) (v := .ref a47) t40 h45 rfl (by omega) (by rw [e48]; rfl) dX4_figure_60 ?_
      obtain ⟨b50, N51, n52, h53, t54, r55⟩ : okRow τ 16 (σ0 a47) := G0 a47 _ t49
      refine u_getN B Z (C := RX9) (T := TX9) (N := 2) (ci := 9) hi_Diary_figure_X9 t49 h53 rfl 1 (by decide +kernel) (List.mem_of_getElem? (i := 86) rfl) rfl dX4_figure_61 ?_
      exact hend n52 _ _ ⟨by omega, by omega⟩ dX4_figure_64
  refine v_aload_n B dX4_figure_0 rfl rfl ?_
  obtain ⟨a56, a57, a58, z59, z60, z61, h62, t63, t64, t65, r66, r67, r68⟩ : okDiary τ (σ0 h) := G0 h _ t_h
  refine u_get B Z (C := RX4) (T := TX4) (N := 6) (ci := 4) hi_Diary_figure_X4 t_h h62 rfl 4 (by decide +kernel) (List.mem_of_getElem? (i := 10) rfl) rfl dX4_figure_1 ?_
  refine u_if_ne B (tgt := 9) (by omega) dX4_figure_4 (by decide +kernel) (fun c69 => ?_) (fun c69 => ?_)
  · refine v_iload_n B dX4_figure_9 rfl rfl ?_
    refine u_if_ne B (tgt := 23) (by omega) dX4_figure_10 (by decide +kernel) (fun c70 => ?_) (fun c70 => ?_)
    · refine v_iload_n B dX4_figure_23 rfl rfl ?_
      refine v_iconst B (v := iI 1) dX4_figure_24 rfl ?_
      refine u_icmp_lt B (tgt := 47) (by omega) (by omega) dX4_figure_25 (by decide +kernel) (fun c71 => ?_) (fun c71 => ?_)
      · exact J47
      · refine v_iload_n B dX4_figure_28 rfl rfl ?_
        refine v_iconst B (v := iI 3) dX4_figure_29 rfl ?_
        refine u_icmp_gt B (tgt := 47) (by omega) (by omega) dX4_figure_30 (by decide +kernel) (fun c72 => ?_) (fun c72 => ?_)
        · exact J47
        · refine v_aload_n B dX4_figure_33 rfl rfl ?_
          refine u_get B Z (C := RX4) (T := TX4) (N := 6) (ci := 4) hi_Diary_figure_X4 t_h h62 rfl 1 (by decide +kernel) (List.mem_of_getElem? (i := 11) rfl) rfl dX4_figure_34 ?_
          refine v_aload_n B dX4_figure_37 rfl rfl ?_
          refine u_get B Z (C := RX4) (T := TX4) (N := 6) (ci := 4) hi_Diary_figure_X4 t_h h62 rfl 3 (by decide +kernel) (List.mem_of_getElem? (i := 2) rfl) rfl dX4_figure_38 ?_
          obtain ⟨f73, h74, e75⟩ : okIJ K τ 32 (σ0 a57) := G0 a57 _ t64
          obtain ⟨a76, e77, t78⟩ := e75 (z59 : Int).toNat (by omega)
          refine u_aaldA B Z (t0 := 6) (v := .ref a76) t64 h74 rfl (by omega) (by rw [e77]; rfl) dX4_figure_41 ?_
          refine v_iload_n B dX4_figure_42 rfl rfl ?_
          refine v_iconst B (v := iI 1) dX4_figure_43 rfl ?_
          refine v_isub B (v := iI (x1 + (-1))) dX4_figure_44 ((iI_sub _ _).trans (congrArg iI (by omega))) ?_
          obtain ⟨f79, h80, r81⟩ : okP K 3 (σ0 a76) := G0 a76 _ t78
          obtain ⟨z82, e83, r84⟩ := iI_any (f79 ((x1 + (-1)) : Int).toNat)
          refine u_iald B Z (t0 := 0) t78 h80 rfl (by omega) e83 dX4_figure_45 ?_
          exact hend z82 _ _ ⟨by omega, by omega⟩ dX4_figure_46
    · refine v_aload_n B dX4_figure_13 rfl rfl ?_
      refine u_get B Z (C := RX4) (T := TX4) (N := 6) (ci := 4) hi_Diary_figure_X4 t_h h62 rfl 0 (by decide +kernel) (List.mem_of_getElem? (i := 12) rfl) rfl dX4_figure_14 ?_
      refine v_aload_n B dX4_figure_17 rfl rfl ?_
      refine u_get B Z (C := RX4) (T := TX4) (N := 6) (ci := 4) hi_Diary_figure_X4 t_h h62 rfl 3 (by decide +kernel) (List.mem_of_getElem? (i := 2) rfl) rfl dX4_figure_18 ?_
      obtain ⟨f85, h86, r87⟩ : okP K 32 (σ0 a56) := G0 a56 _ t63
      obtain ⟨z88, e89, r90⟩ := iI_any (f85 (z59 : Int).toNat)
      refine u_iald B Z (t0 := 0) t63 h86 rfl (by omega) e89 dX4_figure_21 ?_
      exact hend z88 _ _ ⟨by omega, by omega⟩ dX4_figure_22
  · refine v_iconst B (v := iI (-1)) dX4_figure_7 rfl ?_
    exact hend (-1) _ _ ⟨by omega, by omega⟩ dX4_figure_8
set_option maxRecDepth 100000 in
theorem c_Diary_figure (l : Launch) (D : va_G) (K : Nat → ClassId) {τ : Nat → Option Ty} {dom : List Nat} (Z : Sk τ dom) (zb zL : Nat) (zx : Nat → Int32) (zs : Nat → Nat) (h : Nat) (x1 : Int) (t_h : τ h = some (34, 0, 0)) (r_x1 : -2147483648 ≤ x1 ∧ x1 ≤ 2147483647) (σ0 : Nat → va_E) (G0 : Good K τ σ0) : MZ l yX4_figure wp_Diary_figure ({ frames := 1, cells := 0, slots := 0, locals := 21 }) D (tysA K) [.ref h, .int (iI x1)] (fd dom σ0) zb zL zx zs (Qi D (fun r σ' => σ0 = σ' ∧ ∃ z : Int, r = iI z ∧ (-2147483648 ≤ z ∧ z ≤ 2147483647)) (fun σ' => fd dom σ')) 0 0 := by
  refine mz_of (cc := cX4_figure) (maxL := 2) (ret := (some .int)) (by decide +kernel) rfl (Nat.le_of_ble_eq_true rfl) ?_
  intro p e s m below meth c A B hr hlk _ hz
  exact b_Diary_figure ⟨Nat.le_refl _, Nat.le_refl _⟩ B Z hz h x1 t_h r_x1 σ0 G0 (fun z lv pc hZ hd => v_iret B hr hlk σ0 ⟨rfl, z, rfl, hZ⟩ rfl (Nat.le_refl _) (Nat.le_refl _) hd)

def wp_Diary_dropFirst : List Cond := .code yX4_dropFirst cX4_dropFirst 1 (some .boolean) :: (([.fieldLink RX4 29 "LowEnergy$Diary" "count" "I", .fieldLink RX4 36 "LowEnergy$Diary" "head" "I"] : List Cond) ++ (wsX40 ++ ([])))
theorem hi_Diary_dropFirst_X4 : ∀ x ∈ u_ws RX4 TX4 6, x ∈ wp_Diary_dropFirst := fun _ h => List.mem_cons_of_mem _ (List.mem_append_right _ (List.mem_append_left _ h))
set_option maxHeartbeats 4000000 in
set_option maxRecDepth 100000 in
theorem b_Diary_dropFirst {p : Program} {l : Launch} {e : Env} {R : Room} {s : State} {m : MethodId} {args : Array Value} {below : List Frame} {meth : Method} {c : Code} {D : va_G} {K : Nat → ClassId} {A : Nat → Prop} {Q : State → Prop} {τ : Nat → Option Ty} {dom : List Nat} {zb zL : Nat} {zx : Nat → Int32} {zs : Nat → Nat} (hR : 0 ≤ R.frames ∧ 0 ≤ R.locals) (B : Bx p s m args c cX4_dropFirst 1 RX4 wp_Diary_dropFirst D (tysA K) A) (Z : Sk τ dom) (hz : ZL zb zL zx zs A s s.heap) (h : Nat) (t_h : τ h = some (34, 0, 0)) (σ0 : Nat → va_E) (G0 : Good K τ σ0) (hend : ∀ (σ' : Nat → va_E) (z : Int) (lv : List (Nat × Value)) (pc : Nat), Good K τ σ' → Fr τ [(34, 0)] σ0 σ' → (0 ≤ z ∧ z ≤ 1) → decode cX4_dropFirst pc = .ok (.ireturn, 1) → V p l e R s m args below meth c 1 D A Q (0, 0) (fd dom σ') lv pc [.int (iI z)]) : V p l e R s m args below meth c 1 D A Q (0, 0) (fd dom σ0) [(0, .ref h)] 0 [] := by
  have F0 : Fr τ [(34, 0)] σ0 σ0 := Fr.rf
  refine v_aload_n B dX4_dropFirst_0 rfl rfl ?_
  obtain ⟨a1, a2, a3, z4, z5, z6, h7, t8, t9, t10, r11, r12, r13⟩ : okDiary τ (σ0 h) := G0 h _ t_h
  refine u_get B Z (C := RX4) (T := TX4) (N := 6) (ci := 4) hi_Diary_dropFirst_X4 t_h h7 rfl 4 (by decide +kernel) (List.mem_of_getElem? (i := 1) rfl) rfl dX4_dropFirst_1 ?_
  refine u_if_ne B (tgt := 9) (by omega) dX4_dropFirst_4 (by decide +kernel) (fun c14 => ?_) (fun c14 => ?_)
  · refine v_aload_n B dX4_dropFirst_9 rfl rfl ?_
    refine v_aload_n B dX4_dropFirst_10 rfl rfl ?_
    refine u_get B Z (C := RX4) (T := TX4) (N := 6) (ci := 4) hi_Diary_dropFirst_X4 t_h h7 rfl 3 (by decide +kernel) (List.mem_of_getElem? (i := 2) rfl) rfl dX4_dropFirst_11 ?_
    refine v_iconst B (v := iI 1) dX4_dropFirst_14 rfl ?_
    refine v_iadd B (v := iI (z4 + 1)) dX4_dropFirst_15 ((iI_add _ _).trans (congrArg iI (by omega))) ?_
    refine v_bipush B (v := iI 32) dX4_dropFirst_16 (by decide +kernel) ?_
    obtain ⟨z15, e16⟩ : ∃ z : Int, z = (z4 + 1) % 32 := ⟨_, rfl⟩
    refine v_irem B (v := iI z15) dX4_dropFirst_18 (fun q => absurd ((iI_eq (a := 32) (b := 0) (by omega) (by omega)).mp q) (by omega)) ((iI_rem (a := (z4 + 1)) (b := 32) (by omega) (by omega)).trans (congrArg iI e16.symm)) ?_
    refine u_put B Z (C := RX4) (T := TX4) (N := 6) (ci := 4) hi_Diary_dropFirst_X4 t_h h7 rfl 3 (by decide +kernel) tyX4 tyX4_ok nmX4 (List.mem_of_getElem? (i := 2) rfl) rfl (ty := .int) (tyX4_ok 3 (by decide +kernel)) rfl rfl (Nat.le_of_ble_eq_true rfl) (fs' := [.ref a1, .ref a2, .ref a3, .int (iI z15), .int (iI z5), .int (iI z6)]) rfl dX4_dropFirst_19 (fun σ17 h18 n19 => ?_)
    have G20 := G0.put t_h (⟨a1, a2, a3, z15, z5, z6, h18, t8, t9, t10, ⟨by omega, by omega⟩, ⟨by omega, by omega⟩, ⟨by omega, by omega⟩⟩ : Ok K τ (34, 0, 0) (σ17 h)) n19
    have F21 := F0.put t_h (by simp) n19
    refine v_aload_n B dX4_dropFirst_22 rfl rfl ?_
    refine v_dup B dX4_dropFirst_23 rfl ?_
    refine u_get B Z (C := RX4) (T := TX4) (N := 6) (ci := 4) hi_Diary_dropFirst_X4 t_h h18 rfl 4 (by decide +kernel) (List.mem_of_getElem? (i := 1) rfl) rfl dX4_dropFirst_24 ?_
    refine v_iconst B (v := iI 1) dX4_dropFirst_27 rfl ?_
    refine v_isub B (v := iI (z5 + (-1))) dX4_dropFirst_28 ((iI_sub _ _).trans (congrArg iI (by omega))) ?_
    refine u_put B Z (C := RX4) (T := TX4) (N := 6) (ci := 4) hi_Diary_dropFirst_X4 t_h h18 rfl 4 (by decide +kernel) tyX4 tyX4_ok nmX4 (List.mem_of_getElem? (i := 1) rfl) rfl (ty := .int) (tyX4_ok 4 (by decide +kernel)) rfl rfl (Nat.le_of_ble_eq_true rfl) (fs' := [.ref a1, .ref a2, .ref a3, .int (iI z15), .int (iI (z5 + (-1))), .int (iI z6)]) rfl dX4_dropFirst_29 (fun σ22 h23 n24 => ?_)
    have G25 := G20.put t_h (⟨a1, a2, a3, z15, (z5 + (-1)), z6, h23, t8, t9, t10, ⟨by omega, by omega⟩, ⟨by omega, by omega⟩, ⟨by omega, by omega⟩⟩ : Ok K τ (34, 0, 0) (σ22 h)) n24
    have F26 := F21.put t_h (by simp) n24
    refine v_iconst B (v := iI 1) dX4_dropFirst_32 rfl ?_
    exact hend σ22 1 _ _ G25 F26 ⟨by omega, by omega⟩ dX4_dropFirst_33
  · refine v_iconst B (v := iI 0) dX4_dropFirst_7 rfl ?_
    exact hend σ0 0 _ _ G0 F0 ⟨by omega, by omega⟩ dX4_dropFirst_8
set_option maxRecDepth 100000 in
theorem c_Diary_dropFirst (l : Launch) (D : va_G) (K : Nat → ClassId) {τ : Nat → Option Ty} {dom : List Nat} (Z : Sk τ dom) (zb zL : Nat) (zx : Nat → Int32) (zs : Nat → Nat) (h : Nat) (t_h : τ h = some (34, 0, 0)) (σ0 : Nat → va_E) (G0 : Good K τ σ0) : MZ l yX4_dropFirst wp_Diary_dropFirst ({ frames := 0, cells := 0, slots := 0, locals := 0 }) D (tysA K) [.ref h] (fd dom σ0) zb zL zx zs (Qi D (fun r σ' => Good K τ σ' ∧ Fr τ [(34, 0)] σ0 σ' ∧ ∃ z : Int, r = iI z ∧ (0 ≤ z ∧ z ≤ 1)) (fun σ' => fd dom σ')) 0 0 := by
  refine mz_of (cc := cX4_dropFirst) (maxL := 1) (ret := (some .boolean)) (by decide +kernel) rfl (Nat.le_of_ble_eq_true rfl) ?_
  intro p e s m below meth c A B hr hlk _ hz
  exact b_Diary_dropFirst ⟨Nat.le_refl _, Nat.le_refl _⟩ B Z hz h t_h σ0 G0 (fun σ' z lv pc G F hZ hd => v_zret B hr hlk (nar01 (by omega)) σ' ⟨G, F, z, rfl, hZ⟩ rfl (Nat.le_refl _) (Nat.le_refl _) hd)
