theorem sh37 (x : Int64) : ((x.toUInt64 >>> ((37 : Int32).toInt64.toUInt64 &&& Int64.toUInt64 63)).toInt64 = 0) ↔ (¬ x < 0 ∧ x < 137438953472) := by
  have e : ((37 : Int32).toInt64.toUInt64 &&& Int64.toUInt64 63) = (37 : UInt64) := by decide +kernel
  rw [e, Int64.lt_iff_toInt_lt, Int64.lt_iff_toInt_lt]
  have z : (0 : Int64).toInt = 0 := by decide +kernel
  have k : (137438953472 : Int64).toInt = 137438953472 := by decide +kernel
  rw [z, k]
  have h1 : ((x.toUInt64 >>> 37).toInt64 = 0) ↔ x.toUInt64 >>> 37 = 0 := by
    constructor
    · intro h
      have := congrArg Int64.toUInt64 h
      have e0 : Int64.toUInt64 0 = 0 := by decide +kernel
      rw [e0] at this
      simpa using this
    · intro h
      rw [h]; rfl
  rw [h1, ← UInt64.toNat_inj, UInt64.toNat_shiftRight, Nat.shiftRight_eq_div_pow]
  have k2 : (37 : UInt64).toNat % 64 = 37 := by decide +kernel
  have k3 : (0 : UInt64).toNat = 0 := by decide +kernel
  rw [k2, k3]
  have h2 : x.toInt = x.toBitVec.toInt := rfl
  have h3 : x.toUInt64.toNat = x.toBitVec.toNat := rfl
  rw [h2, h3, BitVec.toInt_eq_toNat_cond]
  have h4 := x.toBitVec.isLt
  rw [Nat.div_eq_zero_iff]
  split <;> omega
theorem lt2 (x : Int32) : (x ≤ 1) ↔ x < 2 := by
  rw [Int32.le_iff_toInt_le, Int32.lt_iff_toInt_lt]
  have e1 : (1 : Int32).toInt = 1 := by decide +kernel
  have e2 : (2 : Int32).toInt = 2 := by decide +kernel
  omega
theorem pm_lo {x : Int64} (h : lg_cmp x 0 < 0) : pmap x = 0 := by
  rw [lg_cmp_lt] at h
  have : ¬ (lg_cmp ((x).toUInt64 >>> ((37 : Int32).toInt64.toUInt64 &&& Int64.toUInt64 63)).toInt64 0 = 0) := by
    rw [lg_cmp_eq, sh37]
    exact fun q => q.1 h
  exact if_neg this
theorem pm_hi {x : Int64} (_h1 : ¬ lg_cmp x 0 < 0) (h : 0 ≤ lg_cmp x 137438953472) : pmap x = 0 := by
  rw [lg_cmp_ge] at h
  have : ¬ (lg_cmp ((x).toUInt64 >>> ((37 : Int32).toInt64.toUInt64 &&& Int64.toUInt64 63)).toInt64 0 = 0) := by
    rw [lg_cmp_eq, sh37]
    exact fun q => absurd q.2 (Int64.not_lt.mpr h)
  exact if_neg this
theorem pm_in {x : Int64} (h1 : ¬ lg_cmp x 0 < 0) (h2 : ¬ 0 ≤ lg_cmp x 137438953472) : lg_cmp ((x).toUInt64 >>> ((37 : Int32).toInt64.toUInt64 &&& Int64.toUInt64 63)).toInt64 0 = 0 := by
  rw [lg_cmp_lt] at h1
  rw [lg_cmp_ge] at h2
  rw [lg_cmp_eq, sh37]
  exact ⟨h1, Int64.not_le.mp h2⟩
theorem pm_bc {x : Int64} (h1 : ¬ lg_cmp x 0 < 0) (h2 : ¬ 0 ≤ lg_cmp x 137438953472) (h3 : bcf x ≤ 1) : pmap x = 0 :=
  (if_pos (pm_in h1 h2)).trans (if_pos ((lt2 _).mp h3))
theorem pm_ok {x : Int64} (h1 : ¬ lg_cmp x 0 < 0) (h2 : ¬ 0 ≤ lg_cmp x 137438953472) (h3 : ¬ bcf x ≤ 1) : pmap x = 1 :=
  (if_pos (pm_in h1 h2)).trans (if_neg (fun q => h3 ((lt2 _).mpr q)))

def wp_m_isMap : List Cond := .code yX12_isMap cX12_isMap 2 (some .boolean) :: ([.constantLong RX12 396 (137438953472), .methodLink RX12 398 yJ13_bitCount_95d88, .static yJ13_bitCount_95d88, .initialized RJ13, .code yJ13_bitCount_95d88 cJ13_bitCount_95d88 2 (some .int), .constantLong RJ13 314 (6148914691236517205), .constantLong RJ13 316 (3689348814741910323), .constantLong RJ13 318 (1085102592571150095)] ++ ([]))
set_option maxRecDepth 100000 in
theorem gd_m_isMap_j_bitCount_398 : GoodIn wp_m_isMap (va_wsS RX12 398 yJ13_bitCount_95d88 wp_j_bitCount) := goodIn_app (goodIn_r _ [2, 3, 4] rfl rfl) (goodIn_ca (goodIn_r _ [5, 6, 7, 8] rfl rfl) (goodIn_nil))
set_option maxHeartbeats 4000000 in
set_option maxRecDepth 100000 in
theorem m_isMap (l : Launch) (D : va_G) (K : Nat → ClassId) (x : Int64) : MG l yX12_isMap wp_m_isMap ({ frames := 1, cells := 0, slots := 0, locals := 21 }) D (tysA K) [.long x] [] (Qi D (fun (r : Int32) (_ : Unit) => r = pmap x) (fun _ => [])) 0 0 := by
  refine mg_of (cc := cX12_isMap) (maxL := 2) (ret := (some .boolean)) (by decide +kernel) rfl (Nat.le_of_ble_eq_true rfl) ?_
  intro p e s m below meth c A B hr hlk hnam
  show V _ _ _ _ _ _ _ _ _ _ _ _ _ _ _ _ [(0, .long x)] _ _
  refine v_lload_n B dX12_isMap_0 rfl rfl ?_
  refine v_lconst B (v := 0) dX12_isMap_1 (by decide +kernel) ?_
  refine v_lcmp B (v := (lg_cmp x 0)) dX12_isMap_2 rfl ?_
  refine v_if_lt B (tgt := 26) dX12_isMap_3 (by decide +kernel) (fun c_1 => ?_) (fun c_1 => ?_)
  · refine v_iconst B (v := 0) dX12_isMap_26 (by decide +kernel) ?_
    exact v_zret B hr hlk (by decide +kernel) () (pm_lo c_1).symm rfl (by decide +kernel) (by decide +kernel) dX12_isMap_27
  · refine v_lload_n B dX12_isMap_6 rfl rfl ?_
    refine v_ldc2 B (v := 137438953472) (List.mem_of_getElem? (i := 1) rfl) dX12_isMap_7 ?_
    refine v_lcmp B (v := (lg_cmp x 137438953472)) dX12_isMap_10 rfl ?_
    refine v_if_ge B (tgt := 26) dX12_isMap_11 (by decide +kernel) (fun c_2 => ?_) (fun c_2 => ?_)
    · refine v_iconst B (v := 0) dX12_isMap_26 (by decide +kernel) ?_
      exact v_zret B hr hlk (by decide +kernel) () (pm_hi c_1 c_2).symm rfl (by decide +kernel) (by decide +kernel) dX12_isMap_27
    · refine v_lload_n B dX12_isMap_14 rfl rfl ?_
      refine v_callSi B (n := 1) (As := [.long x]) (rest := []) (wc := []) (wr := []) (j_bitCount l D K x) gd_m_isMap_j_bitCount_398 rfl rfl rfl (by decide +kernel) ⟨by decide +kernel, by decide +kernel⟩ (sp_pl [] [] rfl rfl rfl rfl rfl) rfl rfl (Nat.le_of_ble_eq_true rfl) dX12_isMap_15 ⟨by decide +kernel, by decide +kernel⟩ (fun r_5 u_3 hp_4 => ?_)
      subst hp_4
      show V _ _ _ _ _ _ _ _ _ _ _ _ _ _ (0, 0) [] _ _ [.int (bcf x)]
      show V _ _ _ _ _ _ _ _ _ _ _ _ _ _ (0, 0) [] _ _ _
      refine v_iconst B (v := 1) dX12_isMap_18 (by decide +kernel) ?_
      refine v_icmp_le B (tgt := 26) dX12_isMap_19 (by decide +kernel) (fun c_6 => ?_) (fun c_6 => ?_)
      · refine v_iconst B (v := 0) dX12_isMap_26 (by decide +kernel) ?_
        exact v_zret B hr hlk (by decide +kernel) () (pm_bc c_1 c_2 c_6).symm rfl (by decide +kernel) (by decide +kernel) dX12_isMap_27
      · refine v_iconst B (v := 1) dX12_isMap_22 (by decide +kernel) ?_
        refine v_goto B (tgt := 27) dX12_isMap_23 (by decide +kernel) ?_
        exact v_zret B hr hlk (by decide +kernel) () (pm_ok c_1 c_2 c_6).symm rfl (by decide +kernel) (by decide +kernel) dX12_isMap_27

def wp_y_connect : List Cond := .code yX12_connect cX12_connect 9 (some .boolean) :: ([.fieldLink RX12 1 "LowEnergyModel" "thrown" "I", .methodLink RX12 678 yX12_isStandby, .instanceMethod yX12_isStandby, .selects RX12 yX12_isStandby yX12_isStandby, .initialized RX12, .code yX12_isStandby cX12_isStandby 2 (some .boolean), .methodLink RX12 413 yX12_in, .static yX12_in, .code yX12_in cX12_in 2 (some .boolean), .fieldLink RX12 45 "LowEnergyModel" "state" "[I", .methodLink RX12 497 yX12_isMap, .static yX12_isMap, .code yX12_isMap cX12_isMap 2 (some .boolean), .constantLong RX12 396 (137438953472), .methodLink RX12 398 yJ13_bitCount_95d88, .static yJ13_bitCount_95d88, .initialized RJ13, .code yJ13_bitCount_95d88 cJ13_bitCount_95d88 2 (some .int), .constantLong RJ13 314 (6148914691236517205), .constantLong RJ13 316 (3689348814741910323), .constantLong RJ13 318 (1085102592571150095), .fieldLink RX12 67 "LowEnergyModel" "wanted" "[J", .constantLong RX12 389 (281474976710655), .fieldLink RX12 51 "LowEnergyModel" "interval" "[I", .fieldLink RX12 103 "LowEnergyModel" "timeout" "[I", .fieldLink RX12 106 "LowEnergyModel" "hop" "[I", .fieldLink RX12 70 "LowEnergyModel" "map" "[J"] ++ (wsX120 ++ ([])))
theorem hi_y_connect_X12 : ∀ x ∈ u_ws RX12 TX12 123, x ∈ wp_y_connect := fun _ h => List.mem_cons_of_mem _ (List.mem_append_right _ (List.mem_append_left _ h))
set_option maxRecDepth 100000 in
theorem gd_y_connect_m_isStandby_0_678 : GoodIn wp_y_connect (wsV RX12 678 RX12 yX12_isStandby wp_m_isStandby_0) := goodIn_app (goodIn_r _ [2, 3, 4, 5] rfl rfl) (goodIn_ca (goodIn_r _ [6, 7, 8, 5, 9, 10] rfl rfl) (goodIn_app (goodIn_cls hi_y_connect_X12 gw_X12) (goodIn_nil)))
set_option maxRecDepth 100000 in
theorem gd_y_connect_m_isMap_497 : GoodIn wp_y_connect (va_wsS RX12 497 yX12_isMap wp_m_isMap) := goodIn_app (goodIn_r _ [11, 12, 5] rfl rfl) (goodIn_ca (goodIn_r _ [13, 14, 15, 16, 17, 18, 19, 20, 21] rfl rfl) (goodIn_nil))
set_option maxRecDepth 100000 in
theorem gd_y_connect_m_isStandby_1_678 : GoodIn wp_y_connect (wsV RX12 678 RX12 yX12_isStandby wp_m_isStandby_1) := goodIn_app (goodIn_r _ [2, 3, 4, 5] rfl rfl) (goodIn_ca (goodIn_r _ [6, 7, 8, 5, 9, 10] rfl rfl) (goodIn_app (goodIn_cls hi_y_connect_X12 gw_X12) (goodIn_nil)))
set_option maxRecDepth 100000 in
theorem gd_y_connect_m_isStandby_n_678 : GoodIn wp_y_connect (wsV RX12 678 RX12 yX12_isStandby wp_m_isStandby_n) := goodIn_app (goodIn_r _ [2, 3, 4, 5] rfl rfl) (goodIn_ca (goodIn_r _ [6, 7, 8, 5, 9] rfl rfl) (goodIn_nil))
set_option maxHeartbeats 4000000 in
set_option maxRecDepth 100000 in
theorem y_connect (l : Launch) (D : va_G) (K : Nat → ClassId) (h : Nat) (q : Nat → Nat) (fa : Int64) (sa : Int64) (d : Int32) (ax : Int64) (iv : Int32) (to : Int32) (hp : Int32) (x : Int64) : MG l yX12_connect wp_y_connect ({ frames := 2, cells := 0, slots := 0, locals := 42 }) D (tysA K) [.ref h, .int d, .long ax, .int iv, .int to, .int hp, .long x] [(h, .inr (12, fsM q 0 0 0 0 0)), ((q 7), .inl (K 0, 2, .inl (gl [0, 0]))), ((q 14), .inl (K 1, 2, .inr (.inl (glL [0, 0])))), ((q 9), .inl (K 0, 2, .inl (gl [0, 0]))), ((q 26), .inl (K 0, 2, .inl (gl [0, 0]))), ((q 27), .inl (K 0, 2, .inl (gl [0, 0]))), ((q 15), .inl (K 1, 2, .inr (.inl (glL [0, 0]))))] (Qi D (fun (r : Int32) (_ : Unit) => r = an_connect d ax iv to hp x) (fun _ => [])) 0 0 := by
  refine mg_of (cc := cX12_connect) (maxL := 9) (ret := (some .boolean)) (by decide +kernel) rfl (Nat.le_of_ble_eq_true rfl) ?_
  intro p e s m below meth c A B hr hlk hnam
  show V _ _ _ _ _ _ _ _ _ _ _ _ _ _ _ _ [(0, .ref h), (1, .int d), (2, .long ax), (4, .int iv), (5, .int to), (6, .int hp), (7, .long x)] _ _
  by_cases h0 : d = 0
  · subst h0
    refine v_aload_n B dX12_connect_0 rfl rfl ?_
    refine v_iconst B (v := 0) dX12_connect_1 (by decide +kernel) ?_
    refine v_put B (C := RX12) (T := TX12) (N := 123) (ci := 12) (k0 := 0) hi_y_connect_X12 rfl rfl 0 (by decide +kernel) tyX12 tyX12_ok nmX12 (List.mem_of_getElem? (i := 1) rfl) rfl (ty := .int) (tyX12_ok 0 (by decide +kernel)) rfl rfl (Nat.le_of_ble_eq_true rfl) (w' := [(h, .inr (12, fsM q 0 0 0 0 0)), ((q 7), .inl (K 0, 2, .inl (gl [0, 0]))), ((q 14), .inl (K 1, 2, .inr (.inl (glL [0, 0])))), ((q 9), .inl (K 0, 2, .inl (gl [0, 0]))), ((q 26), .inl (K 0, 2, .inl (gl [0, 0]))), ((q 27), .inl (K 0, 2, .inl (gl [0, 0]))), ((q 15), .inl (K 1, 2, .inr (.inl (glL [0, 0]))))]) rfl dX12_connect_2 ?_
    refine v_aload_n B dX12_connect_5 rfl rfl ?_
    refine v_iload_n B dX12_connect_6 rfl rfl ?_
    refine v_callVi B (b := h) (n := 1) (As := [.int 0]) (rest := []) (wc := [(h, .inr (12, fsM q 0 0 0 0 0)), ((q 7), .inl (K 0, 2, .inl (gl [0, 0])))]) (wr := [((q 14), .inl (K 1, 2, .inr (.inl (glL [0, 0])))), ((q 9), .inl (K 0, 2, .inl (gl [0, 0]))), ((q 26), .inl (K 0, 2, .inl (gl [0, 0]))), ((q 27), .inl (K 0, 2, .inl (gl [0, 0]))), ((q 15), .inl (K 1, 2, .inr (.inl (glL [0, 0]))))]) (m_isStandby_0 l D K h q fa sa) gd_y_connect_m_isStandby_0_678 rfl rfl rfl (by decide +kernel) ⟨by decide +kernel, by decide +kernel⟩ 0 rfl rfl rfl (sp_pl [0, 1] [2, 3, 4, 5, 6] rfl rfl rfl rfl rfl) rfl rfl (Nat.le_of_ble_eq_true rfl) dX12_connect_7 ⟨by decide +kernel, by decide +kernel⟩ (fun r_3 u_1 hp_2 => ?_)
    subst hp_2
    show V _ _ _ _ _ _ _ _ _ _ _ _ _ _ (0, 0) [((q 14), .inl (K 1, 2, .inr (.inl (glL [0, 0])))), ((q 9), .inl (K 0, 2, .inl (gl [0, 0]))), ((q 26), .inl (K 0, 2, .inl (gl [0, 0]))), ((q 27), .inl (K 0, 2, .inl (gl [0, 0]))), ((q 15), .inl (K 1, 2, .inr (.inl (glL [0, 0])))), (h, .inr (12, fsM q 0 0 0 0 0)), ((q 7), .inl (K 0, 2, .inl (gl [0, 0])))] _ _ [.int 1]
    show V _ _ _ _ _ _ _ _ _ _ _ _ _ _ (0, 0) [((q 14), .inl (K 1, 2, .inr (.inl (glL [0, 0])))), ((q 9), .inl (K 0, 2, .inl (gl [0, 0]))), ((q 26), .inl (K 0, 2, .inl (gl [0, 0]))), ((q 27), .inl (K 0, 2, .inl (gl [0, 0]))), ((q 15), .inl (K 1, 2, .inr (.inl (glL [0, 0])))), (h, .inr (12, fsM q 0 0 0 0 0)), ((q 7), .inl (K 0, 2, .inl (gl [0, 0])))] _ _ _
    refine v_if_eq B (tgt := 62) dX12_connect_10 (by decide +kernel) (fun h => absurd h (by decide +kernel)) (fun _ => ?_)
    refine v_iload B dX12_connect_13 rfl ?_
    refine v_iconst B (v := 2) dX12_connect_15 (by decide +kernel) ?_
    refine v_icmp_lt B (tgt := 62) dX12_connect_16 (by decide +kernel) (fun c_4 => ?_) (fun c_4 => ?_)
    · refine v_iconst B (v := 0) dX12_connect_62 (by decide +kernel) ?_
      refine v_forget (wc := []) (wr := []) (sp_pl [] [] rfl rfl rfl rfl rfl) ?_
      exact v_zret B hr hlk (by decide +kernel) () (by simp [an_connect, proper, c_4]) rfl (by decide +kernel) (by decide +kernel) dX12_connect_63
    · refine v_iload B dX12_connect_19 rfl ?_
      refine v_bipush B (v := 50) dX12_connect_21 (by decide +kernel) ?_
      refine v_icmp_gt B (tgt := 62) dX12_connect_23 (by decide +kernel) (fun c_5 => ?_) (fun c_5 => ?_)
      · refine v_iconst B (v := 0) dX12_connect_62 (by decide +kernel) ?_
        refine v_forget (wc := []) (wr := []) (sp_pl [] [] rfl rfl rfl rfl rfl) ?_
        exact v_zret B hr hlk (by decide +kernel) () (by simp [an_connect, proper, c_4, c_5]) rfl (by decide +kernel) (by decide +kernel) dX12_connect_63
      · refine v_iload B dX12_connect_26 rfl ?_
        refine v_bipush B (v := 10) dX12_connect_28 (by decide +kernel) ?_
        refine v_icmp_lt B (tgt := 62) dX12_connect_30 (by decide +kernel) (fun c_6 => ?_) (fun c_6 => ?_)
        · refine v_iconst B (v := 0) dX12_connect_62 (by decide +kernel) ?_
          refine v_forget (wc := []) (wr := []) (sp_pl [] [] rfl rfl rfl rfl rfl) ?_
          exact v_zret B hr hlk (by decide +kernel) () (by simp [an_connect, proper, c_4, c_5, c_6]) rfl (by decide +kernel) (by decide +kernel) dX12_connect_63
        · refine v_iload B dX12_connect_33 rfl ?_
          refine v_sipush B (v := 2000) dX12_connect_35 (by decide +kernel) ?_
          refine v_icmp_gt B (tgt := 62) dX12_connect_38 (by decide +kernel) (fun c_7 => ?_) (fun c_7 => ?_)
          · refine v_iconst B (v := 0) dX12_connect_62 (by decide +kernel) ?_
            refine v_forget (wc := []) (wr := []) (sp_pl [] [] rfl rfl rfl rfl rfl) ?_
            exact v_zret B hr hlk (by decide +kernel) () (by simp [an_connect, proper, c_4, c_5, c_6, c_7]) rfl (by decide +kernel) (by decide +kernel) dX12_connect_63
          · refine v_iload B dX12_connect_41 rfl ?_
            refine v_iconst B (v := 5) dX12_connect_43 (by decide +kernel) ?_
            refine v_icmp_lt B (tgt := 62) dX12_connect_44 (by decide +kernel) (fun c_8 => ?_) (fun c_8 => ?_)
            · refine v_iconst B (v := 0) dX12_connect_62 (by decide +kernel) ?_
              refine v_forget (wc := []) (wr := []) (sp_pl [] [] rfl rfl rfl rfl rfl) ?_
              exact v_zret B hr hlk (by decide +kernel) () (by simp [an_connect, proper, c_4, c_5, c_6, c_7, c_8]) rfl (by decide +kernel) (by decide +kernel) dX12_connect_63
            · refine v_iload B dX12_connect_47 rfl ?_
              refine v_bipush B (v := 16) dX12_connect_49 (by decide +kernel) ?_
              refine v_icmp_gt B (tgt := 62) dX12_connect_51 (by decide +kernel) (fun c_9 => ?_) (fun c_9 => ?_)
              · refine v_iconst B (v := 0) dX12_connect_62 (by decide +kernel) ?_
                refine v_forget (wc := []) (wr := []) (sp_pl [] [] rfl rfl rfl rfl rfl) ?_
                exact v_zret B hr hlk (by decide +kernel) () (by simp [an_connect, proper, c_4, c_5, c_6, c_7, c_8, c_9]) rfl (by decide +kernel) (by decide +kernel) dX12_connect_63
              · refine v_lload B dX12_connect_54 rfl ?_
                refine v_callSi B (n := 1) (As := [.long x]) (rest := []) (wc := []) (wr := [((q 14), .inl (K 1, 2, .inr (.inl (glL [0, 0])))), ((q 9), .inl (K 0, 2, .inl (gl [0, 0]))), ((q 26), .inl (K 0, 2, .inl (gl [0, 0]))), ((q 27), .inl (K 0, 2, .inl (gl [0, 0]))), ((q 15), .inl (K 1, 2, .inr (.inl (glL [0, 0])))), (h, .inr (12, fsM q 0 0 0 0 0)), ((q 7), .inl (K 0, 2, .inl (gl [0, 0])))]) (m_isMap l D K x) gd_y_connect_m_isMap_497 rfl rfl rfl (by decide +kernel) ⟨by decide +kernel, by decide +kernel⟩ (sp_pl [] [0, 1, 2, 3, 4, 5, 6] rfl rfl rfl rfl rfl) rfl rfl (Nat.le_of_ble_eq_true rfl) dX12_connect_56 ⟨by decide +kernel, by decide +kernel⟩ (fun r_12 u_10 hp_11 => ?_)
                subst hp_11
                show V _ _ _ _ _ _ _ _ _ _ _ _ _ _ (0, 0) [((q 14), .inl (K 1, 2, .inr (.inl (glL [0, 0])))), ((q 9), .inl (K 0, 2, .inl (gl [0, 0]))), ((q 26), .inl (K 0, 2, .inl (gl [0, 0]))), ((q 27), .inl (K 0, 2, .inl (gl [0, 0]))), ((q 15), .inl (K 1, 2, .inr (.inl (glL [0, 0])))), (h, .inr (12, fsM q 0 0 0 0 0)), ((q 7), .inl (K 0, 2, .inl (gl [0, 0])))] _ _ [.int (pmap x)]
                show V _ _ _ _ _ _ _ _ _ _ _ _ _ _ (0, 0) [((q 14), .inl (K 1, 2, .inr (.inl (glL [0, 0])))), ((q 9), .inl (K 0, 2, .inl (gl [0, 0]))), ((q 26), .inl (K 0, 2, .inl (gl [0, 0]))), ((q 27), .inl (K 0, 2, .inl (gl [0, 0]))), ((q 15), .inl (K 1, 2, .inr (.inl (glL [0, 0])))), (h, .inr (12, fsM q 0 0 0 0 0)), ((q 7), .inl (K 0, 2, .inl (gl [0, 0])))] _ _ _
                refine v_if_ne B (tgt := 64) dX12_connect_59 (by decide +kernel) (fun c_13 => ?_) (fun c_13 => ?_)
                · refine v_aload_n B dX12_connect_64 rfl rfl ?_
                  refine v_get B (C := RX12) (T := TX12) (N := 123) (ci := 12) (k0 := 5) hi_y_connect_X12 rfl rfl 7 (by decide +kernel) (List.mem_of_getElem? (i := 10) rfl) rfl dX12_connect_65 ?_
                  refine v_iload_n B dX12_connect_68 rfl rfl ?_
                  refine v_iconst B (v := 3) dX12_connect_69 (by decide +kernel) ?_
                  refine v_iastL B (k0 := 6) (t0 := 0) (k := 0) (y := 3) (w' := [((q 14), .inl (K 1, 2, .inr (.inl (glL [0, 0])))), ((q 9), .inl (K 0, 2, .inl (gl [0, 0]))), ((q 26), .inl (K 0, 2, .inl (gl [0, 0]))), ((q 27), .inl (K 0, 2, .inl (gl [0, 0]))), ((q 15), .inl (K 1, 2, .inr (.inl (glL [0, 0])))), (h, .inr (12, fsM q 0 0 0 0 0)), ((q 7), .inl (K 0, 2, .inl (gl [3, 0])))]) rfl rfl (vpi (by decide +kernel)) (by decide +kernel) (Nat.le_of_ble_eq_true rfl) rfl rfl dX12_connect_70 ?_
                  refine v_aload_n B dX12_connect_71 rfl rfl ?_
                  refine v_get B (C := RX12) (T := TX12) (N := 123) (ci := 12) (k0 := 5) hi_y_connect_X12 rfl rfl 14 (by decide +kernel) (List.mem_of_getElem? (i := 22) rfl) rfl dX12_connect_72 ?_
                  refine v_iload_n B dX12_connect_75 rfl rfl ?_
                  refine v_lload_n B dX12_connect_76 rfl rfl ?_
                  refine v_ldc2 B (v := 281474976710655) (List.mem_of_getElem? (i := 23) rfl) dX12_connect_77 ?_
                  refine v_land B (v := (ax &&& 281474976710655)) dX12_connect_80 rfl ?_
                  refine v_lastL B (k0 := 0) (t0 := 1) (k := 0) (y := (ax &&& 281474976710655)) (w' := [((q 14), .inl (K 1, 2, .inr (.inl (glL [(ax &&& 281474976710655), 0])))), ((q 9), .inl (K 0, 2, .inl (gl [0, 0]))), ((q 26), .inl (K 0, 2, .inl (gl [0, 0]))), ((q 27), .inl (K 0, 2, .inl (gl [0, 0]))), ((q 15), .inl (K 1, 2, .inr (.inl (glL [0, 0])))), (h, .inr (12, fsM q 0 0 0 0 0)), ((q 7), .inl (K 0, 2, .inl (gl [3, 0])))]) rfl rfl (vpi (by decide +kernel)) (by decide +kernel) (Nat.le_of_ble_eq_true rfl) rfl rfl dX12_connect_81 ?_
                  refine v_aload_n B dX12_connect_82 rfl rfl ?_
                  refine v_get B (C := RX12) (T := TX12) (N := 123) (ci := 12) (k0 := 5) hi_y_connect_X12 rfl rfl 9 (by decide +kernel) (List.mem_of_getElem? (i := 24) rfl) rfl dX12_connect_83 ?_
                  refine v_iload_n B dX12_connect_86 rfl rfl ?_
                  refine v_iload B dX12_connect_87 rfl ?_
                  refine v_iastL B (k0 := 1) (t0 := 0) (k := 0) (y := iv) (w' := [((q 14), .inl (K 1, 2, .inr (.inl (glL [(ax &&& 281474976710655), 0])))), ((q 9), .inl (K 0, 2, .inl (gl [iv, 0]))), ((q 26), .inl (K 0, 2, .inl (gl [0, 0]))), ((q 27), .inl (K 0, 2, .inl (gl [0, 0]))), ((q 15), .inl (K 1, 2, .inr (.inl (glL [0, 0])))), (h, .inr (12, fsM q 0 0 0 0 0)), ((q 7), .inl (K 0, 2, .inl (gl [3, 0])))]) rfl rfl (vpi (by decide +kernel)) (by decide +kernel) (Nat.le_of_ble_eq_true rfl) rfl rfl dX12_connect_89 ?_
                  refine v_aload_n B dX12_connect_90 rfl rfl ?_
                  refine v_get B (C := RX12) (T := TX12) (N := 123) (ci := 12) (k0 := 5) hi_y_connect_X12 rfl rfl 26 (by decide +kernel) (List.mem_of_getElem? (i := 25) rfl) rfl dX12_connect_91 ?_
                  refine v_iload_n B dX12_connect_94 rfl rfl ?_
                  refine v_iload B dX12_connect_95 rfl ?_
                  refine v_iastL B (k0 := 2) (t0 := 0) (k := 0) (y := to) (w' := [((q 14), .inl (K 1, 2, .inr (.inl (glL [(ax &&& 281474976710655), 0])))), ((q 9), .inl (K 0, 2, .inl (gl [iv, 0]))), ((q 26), .inl (K 0, 2, .inl (gl [to, 0]))), ((q 27), .inl (K 0, 2, .inl (gl [0, 0]))), ((q 15), .inl (K 1, 2, .inr (.inl (glL [0, 0])))), (h, .inr (12, fsM q 0 0 0 0 0)), ((q 7), .inl (K 0, 2, .inl (gl [3, 0])))]) rfl rfl (vpi (by decide +kernel)) (by decide +kernel) (Nat.le_of_ble_eq_true rfl) rfl rfl dX12_connect_97 ?_
                  refine v_aload_n B dX12_connect_98 rfl rfl ?_
                  refine v_get B (C := RX12) (T := TX12) (N := 123) (ci := 12) (k0 := 5) hi_y_connect_X12 rfl rfl 27 (by decide +kernel) (List.mem_of_getElem? (i := 26) rfl) rfl dX12_connect_99 ?_
                  refine v_iload_n B dX12_connect_102 rfl rfl ?_
                  refine v_iload B dX12_connect_103 rfl ?_
                  refine v_iastL B (k0 := 3) (t0 := 0) (k := 0) (y := hp) (w' := [((q 14), .inl (K 1, 2, .inr (.inl (glL [(ax &&& 281474976710655), 0])))), ((q 9), .inl (K 0, 2, .inl (gl [iv, 0]))), ((q 26), .inl (K 0, 2, .inl (gl [to, 0]))), ((q 27), .inl (K 0, 2, .inl (gl [hp, 0]))), ((q 15), .inl (K 1, 2, .inr (.inl (glL [0, 0])))), (h, .inr (12, fsM q 0 0 0 0 0)), ((q 7), .inl (K 0, 2, .inl (gl [3, 0])))]) rfl rfl (vpi (by decide +kernel)) (by decide +kernel) (Nat.le_of_ble_eq_true rfl) rfl rfl dX12_connect_105 ?_
                  refine v_aload_n B dX12_connect_106 rfl rfl ?_
                  refine v_get B (C := RX12) (T := TX12) (N := 123) (ci := 12) (k0 := 5) hi_y_connect_X12 rfl rfl 15 (by decide +kernel) (List.mem_of_getElem? (i := 27) rfl) rfl dX12_connect_107 ?_
                  refine v_iload_n B dX12_connect_110 rfl rfl ?_
                  refine v_lload B dX12_connect_111 rfl ?_
                  refine v_lastL B (k0 := 4) (t0 := 1) (k := 0) (y := x) (w' := [((q 14), .inl (K 1, 2, .inr (.inl (glL [(ax &&& 281474976710655), 0])))), ((q 9), .inl (K 0, 2, .inl (gl [iv, 0]))), ((q 26), .inl (K 0, 2, .inl (gl [to, 0]))), ((q 27), .inl (K 0, 2, .inl (gl [hp, 0]))), ((q 15), .inl (K 1, 2, .inr (.inl (glL [x, 0])))), (h, .inr (12, fsM q 0 0 0 0 0)), ((q 7), .inl (K 0, 2, .inl (gl [3, 0])))]) rfl rfl (vpi (by decide +kernel)) (by decide +kernel) (Nat.le_of_ble_eq_true rfl) rfl rfl dX12_connect_113 ?_
                  refine v_iconst B (v := 1) dX12_connect_114 (by decide +kernel) ?_
                  refine v_forget (wc := []) (wr := []) (sp_pl [] [] rfl rfl rfl rfl rfl) ?_
                  exact v_zret B hr hlk (by decide +kernel) () (by simp [an_connect, proper, c_4, c_5, c_6, c_7, c_8, c_9, c_13]) rfl (by decide +kernel) (by decide +kernel) dX12_connect_115
                · refine v_iconst B (v := 0) dX12_connect_62 (by decide +kernel) ?_
                  refine v_forget (wc := []) (wr := []) (sp_pl [] [] rfl rfl rfl rfl rfl) ?_
                  exact v_zret B hr hlk (by decide +kernel) () (by simp [an_connect, proper, c_4, c_5, c_6, c_7, c_8, c_9, c_13]) rfl (by decide +kernel) (by decide +kernel) dX12_connect_63
  · skip
    by_cases h1 : d = 1
    · subst h1
      refine v_aload_n B dX12_connect_0 rfl rfl ?_
      refine v_iconst B (v := 0) dX12_connect_1 (by decide +kernel) ?_
      refine v_put B (C := RX12) (T := TX12) (N := 123) (ci := 12) (k0 := 0) hi_y_connect_X12 rfl rfl 0 (by decide +kernel) tyX12 tyX12_ok nmX12 (List.mem_of_getElem? (i := 1) rfl) rfl (ty := .int) (tyX12_ok 0 (by decide +kernel)) rfl rfl (Nat.le_of_ble_eq_true rfl) (w' := [(h, .inr (12, fsM q 0 0 0 0 0)), ((q 7), .inl (K 0, 2, .inl (gl [0, 0]))), ((q 14), .inl (K 1, 2, .inr (.inl (glL [0, 0])))), ((q 9), .inl (K 0, 2, .inl (gl [0, 0]))), ((q 26), .inl (K 0, 2, .inl (gl [0, 0]))), ((q 27), .inl (K 0, 2, .inl (gl [0, 0]))), ((q 15), .inl (K 1, 2, .inr (.inl (glL [0, 0]))))]) rfl dX12_connect_2 ?_
      refine v_aload_n B dX12_connect_5 rfl rfl ?_
      refine v_iload_n B dX12_connect_6 rfl rfl ?_
      refine v_callVi B (b := h) (n := 1) (As := [.int 1]) (rest := []) (wc := [(h, .inr (12, fsM q 0 0 0 0 0)), ((q 7), .inl (K 0, 2, .inl (gl [0, 0])))]) (wr := [((q 14), .inl (K 1, 2, .inr (.inl (glL [0, 0])))), ((q 9), .inl (K 0, 2, .inl (gl [0, 0]))), ((q 26), .inl (K 0, 2, .inl (gl [0, 0]))), ((q 27), .inl (K 0, 2, .inl (gl [0, 0]))), ((q 15), .inl (K 1, 2, .inr (.inl (glL [0, 0]))))]) (m_isStandby_1 l D K h q fa sa) gd_y_connect_m_isStandby_1_678 rfl rfl rfl (by decide +kernel) ⟨by decide +kernel, by decide +kernel⟩ 0 rfl rfl rfl (sp_pl [0, 1] [2, 3, 4, 5, 6] rfl rfl rfl rfl rfl) rfl rfl (Nat.le_of_ble_eq_true rfl) dX12_connect_7 ⟨by decide +kernel, by decide +kernel⟩ (fun r_16 u_14 hp_15 => ?_)
      subst hp_15
      show V _ _ _ _ _ _ _ _ _ _ _ _ _ _ (0, 0) [((q 14), .inl (K 1, 2, .inr (.inl (glL [0, 0])))), ((q 9), .inl (K 0, 2, .inl (gl [0, 0]))), ((q 26), .inl (K 0, 2, .inl (gl [0, 0]))), ((q 27), .inl (K 0, 2, .inl (gl [0, 0]))), ((q 15), .inl (K 1, 2, .inr (.inl (glL [0, 0])))), (h, .inr (12, fsM q 0 0 0 0 0)), ((q 7), .inl (K 0, 2, .inl (gl [0, 0])))] _ _ [.int 1]
      show V _ _ _ _ _ _ _ _ _ _ _ _ _ _ (0, 0) [((q 14), .inl (K 1, 2, .inr (.inl (glL [0, 0])))), ((q 9), .inl (K 0, 2, .inl (gl [0, 0]))), ((q 26), .inl (K 0, 2, .inl (gl [0, 0]))), ((q 27), .inl (K 0, 2, .inl (gl [0, 0]))), ((q 15), .inl (K 1, 2, .inr (.inl (glL [0, 0])))), (h, .inr (12, fsM q 0 0 0 0 0)), ((q 7), .inl (K 0, 2, .inl (gl [0, 0])))] _ _ _
      refine v_if_eq B (tgt := 62) dX12_connect_10 (by decide +kernel) (fun h => absurd h (by decide +kernel)) (fun _ => ?_)
      refine v_iload B dX12_connect_13 rfl ?_
      refine v_iconst B (v := 2) dX12_connect_15 (by decide +kernel) ?_
      refine v_icmp_lt B (tgt := 62) dX12_connect_16 (by decide +kernel) (fun c_17 => ?_) (fun c_17 => ?_)
      · refine v_iconst B (v := 0) dX12_connect_62 (by decide +kernel) ?_
        refine v_forget (wc := []) (wr := []) (sp_pl [] [] rfl rfl rfl rfl rfl) ?_
        exact v_zret B hr hlk (by decide +kernel) () (by simp [an_connect, proper, c_17]) rfl (by decide +kernel) (by decide +kernel) dX12_connect_63
      · refine v_iload B dX12_connect_19 rfl ?_
        refine v_bipush B (v := 50) dX12_connect_21 (by decide +kernel) ?_
        refine v_icmp_gt B (tgt := 62) dX12_connect_23 (by decide +kernel) (fun c_18 => ?_) (fun c_18 => ?_)
        · refine v_iconst B (v := 0) dX12_connect_62 (by decide +kernel) ?_
          refine v_forget (wc := []) (wr := []) (sp_pl [] [] rfl rfl rfl rfl rfl) ?_
          exact v_zret B hr hlk (by decide +kernel) () (by simp [an_connect, proper, c_17, c_18]) rfl (by decide +kernel) (by decide +kernel) dX12_connect_63
        · refine v_iload B dX12_connect_26 rfl ?_
          refine v_bipush B (v := 10) dX12_connect_28 (by decide +kernel) ?_
          refine v_icmp_lt B (tgt := 62) dX12_connect_30 (by decide +kernel) (fun c_19 => ?_) (fun c_19 => ?_)
          · refine v_iconst B (v := 0) dX12_connect_62 (by decide +kernel) ?_
            refine v_forget (wc := []) (wr := []) (sp_pl [] [] rfl rfl rfl rfl rfl) ?_
            exact v_zret B hr hlk (by decide +kernel) () (by simp [an_connect, proper, c_17, c_18, c_19]) rfl (by decide +kernel) (by decide +kernel) dX12_connect_63
          · refine v_iload B dX12_connect_33 rfl ?_
            refine v_sipush B (v := 2000) dX12_connect_35 (by decide +kernel) ?_
            refine v_icmp_gt B (tgt := 62) dX12_connect_38 (by decide +kernel) (fun c_20 => ?_) (fun c_20 => ?_)
            · refine v_iconst B (v := 0) dX12_connect_62 (by decide +kernel) ?_
              refine v_forget (wc := []) (wr := []) (sp_pl [] [] rfl rfl rfl rfl rfl) ?_
              exact v_zret B hr hlk (by decide +kernel) () (by simp [an_connect, proper, c_17, c_18, c_19, c_20]) rfl (by decide +kernel) (by decide +kernel) dX12_connect_63
            · refine v_iload B dX12_connect_41 rfl ?_
              refine v_iconst B (v := 5) dX12_connect_43 (by decide +kernel) ?_
              refine v_icmp_lt B (tgt := 62) dX12_connect_44 (by decide +kernel) (fun c_21 => ?_) (fun c_21 => ?_)
              · refine v_iconst B (v := 0) dX12_connect_62 (by decide +kernel) ?_
                refine v_forget (wc := []) (wr := []) (sp_pl [] [] rfl rfl rfl rfl rfl) ?_
                exact v_zret B hr hlk (by decide +kernel) () (by simp [an_connect, proper, c_17, c_18, c_19, c_20, c_21]) rfl (by decide +kernel) (by decide +kernel) dX12_connect_63
              · refine v_iload B dX12_connect_47 rfl ?_
                refine v_bipush B (v := 16) dX12_connect_49 (by decide +kernel) ?_
                refine v_icmp_gt B (tgt := 62) dX12_connect_51 (by decide +kernel) (fun c_22 => ?_) (fun c_22 => ?_)
                · refine v_iconst B (v := 0) dX12_connect_62 (by decide +kernel) ?_
                  refine v_forget (wc := []) (wr := []) (sp_pl [] [] rfl rfl rfl rfl rfl) ?_
                  exact v_zret B hr hlk (by decide +kernel) () (by simp [an_connect, proper, c_17, c_18, c_19, c_20, c_21, c_22]) rfl (by decide +kernel) (by decide +kernel) dX12_connect_63
                · refine v_lload B dX12_connect_54 rfl ?_
                  refine v_callSi B (n := 1) (As := [.long x]) (rest := []) (wc := []) (wr := [((q 14), .inl (K 1, 2, .inr (.inl (glL [0, 0])))), ((q 9), .inl (K 0, 2, .inl (gl [0, 0]))), ((q 26), .inl (K 0, 2, .inl (gl [0, 0]))), ((q 27), .inl (K 0, 2, .inl (gl [0, 0]))), ((q 15), .inl (K 1, 2, .inr (.inl (glL [0, 0])))), (h, .inr (12, fsM q 0 0 0 0 0)), ((q 7), .inl (K 0, 2, .inl (gl [0, 0])))]) (m_isMap l D K x) gd_y_connect_m_isMap_497 rfl rfl rfl (by decide +kernel) ⟨by decide +kernel, by decide +kernel⟩ (sp_pl [] [0, 1, 2, 3, 4, 5, 6] rfl rfl rfl rfl rfl) rfl rfl (Nat.le_of_ble_eq_true rfl) dX12_connect_56 ⟨by decide +kernel, by decide +kernel⟩ (fun r_25 u_23 hp_24 => ?_)
                  subst hp_24
                  show V _ _ _ _ _ _ _ _ _ _ _ _ _ _ (0, 0) [((q 14), .inl (K 1, 2, .inr (.inl (glL [0, 0])))), ((q 9), .inl (K 0, 2, .inl (gl [0, 0]))), ((q 26), .inl (K 0, 2, .inl (gl [0, 0]))), ((q 27), .inl (K 0, 2, .inl (gl [0, 0]))), ((q 15), .inl (K 1, 2, .inr (.inl (glL [0, 0])))), (h, .inr (12, fsM q 0 0 0 0 0)), ((q 7), .inl (K 0, 2, .inl (gl [0, 0])))] _ _ [.int (pmap x)]
                  show V _ _ _ _ _ _ _ _ _ _ _ _ _ _ (0, 0) [((q 14), .inl (K 1, 2, .inr (.inl (glL [0, 0])))), ((q 9), .inl (K 0, 2, .inl (gl [0, 0]))), ((q 26), .inl (K 0, 2, .inl (gl [0, 0]))), ((q 27), .inl (K 0, 2, .inl (gl [0, 0]))), ((q 15), .inl (K 1, 2, .inr (.inl (glL [0, 0])))), (h, .inr (12, fsM q 0 0 0 0 0)), ((q 7), .inl (K 0, 2, .inl (gl [0, 0])))] _ _ _
                  refine v_if_ne B (tgt := 64) dX12_connect_59 (by decide +kernel) (fun c_26 => ?_) (fun c_26 => ?_)
                  · refine v_aload_n B dX12_connect_64 rfl rfl ?_
                    refine v_get B (C := RX12) (T := TX12) (N := 123) (ci := 12) (k0 := 5) hi_y_connect_X12 rfl rfl 7 (by decide +kernel) (List.mem_of_getElem? (i := 10) rfl) rfl dX12_connect_65 ?_
                    refine v_iload_n B dX12_connect_68 rfl rfl ?_
                    refine v_iconst B (v := 3) dX12_connect_69 (by decide +kernel) ?_
                    refine v_iastL B (k0 := 6) (t0 := 0) (k := 1) (y := 3) (w' := [((q 14), .inl (K 1, 2, .inr (.inl (glL [0, 0])))), ((q 9), .inl (K 0, 2, .inl (gl [0, 0]))), ((q 26), .inl (K 0, 2, .inl (gl [0, 0]))), ((q 27), .inl (K 0, 2, .inl (gl [0, 0]))), ((q 15), .inl (K 1, 2, .inr (.inl (glL [0, 0])))), (h, .inr (12, fsM q 0 0 0 0 0)), ((q 7), .inl (K 0, 2, .inl (gl [0, 3])))]) rfl rfl (vpi (by decide +kernel)) (by decide +kernel) (Nat.le_of_ble_eq_true rfl) rfl rfl dX12_connect_70 ?_
                    refine v_aload_n B dX12_connect_71 rfl rfl ?_
                    refine v_get B (C := RX12) (T := TX12) (N := 123) (ci := 12) (k0 := 5) hi_y_connect_X12 rfl rfl 14 (by decide +kernel) (List.mem_of_getElem? (i := 22) rfl) rfl dX12_connect_72 ?_
                    refine v_iload_n B dX12_connect_75 rfl rfl ?_
                    refine v_lload_n B dX12_connect_76 rfl rfl ?_
                    refine v_ldc2 B (v := 281474976710655) (List.mem_of_getElem? (i := 23) rfl) dX12_connect_77 ?_
                    refine v_land B (v := (ax &&& 281474976710655)) dX12_connect_80 rfl ?_
                    refine v_lastL B (k0 := 0) (t0 := 1) (k := 1) (y := (ax &&& 281474976710655)) (w' := [((q 14), .inl (K 1, 2, .inr (.inl (glL [0, (ax &&& 281474976710655)])))), ((q 9), .inl (K 0, 2, .inl (gl [0, 0]))), ((q 26), .inl (K 0, 2, .inl (gl [0, 0]))), ((q 27), .inl (K 0, 2, .inl (gl [0, 0]))), ((q 15), .inl (K 1, 2, .inr (.inl (glL [0, 0])))), (h, .inr (12, fsM q 0 0 0 0 0)), ((q 7), .inl (K 0, 2, .inl (gl [0, 3])))]) rfl rfl (vpi (by decide +kernel)) (by decide +kernel) (Nat.le_of_ble_eq_true rfl) rfl rfl dX12_connect_81 ?_
                    refine v_aload_n B dX12_connect_82 rfl rfl ?_
                    refine v_get B (C := RX12) (T := TX12) (N := 123) (ci := 12) (k0 := 5) hi_y_connect_X12 rfl rfl 9 (by decide +kernel) (List.mem_of_getElem? (i := 24) rfl) rfl dX12_connect_83 ?_
                    refine v_iload_n B dX12_connect_86 rfl rfl ?_
                    refine v_iload B dX12_connect_87 rfl ?_
                    refine v_iastL B (k0 := 1) (t0 := 0) (k := 1) (y := iv) (w' := [((q 14), .inl (K 1, 2, .inr (.inl (glL [0, (ax &&& 281474976710655)])))), ((q 9), .inl (K 0, 2, .inl (gl [0, iv]))), ((q 26), .inl (K 0, 2, .inl (gl [0, 0]))), ((q 27), .inl (K 0, 2, .inl (gl [0, 0]))), ((q 15), .inl (K 1, 2, .inr (.inl (glL [0, 0])))), (h, .inr (12, fsM q 0 0 0 0 0)), ((q 7), .inl (K 0, 2, .inl (gl [0, 3])))]) rfl rfl (vpi (by decide +kernel)) (by decide +kernel) (Nat.le_of_ble_eq_true rfl) rfl rfl dX12_connect_89 ?_
                    refine v_aload_n B dX12_connect_90 rfl rfl ?_
                    refine v_get B (C := RX12) (T := TX12) (N := 123) (ci := 12) (k0 := 5) hi_y_connect_X12 rfl rfl 26 (by decide +kernel) (List.mem_of_getElem? (i := 25) rfl) rfl dX12_connect_91 ?_
                    refine v_iload_n B dX12_connect_94 rfl rfl ?_
                    refine v_iload B dX12_connect_95 rfl ?_
                    refine v_iastL B (k0 := 2) (t0 := 0) (k := 1) (y := to) (w' := [((q 14), .inl (K 1, 2, .inr (.inl (glL [0, (ax &&& 281474976710655)])))), ((q 9), .inl (K 0, 2, .inl (gl [0, iv]))), ((q 26), .inl (K 0, 2, .inl (gl [0, to]))), ((q 27), .inl (K 0, 2, .inl (gl [0, 0]))), ((q 15), .inl (K 1, 2, .inr (.inl (glL [0, 0])))), (h, .inr (12, fsM q 0 0 0 0 0)), ((q 7), .inl (K 0, 2, .inl (gl [0, 3])))]) rfl rfl (vpi (by decide +kernel)) (by decide +kernel) (Nat.le_of_ble_eq_true rfl) rfl rfl dX12_connect_97 ?_
                    refine v_aload_n B dX12_connect_98 rfl rfl ?_
                    refine v_get B (C := RX12) (T := TX12) (N := 123) (ci := 12) (k0 := 5) hi_y_connect_X12 rfl rfl 27 (by decide +kernel) (List.mem_of_getElem? (i := 26) rfl) rfl dX12_connect_99 ?_
                    refine v_iload_n B dX12_connect_102 rfl rfl ?_
                    refine v_iload B dX12_connect_103 rfl ?_
                    refine v_iastL B (k0 := 3) (t0 := 0) (k := 1) (y := hp) (w' := [((q 14), .inl (K 1, 2, .inr (.inl (glL [0, (ax &&& 281474976710655)])))), ((q 9), .inl (K 0, 2, .inl (gl [0, iv]))), ((q 26), .inl (K 0, 2, .inl (gl [0, to]))), ((q 27), .inl (K 0, 2, .inl (gl [0, hp]))), ((q 15), .inl (K 1, 2, .inr (.inl (glL [0, 0])))), (h, .inr (12, fsM q 0 0 0 0 0)), ((q 7), .inl (K 0, 2, .inl (gl [0, 3])))]) rfl rfl (vpi (by decide +kernel)) (by decide +kernel) (Nat.le_of_ble_eq_true rfl) rfl rfl dX12_connect_105 ?_
                    refine v_aload_n B dX12_connect_106 rfl rfl ?_
                    refine v_get B (C := RX12) (T := TX12) (N := 123) (ci := 12) (k0 := 5) hi_y_connect_X12 rfl rfl 15 (by decide +kernel) (List.mem_of_getElem? (i := 27) rfl) rfl dX12_connect_107 ?_
                    refine v_iload_n B dX12_connect_110 rfl rfl ?_
                    refine v_lload B dX12_connect_111 rfl ?_
                    refine v_lastL B (k0 := 4) (t0 := 1) (k := 1) (y := x) (w' := [((q 14), .inl (K 1, 2, .inr (.inl (glL [0, (ax &&& 281474976710655)])))), ((q 9), .inl (K 0, 2, .inl (gl [0, iv]))), ((q 26), .inl (K 0, 2, .inl (gl [0, to]))), ((q 27), .inl (K 0, 2, .inl (gl [0, hp]))), ((q 15), .inl (K 1, 2, .inr (.inl (glL [0, x])))), (h, .inr (12, fsM q 0 0 0 0 0)), ((q 7), .inl (K 0, 2, .inl (gl [0, 3])))]) rfl rfl (vpi (by decide +kernel)) (by decide +kernel) (Nat.le_of_ble_eq_true rfl) rfl rfl dX12_connect_113 ?_
                    refine v_iconst B (v := 1) dX12_connect_114 (by decide +kernel) ?_
                    refine v_forget (wc := []) (wr := []) (sp_pl [] [] rfl rfl rfl rfl rfl) ?_
                    exact v_zret B hr hlk (by decide +kernel) () (by simp [an_connect, proper, c_17, c_18, c_19, c_20, c_21, c_22, c_26]) rfl (by decide +kernel) (by decide +kernel) dX12_connect_115
                  · refine v_iconst B (v := 0) dX12_connect_62 (by decide +kernel) ?_
                    refine v_forget (wc := []) (wr := []) (sp_pl [] [] rfl rfl rfl rfl rfl) ?_
                    exact v_zret B hr hlk (by decide +kernel) () (by simp [an_connect, proper, c_17, c_18, c_19, c_20, c_21, c_22, c_26]) rfl (by decide +kernel) (by decide +kernel) dX12_connect_63
    · skip
      by_cases e1 : d < 0
      · skip
        refine v_aload_n B dX12_connect_0 rfl rfl ?_
        refine v_iconst B (v := 0) dX12_connect_1 (by decide +kernel) ?_
        refine v_put B (C := RX12) (T := TX12) (N := 123) (ci := 12) (k0 := 0) hi_y_connect_X12 rfl rfl 0 (by decide +kernel) tyX12 tyX12_ok nmX12 (List.mem_of_getElem? (i := 1) rfl) rfl (ty := .int) (tyX12_ok 0 (by decide +kernel)) rfl rfl (Nat.le_of_ble_eq_true rfl) (w' := [(h, .inr (12, fsM q 0 0 0 0 0)), ((q 7), .inl (K 0, 2, .inl (gl [0, 0]))), ((q 14), .inl (K 1, 2, .inr (.inl (glL [0, 0])))), ((q 9), .inl (K 0, 2, .inl (gl [0, 0]))), ((q 26), .inl (K 0, 2, .inl (gl [0, 0]))), ((q 27), .inl (K 0, 2, .inl (gl [0, 0]))), ((q 15), .inl (K 1, 2, .inr (.inl (glL [0, 0]))))]) rfl dX12_connect_2 ?_
        refine v_aload_n B dX12_connect_5 rfl rfl ?_
        refine v_iload_n B dX12_connect_6 rfl rfl ?_
        refine v_callVi B (b := h) (n := 1) (As := [.int d]) (rest := []) (wc := [(h, .inr (12, fsM q 0 0 0 0 0))]) (wr := [((q 7), .inl (K 0, 2, .inl (gl [0, 0]))), ((q 14), .inl (K 1, 2, .inr (.inl (glL [0, 0])))), ((q 9), .inl (K 0, 2, .inl (gl [0, 0]))), ((q 26), .inl (K 0, 2, .inl (gl [0, 0]))), ((q 27), .inl (K 0, 2, .inl (gl [0, 0]))), ((q 15), .inl (K 1, 2, .inr (.inl (glL [0, 0]))))]) (m_isStandby_n l D K h q fa sa d h0 h1) gd_y_connect_m_isStandby_n_678 rfl rfl rfl (by decide +kernel) ⟨by decide +kernel, by decide +kernel⟩ 0 rfl rfl rfl (sp_pl [0] [1, 2, 3, 4, 5, 6] rfl rfl rfl rfl rfl) rfl rfl (Nat.le_of_ble_eq_true rfl) dX12_connect_7 ⟨by decide +kernel, by decide +kernel⟩ (fun r_29 u_27 hp_28 => ?_)
        subst hp_28
        show V _ _ _ _ _ _ _ _ _ _ _ _ _ _ (0, 0) [((q 7), .inl (K 0, 2, .inl (gl [0, 0]))), ((q 14), .inl (K 1, 2, .inr (.inl (glL [0, 0])))), ((q 9), .inl (K 0, 2, .inl (gl [0, 0]))), ((q 26), .inl (K 0, 2, .inl (gl [0, 0]))), ((q 27), .inl (K 0, 2, .inl (gl [0, 0]))), ((q 15), .inl (K 1, 2, .inr (.inl (glL [0, 0])))), (h, .inr (12, fsM q 0 0 0 0 0))] _ _ [.int 0]
        show V _ _ _ _ _ _ _ _ _ _ _ _ _ _ (0, 0) [((q 7), .inl (K 0, 2, .inl (gl [0, 0]))), ((q 14), .inl (K 1, 2, .inr (.inl (glL [0, 0])))), ((q 9), .inl (K 0, 2, .inl (gl [0, 0]))), ((q 26), .inl (K 0, 2, .inl (gl [0, 0]))), ((q 27), .inl (K 0, 2, .inl (gl [0, 0]))), ((q 15), .inl (K 1, 2, .inr (.inl (glL [0, 0])))), (h, .inr (12, fsM q 0 0 0 0 0))] _ _ _
        refine v_if_eq B (tgt := 62) dX12_connect_10 (by decide +kernel) (fun _ => ?_) (fun h => absurd (by decide +kernel) h)
        refine v_iconst B (v := 0) dX12_connect_62 (by decide +kernel) ?_
        refine v_forget (wc := []) (wr := []) (sp_pl [] [] rfl rfl rfl rfl rfl) ?_
        exact v_zret B hr hlk (by decide +kernel) () (by simp [an_connect, proper, h0, h1]) rfl (by decide +kernel) (by decide +kernel) dX12_connect_63
      · skip
        refine v_aload_n B dX12_connect_0 rfl rfl ?_
        refine v_iconst B (v := 0) dX12_connect_1 (by decide +kernel) ?_
        refine v_put B (C := RX12) (T := TX12) (N := 123) (ci := 12) (k0 := 0) hi_y_connect_X12 rfl rfl 0 (by decide +kernel) tyX12 tyX12_ok nmX12 (List.mem_of_getElem? (i := 1) rfl) rfl (ty := .int) (tyX12_ok 0 (by decide +kernel)) rfl rfl (Nat.le_of_ble_eq_true rfl) (w' := [(h, .inr (12, fsM q 0 0 0 0 0)), ((q 7), .inl (K 0, 2, .inl (gl [0, 0]))), ((q 14), .inl (K 1, 2, .inr (.inl (glL [0, 0])))), ((q 9), .inl (K 0, 2, .inl (gl [0, 0]))), ((q 26), .inl (K 0, 2, .inl (gl [0, 0]))), ((q 27), .inl (K 0, 2, .inl (gl [0, 0]))), ((q 15), .inl (K 1, 2, .inr (.inl (glL [0, 0]))))]) rfl dX12_connect_2 ?_
        refine v_aload_n B dX12_connect_5 rfl rfl ?_
        refine v_iload_n B dX12_connect_6 rfl rfl ?_
        refine v_callVi B (b := h) (n := 1) (As := [.int d]) (rest := []) (wc := [(h, .inr (12, fsM q 0 0 0 0 0))]) (wr := [((q 7), .inl (K 0, 2, .inl (gl [0, 0]))), ((q 14), .inl (K 1, 2, .inr (.inl (glL [0, 0])))), ((q 9), .inl (K 0, 2, .inl (gl [0, 0]))), ((q 26), .inl (K 0, 2, .inl (gl [0, 0]))), ((q 27), .inl (K 0, 2, .inl (gl [0, 0]))), ((q 15), .inl (K 1, 2, .inr (.inl (glL [0, 0]))))]) (m_isStandby_n l D K h q fa sa d h0 h1) gd_y_connect_m_isStandby_n_678 rfl rfl rfl (by decide +kernel) ⟨by decide +kernel, by decide +kernel⟩ 0 rfl rfl rfl (sp_pl [0] [1, 2, 3, 4, 5, 6] rfl rfl rfl rfl rfl) rfl rfl (Nat.le_of_ble_eq_true rfl) dX12_connect_7 ⟨by decide +kernel, by decide +kernel⟩ (fun r_32 u_30 hp_31 => ?_)
        subst hp_31
        show V _ _ _ _ _ _ _ _ _ _ _ _ _ _ (0, 0) [((q 7), .inl (K 0, 2, .inl (gl [0, 0]))), ((q 14), .inl (K 1, 2, .inr (.inl (glL [0, 0])))), ((q 9), .inl (K 0, 2, .inl (gl [0, 0]))), ((q 26), .inl (K 0, 2, .inl (gl [0, 0]))), ((q 27), .inl (K 0, 2, .inl (gl [0, 0]))), ((q 15), .inl (K 1, 2, .inr (.inl (glL [0, 0])))), (h, .inr (12, fsM q 0 0 0 0 0))] _ _ [.int 0]
        show V _ _ _ _ _ _ _ _ _ _ _ _ _ _ (0, 0) [((q 7), .inl (K 0, 2, .inl (gl [0, 0]))), ((q 14), .inl (K 1, 2, .inr (.inl (glL [0, 0])))), ((q 9), .inl (K 0, 2, .inl (gl [0, 0]))), ((q 26), .inl (K 0, 2, .inl (gl [0, 0]))), ((q 27), .inl (K 0, 2, .inl (gl [0, 0]))), ((q 15), .inl (K 1, 2, .inr (.inl (glL [0, 0])))), (h, .inr (12, fsM q 0 0 0 0 0))] _ _ _
        refine v_if_eq B (tgt := 62) dX12_connect_10 (by decide +kernel) (fun _ => ?_) (fun h => absurd (by decide +kernel) h)
        refine v_iconst B (v := 0) dX12_connect_62 (by decide +kernel) ?_
        refine v_forget (wc := []) (wr := []) (sp_pl [] [] rfl rfl rfl rfl rfl) ?_
        exact v_zret B hr hlk (by decide +kernel) () (by simp [an_connect, proper, h0, h1]) rfl (by decide +kernel) (by decide +kernel) dX12_connect_63
