def wp_m_isHandle_0 : List Cond := .code yX12_isHandle cX12_isHandle 3 (some .boolean) :: ([.fieldLink RX12 320 "LowEnergyModel" "attributes" "[I"] ++ (wsX120 ++ ([])))
theorem hi_m_isHandle_0_X12 : ∀ x ∈ u_ws RX12 TX12 123, x ∈ wp_m_isHandle_0 := fun _ h => List.mem_cons_of_mem _ (List.mem_append_right _ (List.mem_append_left _ h))
set_option maxHeartbeats 4000000 in
set_option maxRecDepth 100000 in
theorem m_isHandle_0 (l : Launch) (D : va_G) (K : Nat → ClassId) (h : Nat) (q : Nat → Nat) (fa : Int64) (sa : Int64) (hd : Int32) : MG l yX12_isHandle wp_m_isHandle_0 ({ frames := 0, cells := 0, slots := 0, locals := 0 }) D (tysA K) [.ref h, .int 0, .int hd] [(h, .inr (12, fsM q 0 0 0 0 0)), ((q 100), .inl (K 0, 2, .inl (gl [0, 0])))] (Qi D (fun (r : Int32) (_ : Unit) => r = 0) (fun _ => [(h, .inr (12, fsM q 0 0 0 0 0)), ((q 100), .inl (K 0, 2, .inl (gl [0, 0])))])) 0 0 := by
  refine mg_of (cc := cX12_isHandle) (maxL := 3) (ret := (some .boolean)) (by decide +kernel) rfl (Nat.le_of_ble_eq_true rfl) ?_
  intro p e s m below meth c A B hr hlk hnam
  show V _ _ _ _ _ _ _ _ _ _ _ _ _ _ _ _ [(0, .ref h), (1, .int 0), (2, .int hd)] _ _
  refine v_iload_n B dX12_isHandle_0 rfl rfl ?_
  refine v_if_le B (tgt := 18) dX12_isHandle_1 (by decide +kernel) (fun c_1 => ?_) (fun c_1 => ?_)
  · refine v_iconst B (v := 0) dX12_isHandle_18 (by decide +kernel) ?_
    exact v_zret B hr hlk (by decide +kernel) () rfl rfl (by decide +kernel) (by decide +kernel) dX12_isHandle_19
  · refine v_iload_n B dX12_isHandle_4 rfl rfl ?_
    refine v_aload_n B dX12_isHandle_5 rfl rfl ?_
    refine v_get B (C := RX12) (T := TX12) (N := 123) (ci := 12) (k0 := 0) hi_m_isHandle_0_X12 rfl rfl 100 (by decide +kernel) (List.mem_of_getElem? (i := 1) rfl) rfl dX12_isHandle_6 ?_
    refine v_iload_n B dX12_isHandle_9 rfl rfl ?_
    refine v_iald B (k0 := 1) (t0 := 0) (v := 0) rfl rfl (vpi (by decide +kernel)) rfl dX12_isHandle_10 ?_
    refine v_icmp_gt B (tgt := 18) dX12_isHandle_11 (by decide +kernel) (fun _ => ?_) (fun h => absurd (Int32.not_le.mp c_1) h)
    refine v_iconst B (v := 0) dX12_isHandle_18 (by decide +kernel) ?_
    exact v_zret B hr hlk (by decide +kernel) () rfl rfl (by decide +kernel) (by decide +kernel) dX12_isHandle_19

def wp_m_isHandle_1 : List Cond := .code yX12_isHandle cX12_isHandle 3 (some .boolean) :: ([.fieldLink RX12 320 "LowEnergyModel" "attributes" "[I"] ++ (wsX120 ++ ([])))
theorem hi_m_isHandle_1_X12 : ∀ x ∈ u_ws RX12 TX12 123, x ∈ wp_m_isHandle_1 := fun _ h => List.mem_cons_of_mem _ (List.mem_append_right _ (List.mem_append_left _ h))
set_option maxHeartbeats 4000000 in
set_option maxRecDepth 100000 in
theorem m_isHandle_1 (l : Launch) (D : va_G) (K : Nat → ClassId) (h : Nat) (q : Nat → Nat) (fa : Int64) (sa : Int64) (hd : Int32) : MG l yX12_isHandle wp_m_isHandle_1 ({ frames := 0, cells := 0, slots := 0, locals := 0 }) D (tysA K) [.ref h, .int 1, .int hd] [(h, .inr (12, fsM q 0 0 0 0 0)), ((q 100), .inl (K 0, 2, .inl (gl [0, 0])))] (Qi D (fun (r : Int32) (_ : Unit) => r = 0) (fun _ => [(h, .inr (12, fsM q 0 0 0 0 0)), ((q 100), .inl (K 0, 2, .inl (gl [0, 0])))])) 0 0 := by
  refine mg_of (cc := cX12_isHandle) (maxL := 3) (ret := (some .boolean)) (by decide +kernel) rfl (Nat.le_of_ble_eq_true rfl) ?_
  intro p e s m below meth c A B hr hlk hnam
  show V _ _ _ _ _ _ _ _ _ _ _ _ _ _ _ _ [(0, .ref h), (1, .int 1), (2, .int hd)] _ _
  refine v_iload_n B dX12_isHandle_0 rfl rfl ?_
  refine v_if_le B (tgt := 18) dX12_isHandle_1 (by decide +kernel) (fun c_1 => ?_) (fun c_1 => ?_)
  · refine v_iconst B (v := 0) dX12_isHandle_18 (by decide +kernel) ?_
    exact v_zret B hr hlk (by decide +kernel) () rfl rfl (by decide +kernel) (by decide +kernel) dX12_isHandle_19
  · refine v_iload_n B dX12_isHandle_4 rfl rfl ?_
    refine v_aload_n B dX12_isHandle_5 rfl rfl ?_
    refine v_get B (C := RX12) (T := TX12) (N := 123) (ci := 12) (k0 := 0) hi_m_isHandle_1_X12 rfl rfl 100 (by decide +kernel) (List.mem_of_getElem? (i := 1) rfl) rfl dX12_isHandle_6 ?_
    refine v_iload_n B dX12_isHandle_9 rfl rfl ?_
    refine v_iald B (k0 := 1) (t0 := 0) (v := 0) rfl rfl (vpi (by decide +kernel)) rfl dX12_isHandle_10 ?_
    refine v_icmp_gt B (tgt := 18) dX12_isHandle_11 (by decide +kernel) (fun _ => ?_) (fun h => absurd (Int32.not_le.mp c_1) h)
    refine v_iconst B (v := 0) dX12_isHandle_18 (by decide +kernel) ?_
    exact v_zret B hr hlk (by decide +kernel) () rfl rfl (by decide +kernel) (by decide +kernel) dX12_isHandle_19

theorem rg_ge1 {n : Int32} (h : ¬ n ≤ 0) : 1 ≤ n := by
  rw [Int32.le_iff_toInt_le] at *
  have e1 : (1 : Int32).toInt = 1 := by decide +kernel
  have e0 : (0 : Int32).toInt = 0 := by decide +kernel
  omega
def wp_y_set : List Cond := .code yX12_set cX12_set 3 (some .boolean) :: ([.fieldLink RX12 1 "LowEnergyModel" "thrown" "I", .methodLink RX12 413 yX12_in, .static yX12_in, .initialized RX12, .code yX12_in cX12_in 2 (some .boolean), .methodLink RX12 567 yX12_isHandle, .instanceMethod yX12_isHandle, .selects RX12 yX12_isHandle yX12_isHandle, .code yX12_isHandle cX12_isHandle 3 (some .boolean), .fieldLink RX12 320 "LowEnergyModel" "attributes" "[I"] ++ (wsX120 ++ ([])))
theorem hi_y_set_X12 : ∀ x ∈ u_ws RX12 TX12 123, x ∈ wp_y_set := fun _ h => List.mem_cons_of_mem _ (List.mem_append_right _ (List.mem_append_left _ h))
set_option maxRecDepth 100000 in
theorem gd_y_set_m_in_T_413 : GoodIn wp_y_set (va_wsS RX12 413 yX12_in wp_m_in_T) := goodIn_app (goodIn_r _ [2, 3, 4] rfl rfl) (goodIn_ca (goodIn_r _ [5] rfl rfl) (goodIn_nil))
set_option maxRecDepth 100000 in
theorem gd_y_set_m_isHandle_0_567 : GoodIn wp_y_set (wsV RX12 567 RX12 yX12_isHandle wp_m_isHandle_0) := goodIn_app (goodIn_r _ [6, 7, 8, 4] rfl rfl) (goodIn_ca (goodIn_r _ [9, 10] rfl rfl) (goodIn_app (goodIn_cls hi_y_set_X12 gw_X12) (goodIn_nil)))
set_option maxRecDepth 100000 in
theorem gd_y_set_m_isHandle_1_567 : GoodIn wp_y_set (wsV RX12 567 RX12 yX12_isHandle wp_m_isHandle_1) := goodIn_app (goodIn_r _ [6, 7, 8, 4] rfl rfl) (goodIn_ca (goodIn_r _ [9, 10] rfl rfl) (goodIn_app (goodIn_cls hi_y_set_X12 gw_X12) (goodIn_nil)))
set_option maxRecDepth 100000 in
theorem gd_y_set_m_in_F1_413 : GoodIn wp_y_set (va_wsS RX12 413 yX12_in wp_m_in_F1) := goodIn_app (goodIn_r _ [2, 3, 4] rfl rfl) (goodIn_ca (goodIn_r _ [5] rfl rfl) (goodIn_nil))
set_option maxRecDepth 100000 in
theorem gd_y_set_m_in_F2_413 : GoodIn wp_y_set (va_wsS RX12 413 yX12_in wp_m_in_F2) := goodIn_app (goodIn_r _ [2, 3, 4] rfl rfl) (goodIn_ca (goodIn_r _ [5] rfl rfl) (goodIn_nil))
set_option maxHeartbeats 4000000 in
set_option maxRecDepth 100000 in
theorem y_set (l : Launch) (D : va_G) (K : Nat → ClassId) (h : Nat) (q : Nat → Nat) (fa : Int64) (sa : Int64) (d : Int32) (hd : Int32) : MG l yX12_set wp_y_set ({ frames := 1, cells := 0, slots := 0, locals := 22 }) D (tysA K) [.ref h, .int d, .int hd] [(h, .inr (12, fsM q 0 0 0 0 0)), ((q 100), .inl (K 0, 2, .inl (gl [0, 0])))] (Qi D (fun (r : Int32) (_ : Unit) => r = an_set d hd) (fun _ => [])) 0 0 := by
  refine mg_of (cc := cX12_set) (maxL := 3) (ret := (some .boolean)) (by decide +kernel) rfl (Nat.le_of_ble_eq_true rfl) ?_
  intro p e s m below meth c A B hr hlk hnam
  show V _ _ _ _ _ _ _ _ _ _ _ _ _ _ _ _ [(0, .ref h), (1, .int d), (2, .int hd)] _ _
  by_cases h0 : d = 0
  · subst h0
    refine v_aload_n B dX12_set_0 rfl rfl ?_
    refine v_iconst B (v := 0) dX12_set_1 (by decide +kernel) ?_
    refine v_put B (C := RX12) (T := TX12) (N := 123) (ci := 12) (k0 := 0) hi_y_set_X12 rfl rfl 0 (by decide +kernel) tyX12 tyX12_ok nmX12 (List.mem_of_getElem? (i := 1) rfl) rfl (ty := .int) (tyX12_ok 0 (by decide +kernel)) rfl rfl (Nat.le_of_ble_eq_true rfl) (w' := [(h, .inr (12, fsM q 0 0 0 0 0)), ((q 100), .inl (K 0, 2, .inl (gl [0, 0])))]) rfl dX12_set_2 ?_
    refine v_iload_n B dX12_set_5 rfl rfl ?_
    refine v_iconst B (v := 2) dX12_set_6 (by decide +kernel) ?_
    refine v_callSi B (n := 2) (As := [.int 0, .int 2]) (rest := []) (wc := []) (wr := [(h, .inr (12, fsM q 0 0 0 0 0)), ((q 100), .inl (K 0, 2, .inl (gl [0, 0])))]) (m_in_T l D K 0 2 (by decide +kernel) (by decide +kernel)) gd_y_set_m_in_T_413 rfl rfl rfl (by decide +kernel) ⟨by decide +kernel, by decide +kernel⟩ (sp_pl [] [0, 1] rfl rfl rfl rfl rfl) rfl rfl (Nat.le_of_ble_eq_true rfl) dX12_set_7 ⟨by decide +kernel, by decide +kernel⟩ (fun r_3 u_1 hp_2 => ?_)
    subst hp_2
    show V _ _ _ _ _ _ _ _ _ _ _ _ _ _ (0, 0) [(h, .inr (12, fsM q 0 0 0 0 0)), ((q 100), .inl (K 0, 2, .inl (gl [0, 0])))] _ _ [.int 1]
    show V _ _ _ _ _ _ _ _ _ _ _ _ _ _ (0, 0) [(h, .inr (12, fsM q 0 0 0 0 0)), ((q 100), .inl (K 0, 2, .inl (gl [0, 0])))] _ _ _
    refine v_if_eq B (tgt := 31) dX12_set_10 (by decide +kernel) (fun h => absurd h (by decide +kernel)) (fun _ => ?_)
    refine v_aload_n B dX12_set_13 rfl rfl ?_
    refine v_iload_n B dX12_set_14 rfl rfl ?_
    refine v_iload_n B dX12_set_15 rfl rfl ?_
    refine v_callVi B (b := h) (n := 2) (As := [.int 0, .int hd]) (rest := []) (wc := [(h, .inr (12, fsM q 0 0 0 0 0)), ((q 100), .inl (K 0, 2, .inl (gl [0, 0])))]) (wr := []) (m_isHandle_0 l D K h q fa sa hd) gd_y_set_m_isHandle_0_567 rfl rfl rfl (by decide +kernel) ⟨by decide +kernel, by decide +kernel⟩ 0 rfl rfl rfl (sp_pl [0, 1] [] rfl rfl rfl rfl rfl) rfl rfl (Nat.le_of_ble_eq_true rfl) dX12_set_16 ⟨by decide +kernel, by decide +kernel⟩ (fun r_6 u_4 hp_5 => ?_)
    subst hp_5
    show V _ _ _ _ _ _ _ _ _ _ _ _ _ _ (0, 0) [(h, .inr (12, fsM q 0 0 0 0 0)), ((q 100), .inl (K 0, 2, .inl (gl [0, 0])))] _ _ [.int 0]
    show V _ _ _ _ _ _ _ _ _ _ _ _ _ _ (0, 0) [(h, .inr (12, fsM q 0 0 0 0 0)), ((q 100), .inl (K 0, 2, .inl (gl [0, 0])))] _ _ _
    refine v_if_eq B (tgt := 31) dX12_set_19 (by decide +kernel) (fun _ => ?_) (fun h => absurd (by decide +kernel) h)
    refine v_iconst B (v := 0) dX12_set_31 (by decide +kernel) ?_
    refine v_forget (wc := []) (wr := []) (sp_pl [] [] rfl rfl rfl rfl rfl) ?_
    exact v_zret B hr hlk (by decide +kernel) () rfl rfl (by decide +kernel) (by decide +kernel) dX12_set_32
  · skip
    by_cases h1 : d = 1
    · subst h1
      refine v_aload_n B dX12_set_0 rfl rfl ?_
      refine v_iconst B (v := 0) dX12_set_1 (by decide +kernel) ?_
      refine v_put B (C := RX12) (T := TX12) (N := 123) (ci := 12) (k0 := 0) hi_y_set_X12 rfl rfl 0 (by decide +kernel) tyX12 tyX12_ok nmX12 (List.mem_of_getElem? (i := 1) rfl) rfl (ty := .int) (tyX12_ok 0 (by decide +kernel)) rfl rfl (Nat.le_of_ble_eq_true rfl) (w' := [(h, .inr (12, fsM q 0 0 0 0 0)), ((q 100), .inl (K 0, 2, .inl (gl [0, 0])))]) rfl dX12_set_2 ?_
      refine v_iload_n B dX12_set_5 rfl rfl ?_
      refine v_iconst B (v := 2) dX12_set_6 (by decide +kernel) ?_
      refine v_callSi B (n := 2) (As := [.int 1, .int 2]) (rest := []) (wc := []) (wr := [(h, .inr (12, fsM q 0 0 0 0 0)), ((q 100), .inl (K 0, 2, .inl (gl [0, 0])))]) (m_in_T l D K 1 2 (by decide +kernel) (by decide +kernel)) gd_y_set_m_in_T_413 rfl rfl rfl (by decide +kernel) ⟨by decide +kernel, by decide +kernel⟩ (sp_pl [] [0, 1] rfl rfl rfl rfl rfl) rfl rfl (Nat.le_of_ble_eq_true rfl) dX12_set_7 ⟨by decide +kernel, by decide +kernel⟩ (fun r_9 u_7 hp_8 => ?_)
      subst hp_8
      show V _ _ _ _ _ _ _ _ _ _ _ _ _ _ (0, 0) [(h, .inr (12, fsM q 0 0 0 0 0)), ((q 100), .inl (K 0, 2, .inl (gl [0, 0])))] _ _ [.int 1]
      show V _ _ _ _ _ _ _ _ _ _ _ _ _ _ (0, 0) [(h, .inr (12, fsM q 0 0 0 0 0)), ((q 100), .inl (K 0, 2, .inl (gl [0, 0])))] _ _ _
      refine v_if_eq B (tgt := 31) dX12_set_10 (by decide +kernel) (fun h => absurd h (by decide +kernel)) (fun _ => ?_)
      refine v_aload_n B dX12_set_13 rfl rfl ?_
      refine v_iload_n B dX12_set_14 rfl rfl ?_
      refine v_iload_n B dX12_set_15 rfl rfl ?_
      refine v_callVi B (b := h) (n := 2) (As := [.int 1, .int hd]) (rest := []) (wc := [(h, .inr (12, fsM q 0 0 0 0 0)), ((q 100), .inl (K 0, 2, .inl (gl [0, 0])))]) (wr := []) (m_isHandle_1 l D K h q fa sa hd) gd_y_set_m_isHandle_1_567 rfl rfl rfl (by decide +kernel) ⟨by decide +kernel, by decide +kernel⟩ 0 rfl rfl rfl (sp_pl [0, 1] [] rfl rfl rfl rfl rfl) rfl rfl (Nat.le_of_ble_eq_true rfl) dX12_set_16 ⟨by decide +kernel, by decide +kernel⟩ (fun r_12 u_10 hp_11 => ?_)
      subst hp_11
      show V _ _ _ _ _ _ _ _ _ _ _ _ _ _ (0, 0) [(h, .inr (12, fsM q 0 0 0 0 0)), ((q 100), .inl (K 0, 2, .inl (gl [0, 0])))] _ _ [.int 0]
      show V _ _ _ _ _ _ _ _ _ _ _ _ _ _ (0, 0) [(h, .inr (12, fsM q 0 0 0 0 0)), ((q 100), .inl (K 0, 2, .inl (gl [0, 0])))] _ _ _
      refine v_if_eq B (tgt := 31) dX12_set_19 (by decide +kernel) (fun _ => ?_) (fun h => absurd (by decide +kernel) h)
      refine v_iconst B (v := 0) dX12_set_31 (by decide +kernel) ?_
      refine v_forget (wc := []) (wr := []) (sp_pl [] [] rfl rfl rfl rfl rfl) ?_
      exact v_zret B hr hlk (by decide +kernel) () rfl rfl (by decide +kernel) (by decide +kernel) dX12_set_32
    · skip
      by_cases e1 : d < 0
      · skip
        refine v_aload_n B dX12_set_0 rfl rfl ?_
        refine v_iconst B (v := 0) dX12_set_1 (by decide +kernel) ?_
        refine v_put B (C := RX12) (T := TX12) (N := 123) (ci := 12) (k0 := 0) hi_y_set_X12 rfl rfl 0 (by decide +kernel) tyX12 tyX12_ok nmX12 (List.mem_of_getElem? (i := 1) rfl) rfl (ty := .int) (tyX12_ok 0 (by decide +kernel)) rfl rfl (Nat.le_of_ble_eq_true rfl) (w' := [(h, .inr (12, fsM q 0 0 0 0 0)), ((q 100), .inl (K 0, 2, .inl (gl [0, 0])))]) rfl dX12_set_2 ?_
        refine v_iload_n B dX12_set_5 rfl rfl ?_
        refine v_iconst B (v := 2) dX12_set_6 (by decide +kernel) ?_
        refine v_callSi B (n := 2) (As := [.int d, .int 2]) (rest := []) (wc := []) (wr := [(h, .inr (12, fsM q 0 0 0 0 0)), ((q 100), .inl (K 0, 2, .inl (gl [0, 0])))]) (m_in_F1 l D K d 2 e1) gd_y_set_m_in_F1_413 rfl rfl rfl (by decide +kernel) ⟨by decide +kernel, by decide +kernel⟩ (sp_pl [] [0, 1] rfl rfl rfl rfl rfl) rfl rfl (Nat.le_of_ble_eq_true rfl) dX12_set_7 ⟨by decide +kernel, by decide +kernel⟩ (fun r_15 u_13 hp_14 => ?_)
        subst hp_14
        show V _ _ _ _ _ _ _ _ _ _ _ _ _ _ (0, 0) [(h, .inr (12, fsM q 0 0 0 0 0)), ((q 100), .inl (K 0, 2, .inl (gl [0, 0])))] _ _ [.int 0]
        show V _ _ _ _ _ _ _ _ _ _ _ _ _ _ (0, 0) [(h, .inr (12, fsM q 0 0 0 0 0)), ((q 100), .inl (K 0, 2, .inl (gl [0, 0])))] _ _ _
        refine v_if_eq B (tgt := 31) dX12_set_10 (by decide +kernel) (fun _ => ?_) (fun h => absurd (by decide +kernel) h)
        refine v_iconst B (v := 0) dX12_set_31 (by decide +kernel) ?_
        refine v_forget (wc := []) (wr := []) (sp_pl [] [] rfl rfl rfl rfl rfl) ?_
        exact v_zret B hr hlk (by decide +kernel) () rfl rfl (by decide +kernel) (by decide +kernel) dX12_set_32
      · skip
        refine v_aload_n B dX12_set_0 rfl rfl ?_
        refine v_iconst B (v := 0) dX12_set_1 (by decide +kernel) ?_
        refine v_put B (C := RX12) (T := TX12) (N := 123) (ci := 12) (k0 := 0) hi_y_set_X12 rfl rfl 0 (by decide +kernel) tyX12 tyX12_ok nmX12 (List.mem_of_getElem? (i := 1) rfl) rfl (ty := .int) (tyX12_ok 0 (by decide +kernel)) rfl rfl (Nat.le_of_ble_eq_true rfl) (w' := [(h, .inr (12, fsM q 0 0 0 0 0)), ((q 100), .inl (K 0, 2, .inl (gl [0, 0])))]) rfl dX12_set_2 ?_
        refine v_iload_n B dX12_set_5 rfl rfl ?_
        refine v_iconst B (v := 2) dX12_set_6 (by decide +kernel) ?_
        refine v_callSi B (n := 2) (As := [.int d, .int 2]) (rest := []) (wc := []) (wr := [(h, .inr (12, fsM q 0 0 0 0 0)), ((q 100), .inl (K 0, 2, .inl (gl [0, 0])))]) (m_in_F2 l D K d 2 (rg_nlt (i_ge2 h0 h1 e1) (by decide +kernel)) (rg_ge (i_ge2 h0 h1 e1) (by decide +kernel))) gd_y_set_m_in_F2_413 rfl rfl rfl (by decide +kernel) ⟨by decide +kernel, by decide +kernel⟩ (sp_pl [] [0, 1] rfl rfl rfl rfl rfl) rfl rfl (Nat.le_of_ble_eq_true rfl) dX12_set_7 ⟨by decide +kernel, by decide +kernel⟩ (fun r_18 u_16 hp_17 => ?_)
        subst hp_17
        show V _ _ _ _ _ _ _ _ _ _ _ _ _ _ (0, 0) [(h, .inr (12, fsM q 0 0 0 0 0)), ((q 100), .inl (K 0, 2, .inl (gl [0, 0])))] _ _ [.int 0]
        show V _ _ _ _ _ _ _ _ _ _ _ _ _ _ (0, 0) [(h, .inr (12, fsM q 0 0 0 0 0)), ((q 100), .inl (K 0, 2, .inl (gl [0, 0])))] _ _ _
        refine v_if_eq B (tgt := 31) dX12_set_10 (by decide +kernel) (fun _ => ?_) (fun h => absurd (by decide +kernel) h)
        refine v_iconst B (v := 0) dX12_set_31 (by decide +kernel) ?_
        refine v_forget (wc := []) (wr := []) (sp_pl [] [] rfl rfl rfl rfl rfl) ?_
        exact v_zret B hr hlk (by decide +kernel) () rfl rfl (by decide +kernel) (by decide +kernel) dX12_set_32

def wp_y_noise : List Cond := .code yX12_noise cX12_noise 3 (some .boolean) :: ([.fieldLink RX12 1 "LowEnergyModel" "thrown" "I", .methodLink RX12 413 yX12_in, .static yX12_in, .initialized RX12, .code yX12_in cX12_in 2 (some .boolean), .fieldLink RX12 97 "LowEnergyModel" "noises" "[I", .fieldLink RX12 100 "LowEnergyModel" "noise" "[I"] ++ (wsX120 ++ ([])))
theorem hi_y_noise_X12 : ∀ x ∈ u_ws RX12 TX12 123, x ∈ wp_y_noise := fun _ h => List.mem_cons_of_mem _ (List.mem_append_right _ (List.mem_append_left _ h))
set_option maxRecDepth 100000 in
theorem gd_y_noise_m_in_T_413 : GoodIn wp_y_noise (va_wsS RX12 413 yX12_in wp_m_in_T) := goodIn_app (goodIn_r _ [2, 3, 4] rfl rfl) (goodIn_ca (goodIn_r _ [5] rfl rfl) (goodIn_nil))
set_option maxRecDepth 100000 in
theorem gd_y_noise_m_in_F1_413 : GoodIn wp_y_noise (va_wsS RX12 413 yX12_in wp_m_in_F1) := goodIn_app (goodIn_r _ [2, 3, 4] rfl rfl) (goodIn_ca (goodIn_r _ [5] rfl rfl) (goodIn_nil))
set_option maxRecDepth 100000 in
theorem gd_y_noise_m_in_F2_413 : GoodIn wp_y_noise (va_wsS RX12 413 yX12_in wp_m_in_F2) := goodIn_app (goodIn_r _ [2, 3, 4] rfl rfl) (goodIn_ca (goodIn_r _ [5] rfl rfl) (goodIn_nil))
set_option maxHeartbeats 4000000 in
set_option maxRecDepth 100000 in
theorem y_noise (l : Launch) (D : va_G) (K : Nat → ClassId) (h : Nat) (q : Nat → Nat) (fa : Int64) (sa : Int64) (d : Int32) (bt : Int32) : MG l yX12_noise wp_y_noise ({ frames := 1, cells := 0, slots := 0, locals := 21 }) D (tysA K) [.ref h, .int d, .int bt] [(h, .inr (12, fsM q 0 0 0 0 0)), ((q 24), .inl (K 0, 2, .inl (gl [0, 0]))), ((q 25), .inl (K 0, 128, .inl (fun _ => 0)))] (Qi D (fun (r : Int32) (_ : Unit) => r = an_noise d bt) (fun _ => [])) 0 0 := by
  refine mg_of (cc := cX12_noise) (maxL := 3) (ret := (some .boolean)) (by decide +kernel) rfl (Nat.le_of_ble_eq_true rfl) ?_
  intro p e s m below meth c A B hr hlk hnam
  show V _ _ _ _ _ _ _ _ _ _ _ _ _ _ _ _ [(0, .ref h), (1, .int d), (2, .int bt)] _ _
  by_cases h0 : d = 0
  · subst h0
    by_cases e_bt : bt < 0
    · skip
      refine v_aload_n B dX12_noise_0 rfl rfl ?_
      refine v_iconst B (v := 0) dX12_noise_1 (by decide +kernel) ?_
      refine v_put B (C := RX12) (T := TX12) (N := 123) (ci := 12) (k0 := 0) hi_y_noise_X12 rfl rfl 0 (by decide +kernel) tyX12 tyX12_ok nmX12 (List.mem_of_getElem? (i := 1) rfl) rfl (ty := .int) (tyX12_ok 0 (by decide +kernel)) rfl rfl (Nat.le_of_ble_eq_true rfl) (w' := [(h, .inr (12, fsM q 0 0 0 0 0)), ((q 24), .inl (K 0, 2, .inl (gl [0, 0]))), ((q 25), .inl (K 0, 128, .inl (fun _ => 0)))]) rfl dX12_noise_2 ?_
      refine v_iload_n B dX12_noise_5 rfl rfl ?_
      refine v_iconst B (v := 2) dX12_noise_6 (by decide +kernel) ?_
      refine v_callSi B (n := 2) (As := [.int 0, .int 2]) (rest := []) (wc := []) (wr := [(h, .inr (12, fsM q 0 0 0 0 0)), ((q 24), .inl (K 0, 2, .inl (gl [0, 0]))), ((q 25), .inl (K 0, 128, .inl (fun _ => 0)))]) (m_in_T l D K 0 2 (by decide +kernel) (by decide +kernel)) gd_y_noise_m_in_T_413 rfl rfl rfl (by decide +kernel) ⟨by decide +kernel, by decide +kernel⟩ (sp_pl [] [0, 1, 2] rfl rfl rfl rfl rfl) rfl rfl (Nat.le_of_ble_eq_true rfl) dX12_noise_7 ⟨by decide +kernel, by decide +kernel⟩ (fun r_3 u_1 hp_2 => ?_)
      subst hp_2
      show V _ _ _ _ _ _ _ _ _ _ _ _ _ _ (0, 0) [(h, .inr (12, fsM q 0 0 0 0 0)), ((q 24), .inl (K 0, 2, .inl (gl [0, 0]))), ((q 25), .inl (K 0, 128, .inl (fun _ => 0)))] _ _ [.int 1]
      show V _ _ _ _ _ _ _ _ _ _ _ _ _ _ (0, 0) [(h, .inr (12, fsM q 0 0 0 0 0)), ((q 24), .inl (K 0, 2, .inl (gl [0, 0]))), ((q 25), .inl (K 0, 128, .inl (fun _ => 0)))] _ _ _
      refine v_if_eq B (tgt := 34) dX12_noise_10 (by decide +kernel) (fun h => absurd h (by decide +kernel)) (fun _ => ?_)
      refine v_iload_n B dX12_noise_13 rfl rfl ?_
      refine v_sipush B (v := 320) dX12_noise_14 (by decide +kernel) ?_
      refine v_callSi B (n := 2) (As := [.int bt, .int 320]) (rest := []) (wc := []) (wr := [(h, .inr (12, fsM q 0 0 0 0 0)), ((q 24), .inl (K 0, 2, .inl (gl [0, 0]))), ((q 25), .inl (K 0, 128, .inl (fun _ => 0)))]) (m_in_F1 l D K bt 320 e_bt) gd_y_noise_m_in_F1_413 rfl rfl rfl (by decide +kernel) ⟨by decide +kernel, by decide +kernel⟩ (sp_pl [] [0, 1, 2] rfl rfl rfl rfl rfl) rfl rfl (Nat.le_of_ble_eq_true rfl) dX12_noise_17 ⟨by decide +kernel, by decide +kernel⟩ (fun r_6 u_4 hp_5 => ?_)
      subst hp_5
      show V _ _ _ _ _ _ _ _ _ _ _ _ _ _ (0, 0) [(h, .inr (12, fsM q 0 0 0 0 0)), ((q 24), .inl (K 0, 2, .inl (gl [0, 0]))), ((q 25), .inl (K 0, 128, .inl (fun _ => 0)))] _ _ [.int 0]
      show V _ _ _ _ _ _ _ _ _ _ _ _ _ _ (0, 0) [(h, .inr (12, fsM q 0 0 0 0 0)), ((q 24), .inl (K 0, 2, .inl (gl [0, 0]))), ((q 25), .inl (K 0, 128, .inl (fun _ => 0)))] _ _ _
      refine v_if_eq B (tgt := 34) dX12_noise_20 (by decide +kernel) (fun _ => ?_) (fun h => absurd (by decide +kernel) h)
      refine v_iconst B (v := 0) dX12_noise_34 (by decide +kernel) ?_
      refine v_forget (wc := []) (wr := []) (sp_pl [] [] rfl rfl rfl rfl rfl) ?_
      exact v_zret B hr hlk (by decide +kernel) () (by simp [an_noise, e_bt]) rfl (by decide +kernel) (by decide +kernel) dX12_noise_35
    · skip
      by_cases f_bt : 320 ≤ bt
      · skip
        refine v_aload_n B dX12_noise_0 rfl rfl ?_
        refine v_iconst B (v := 0) dX12_noise_1 (by decide +kernel) ?_
        refine v_put B (C := RX12) (T := TX12) (N := 123) (ci := 12) (k0 := 0) hi_y_noise_X12 rfl rfl 0 (by decide +kernel) tyX12 tyX12_ok nmX12 (List.mem_of_getElem? (i := 1) rfl) rfl (ty := .int) (tyX12_ok 0 (by decide +kernel)) rfl rfl (Nat.le_of_ble_eq_true rfl) (w' := [(h, .inr (12, fsM q 0 0 0 0 0)), ((q 24), .inl (K 0, 2, .inl (gl [0, 0]))), ((q 25), .inl (K 0, 128, .inl (fun _ => 0)))]) rfl dX12_noise_2 ?_
        refine v_iload_n B dX12_noise_5 rfl rfl ?_
        refine v_iconst B (v := 2) dX12_noise_6 (by decide +kernel) ?_
        refine v_callSi B (n := 2) (As := [.int 0, .int 2]) (rest := []) (wc := []) (wr := [(h, .inr (12, fsM q 0 0 0 0 0)), ((q 24), .inl (K 0, 2, .inl (gl [0, 0]))), ((q 25), .inl (K 0, 128, .inl (fun _ => 0)))]) (m_in_T l D K 0 2 (by decide +kernel) (by decide +kernel)) gd_y_noise_m_in_T_413 rfl rfl rfl (by decide +kernel) ⟨by decide +kernel, by decide +kernel⟩ (sp_pl [] [0, 1, 2] rfl rfl rfl rfl rfl) rfl rfl (Nat.le_of_ble_eq_true rfl) dX12_noise_7 ⟨by decide +kernel, by decide +kernel⟩ (fun r_9 u_7 hp_8 => ?_)
        subst hp_8
        show V _ _ _ _ _ _ _ _ _ _ _ _ _ _ (0, 0) [(h, .inr (12, fsM q 0 0 0 0 0)), ((q 24), .inl (K 0, 2, .inl (gl [0, 0]))), ((q 25), .inl (K 0, 128, .inl (fun _ => 0)))] _ _ [.int 1]
        show V _ _ _ _ _ _ _ _ _ _ _ _ _ _ (0, 0) [(h, .inr (12, fsM q 0 0 0 0 0)), ((q 24), .inl (K 0, 2, .inl (gl [0, 0]))), ((q 25), .inl (K 0, 128, .inl (fun _ => 0)))] _ _ _
        refine v_if_eq B (tgt := 34) dX12_noise_10 (by decide +kernel) (fun h => absurd h (by decide +kernel)) (fun _ => ?_)
        refine v_iload_n B dX12_noise_13 rfl rfl ?_
        refine v_sipush B (v := 320) dX12_noise_14 (by decide +kernel) ?_
        refine v_callSi B (n := 2) (As := [.int bt, .int 320]) (rest := []) (wc := []) (wr := [(h, .inr (12, fsM q 0 0 0 0 0)), ((q 24), .inl (K 0, 2, .inl (gl [0, 0]))), ((q 25), .inl (K 0, 128, .inl (fun _ => 0)))]) (m_in_F2 l D K bt 320 (rg_nlt f_bt (by decide +kernel)) (rg_ge f_bt (by decide +kernel))) gd_y_noise_m_in_F2_413 rfl rfl rfl (by decide +kernel) ⟨by decide +kernel, by decide +kernel⟩ (sp_pl [] [0, 1, 2] rfl rfl rfl rfl rfl) rfl rfl (Nat.le_of_ble_eq_true rfl) dX12_noise_17 ⟨by decide +kernel, by decide +kernel⟩ (fun r_12 u_10 hp_11 => ?_)
        subst hp_11
        show V _ _ _ _ _ _ _ _ _ _ _ _ _ _ (0, 0) [(h, .inr (12, fsM q 0 0 0 0 0)), ((q 24), .inl (K 0, 2, .inl (gl [0, 0]))), ((q 25), .inl (K 0, 128, .inl (fun _ => 0)))] _ _ [.int 0]
        show V _ _ _ _ _ _ _ _ _ _ _ _ _ _ (0, 0) [(h, .inr (12, fsM q 0 0 0 0 0)), ((q 24), .inl (K 0, 2, .inl (gl [0, 0]))), ((q 25), .inl (K 0, 128, .inl (fun _ => 0)))] _ _ _
        refine v_if_eq B (tgt := 34) dX12_noise_20 (by decide +kernel) (fun _ => ?_) (fun h => absurd (by decide +kernel) h)
        refine v_iconst B (v := 0) dX12_noise_34 (by decide +kernel) ?_
        refine v_forget (wc := []) (wr := []) (sp_pl [] [] rfl rfl rfl rfl rfl) ?_
        exact v_zret B hr hlk (by decide +kernel) () (by simp [an_noise, e_bt, (rg_gt f_bt (by decide +kernel) : 319 < bt), f_bt]) rfl (by decide +kernel) (by decide +kernel) dX12_noise_35
      · skip
        refine v_aload_n B dX12_noise_0 rfl rfl ?_
        refine v_iconst B (v := 0) dX12_noise_1 (by decide +kernel) ?_
        refine v_put B (C := RX12) (T := TX12) (N := 123) (ci := 12) (k0 := 0) hi_y_noise_X12 rfl rfl 0 (by decide +kernel) tyX12 tyX12_ok nmX12 (List.mem_of_getElem? (i := 1) rfl) rfl (ty := .int) (tyX12_ok 0 (by decide +kernel)) rfl rfl (Nat.le_of_ble_eq_true rfl) (w' := [(h, .inr (12, fsM q 0 0 0 0 0)), ((q 24), .inl (K 0, 2, .inl (gl [0, 0]))), ((q 25), .inl (K 0, 128, .inl (fun _ => 0)))]) rfl dX12_noise_2 ?_
        refine v_iload_n B dX12_noise_5 rfl rfl ?_
        refine v_iconst B (v := 2) dX12_noise_6 (by decide +kernel) ?_
        refine v_callSi B (n := 2) (As := [.int 0, .int 2]) (rest := []) (wc := []) (wr := [(h, .inr (12, fsM q 0 0 0 0 0)), ((q 24), .inl (K 0, 2, .inl (gl [0, 0]))), ((q 25), .inl (K 0, 128, .inl (fun _ => 0)))]) (m_in_T l D K 0 2 (by decide +kernel) (by decide +kernel)) gd_y_noise_m_in_T_413 rfl rfl rfl (by decide +kernel) ⟨by decide +kernel, by decide +kernel⟩ (sp_pl [] [0, 1, 2] rfl rfl rfl rfl rfl) rfl rfl (Nat.le_of_ble_eq_true rfl) dX12_noise_7 ⟨by decide +kernel, by decide +kernel⟩ (fun r_15 u_13 hp_14 => ?_)
        subst hp_14
        show V _ _ _ _ _ _ _ _ _ _ _ _ _ _ (0, 0) [(h, .inr (12, fsM q 0 0 0 0 0)), ((q 24), .inl (K 0, 2, .inl (gl [0, 0]))), ((q 25), .inl (K 0, 128, .inl (fun _ => 0)))] _ _ [.int 1]
        show V _ _ _ _ _ _ _ _ _ _ _ _ _ _ (0, 0) [(h, .inr (12, fsM q 0 0 0 0 0)), ((q 24), .inl (K 0, 2, .inl (gl [0, 0]))), ((q 25), .inl (K 0, 128, .inl (fun _ => 0)))] _ _ _
        refine v_if_eq B (tgt := 34) dX12_noise_10 (by decide +kernel) (fun h => absurd h (by decide +kernel)) (fun _ => ?_)
        refine v_iload_n B dX12_noise_13 rfl rfl ?_
        refine v_sipush B (v := 320) dX12_noise_14 (by decide +kernel) ?_
        refine v_callSi B (n := 2) (As := [.int bt, .int 320]) (rest := []) (wc := []) (wr := [(h, .inr (12, fsM q 0 0 0 0 0)), ((q 24), .inl (K 0, 2, .inl (gl [0, 0]))), ((q 25), .inl (K 0, 128, .inl (fun _ => 0)))]) (m_in_T l D K bt 320 e_bt f_bt) gd_y_noise_m_in_T_413 rfl rfl rfl (by decide +kernel) ⟨by decide +kernel, by decide +kernel⟩ (sp_pl [] [0, 1, 2] rfl rfl rfl rfl rfl) rfl rfl (Nat.le_of_ble_eq_true rfl) dX12_noise_17 ⟨by decide +kernel, by decide +kernel⟩ (fun r_18 u_16 hp_17 => ?_)
        subst hp_17
        show V _ _ _ _ _ _ _ _ _ _ _ _ _ _ (0, 0) [(h, .inr (12, fsM q 0 0 0 0 0)), ((q 24), .inl (K 0, 2, .inl (gl [0, 0]))), ((q 25), .inl (K 0, 128, .inl (fun _ => 0)))] _ _ [.int 1]
        show V _ _ _ _ _ _ _ _ _ _ _ _ _ _ (0, 0) [(h, .inr (12, fsM q 0 0 0 0 0)), ((q 24), .inl (K 0, 2, .inl (gl [0, 0]))), ((q 25), .inl (K 0, 128, .inl (fun _ => 0)))] _ _ _
        refine v_if_eq B (tgt := 34) dX12_noise_20 (by decide +kernel) (fun h => absurd h (by decide +kernel)) (fun _ => ?_)
        refine v_aload_n B dX12_noise_23 rfl rfl ?_
        refine v_get B (C := RX12) (T := TX12) (N := 123) (ci := 12) (k0 := 0) hi_y_noise_X12 rfl rfl 24 (by decide +kernel) (List.mem_of_getElem? (i := 6) rfl) rfl dX12_noise_24 ?_
        refine v_iload_n B dX12_noise_27 rfl rfl ?_
        refine v_iald B (k0 := 1) (t0 := 0) (v := 0) rfl rfl (vpi (by decide +kernel)) rfl dX12_noise_28 ?_
        refine v_bipush B (v := 64) dX12_noise_29 (by decide +kernel) ?_
        refine v_icmp_ne B (tgt := 36) dX12_noise_31 (by decide +kernel) (fun _ => ?_) (fun h => absurd h (by decide +kernel))
        refine v_aload_n B dX12_noise_36 rfl rfl ?_
        refine v_get B (C := RX12) (T := TX12) (N := 123) (ci := 12) (k0 := 0) hi_y_noise_X12 rfl rfl 25 (by decide +kernel) (List.mem_of_getElem? (i := 7) rfl) rfl dX12_noise_37 ?_
        refine v_bipush B (v := 64) dX12_noise_40 (by decide +kernel) ?_
        refine v_iload_n B dX12_noise_42 rfl rfl ?_
        refine v_imul B (v := 0) dX12_noise_43 (by decide +kernel) ?_
        refine v_aload_n B dX12_noise_44 rfl rfl ?_
        refine v_get B (C := RX12) (T := TX12) (N := 123) (ci := 12) (k0 := 0) hi_y_noise_X12 rfl rfl 24 (by decide +kernel) (List.mem_of_getElem? (i := 6) rfl) rfl dX12_noise_45 ?_
        refine v_iload_n B dX12_noise_48 rfl rfl ?_
        refine v_iald B (k0 := 1) (t0 := 0) (v := 0) rfl rfl (vpi (by decide +kernel)) rfl dX12_noise_49 ?_
        refine v_iadd B (v := 0) dX12_noise_50 (by decide +kernel) ?_
        refine v_iload_n B dX12_noise_51 rfl rfl ?_
        refine v_iast B (k0 := 2) (t0 := 0) (w' := [(h, .inr (12, fsM q 0 0 0 0 0)), ((q 24), .inl (K 0, 2, .inl (gl [0, 0]))), ((q 25), .inl (K 0, 128, .inl (upd (fun _ => 0) (0 : Int32).toNatClampNeg bt)))]) rfl rfl (vpi (by decide +kernel)) rfl dX12_noise_52 ?_
        refine v_aload_n B dX12_noise_53 rfl rfl ?_
        refine v_get B (C := RX12) (T := TX12) (N := 123) (ci := 12) (k0 := 0) hi_y_noise_X12 rfl rfl 24 (by decide +kernel) (List.mem_of_getElem? (i := 6) rfl) rfl dX12_noise_54 ?_
        refine v_iload_n B dX12_noise_57 rfl rfl ?_
        refine v_dup2 B dX12_noise_58 rfl rfl ?_
        refine v_iald B (k0 := 1) (t0 := 0) (v := 0) rfl rfl (vpi (by decide +kernel)) rfl dX12_noise_59 ?_
        refine v_iconst B (v := 1) dX12_noise_60 (by decide +kernel) ?_
        refine v_iadd B (v := 1) dX12_noise_61 (by decide +kernel) ?_
        refine v_iastL B (k0 := 1) (t0 := 0) (k := 0) (y := 1) (w' := [(h, .inr (12, fsM q 0 0 0 0 0)), ((q 24), .inl (K 0, 2, .inl (gl [1, 0]))), ((q 25), .inl (K 0, 128, .inl (upd (fun _ => 0) (0 : Int32).toNatClampNeg bt)))]) rfl rfl (vpi (by decide +kernel)) (by decide +kernel) (Nat.le_of_ble_eq_true rfl) rfl rfl dX12_noise_62 ?_
        refine v_iconst B (v := 1) dX12_noise_63 (by decide +kernel) ?_
        refine v_forget (wc := []) (wr := []) (sp_pl [] [] rfl rfl rfl rfl rfl) ?_
        exact v_zret B hr hlk (by decide +kernel) () (by simp [an_noise, e_bt, (rg_ngt (Int32.not_le.mp f_bt) (by decide +kernel) : ¬ 319 < bt), f_bt]) rfl (by decide +kernel) (by decide +kernel) dX12_noise_64
  · skip
    by_cases h1 : d = 1
    · subst h1
      by_cases e_bt : bt < 0
      · skip
        refine v_aload_n B dX12_noise_0 rfl rfl ?_
        refine v_iconst B (v := 0) dX12_noise_1 (by decide +kernel) ?_
        refine v_put B (C := RX12) (T := TX12) (N := 123) (ci := 12) (k0 := 0) hi_y_noise_X12 rfl rfl 0 (by decide +kernel) tyX12 tyX12_ok nmX12 (List.mem_of_getElem? (i := 1) rfl) rfl (ty := .int) (tyX12_ok 0 (by decide +kernel)) rfl rfl (Nat.le_of_ble_eq_true rfl) (w' := [(h, .inr (12, fsM q 0 0 0 0 0)), ((q 24), .inl (K 0, 2, .inl (gl [0, 0]))), ((q 25), .inl (K 0, 128, .inl (fun _ => 0)))]) rfl dX12_noise_2 ?_
        refine v_iload_n B dX12_noise_5 rfl rfl ?_
        refine v_iconst B (v := 2) dX12_noise_6 (by decide +kernel) ?_
        refine v_callSi B (n := 2) (As := [.int 1, .int 2]) (rest := []) (wc := []) (wr := [(h, .inr (12, fsM q 0 0 0 0 0)), ((q 24), .inl (K 0, 2, .inl (gl [0, 0]))), ((q 25), .inl (K 0, 128, .inl (fun _ => 0)))]) (m_in_T l D K 1 2 (by decide +kernel) (by decide +kernel)) gd_y_noise_m_in_T_413 rfl rfl rfl (by decide +kernel) ⟨by decide +kernel, by decide +kernel⟩ (sp_pl [] [0, 1, 2] rfl rfl rfl rfl rfl) rfl rfl (Nat.le_of_ble_eq_true rfl) dX12_noise_7 ⟨by decide +kernel, by decide +kernel⟩ (fun r_21 u_19 hp_20 => ?_)
        subst hp_20
        show V _ _ _ _ _ _ _ _ _ _ _ _ _ _ (0, 0) [(h, .inr (12, fsM q 0 0 0 0 0)), ((q 24), .inl (K 0, 2, .inl (gl [0, 0]))), ((q 25), .inl (K 0, 128, .inl (fun _ => 0)))] _ _ [.int 1]
        show V _ _ _ _ _ _ _ _ _ _ _ _ _ _ (0, 0) [(h, .inr (12, fsM q 0 0 0 0 0)), ((q 24), .inl (K 0, 2, .inl (gl [0, 0]))), ((q 25), .inl (K 0, 128, .inl (fun _ => 0)))] _ _ _
        refine v_if_eq B (tgt := 34) dX12_noise_10 (by decide +kernel) (fun h => absurd h (by decide +kernel)) (fun _ => ?_)
        refine v_iload_n B dX12_noise_13 rfl rfl ?_
        refine v_sipush B (v := 320) dX12_noise_14 (by decide +kernel) ?_
        refine v_callSi B (n := 2) (As := [.int bt, .int 320]) (rest := []) (wc := []) (wr := [(h, .inr (12, fsM q 0 0 0 0 0)), ((q 24), .inl (K 0, 2, .inl (gl [0, 0]))), ((q 25), .inl (K 0, 128, .inl (fun _ => 0)))]) (m_in_F1 l D K bt 320 e_bt) gd_y_noise_m_in_F1_413 rfl rfl rfl (by decide +kernel) ⟨by decide +kernel, by decide +kernel⟩ (sp_pl [] [0, 1, 2] rfl rfl rfl rfl rfl) rfl rfl (Nat.le_of_ble_eq_true rfl) dX12_noise_17 ⟨by decide +kernel, by decide +kernel⟩ (fun r_24 u_22 hp_23 => ?_)
        subst hp_23
        show V _ _ _ _ _ _ _ _ _ _ _ _ _ _ (0, 0) [(h, .inr (12, fsM q 0 0 0 0 0)), ((q 24), .inl (K 0, 2, .inl (gl [0, 0]))), ((q 25), .inl (K 0, 128, .inl (fun _ => 0)))] _ _ [.int 0]
        show V _ _ _ _ _ _ _ _ _ _ _ _ _ _ (0, 0) [(h, .inr (12, fsM q 0 0 0 0 0)), ((q 24), .inl (K 0, 2, .inl (gl [0, 0]))), ((q 25), .inl (K 0, 128, .inl (fun _ => 0)))] _ _ _
        refine v_if_eq B (tgt := 34) dX12_noise_20 (by decide +kernel) (fun _ => ?_) (fun h => absurd (by decide +kernel) h)
        refine v_iconst B (v := 0) dX12_noise_34 (by decide +kernel) ?_
        refine v_forget (wc := []) (wr := []) (sp_pl [] [] rfl rfl rfl rfl rfl) ?_
        exact v_zret B hr hlk (by decide +kernel) () (by simp [an_noise, e_bt]) rfl (by decide +kernel) (by decide +kernel) dX12_noise_35
      · skip
        by_cases f_bt : 320 ≤ bt
        · skip
          refine v_aload_n B dX12_noise_0 rfl rfl ?_
          refine v_iconst B (v := 0) dX12_noise_1 (by decide +kernel) ?_
          refine v_put B (C := RX12) (T := TX12) (N := 123) (ci := 12) (k0 := 0) hi_y_noise_X12 rfl rfl 0 (by decide +kernel) tyX12 tyX12_ok nmX12 (List.mem_of_getElem? (i := 1) rfl) rfl (ty := .int) (tyX12_ok 0 (by decide +kernel)) rfl rfl (Nat.le_of_ble_eq_true rfl) (w' := [(h, .inr (12, fsM q 0 0 0 0 0)), ((q 24), .inl (K 0, 2, .inl (gl [0, 0]))), ((q 25), .inl (K 0, 128, .inl (fun _ => 0)))]) rfl dX12_noise_2 ?_
          refine v_iload_n B dX12_noise_5 rfl rfl ?_
          refine v_iconst B (v := 2) dX12_noise_6 (by decide +kernel) ?_
          refine v_callSi B (n := 2) (As := [.int 1, .int 2]) (rest := []) (wc := []) (wr := [(h, .inr (12, fsM q 0 0 0 0 0)), ((q 24), .inl (K 0, 2, .inl (gl [0, 0]))), ((q 25), .inl (K 0, 128, .inl (fun _ => 0)))]) (m_in_T l D K 1 2 (by decide +kernel) (by decide +kernel)) gd_y_noise_m_in_T_413 rfl rfl rfl (by decide +kernel) ⟨by decide +kernel, by decide +kernel⟩ (sp_pl [] [0, 1, 2] rfl rfl rfl rfl rfl) rfl rfl (Nat.le_of_ble_eq_true rfl) dX12_noise_7 ⟨by decide +kernel, by decide +kernel⟩ (fun r_27 u_25 hp_26 => ?_)
          subst hp_26
          show V _ _ _ _ _ _ _ _ _ _ _ _ _ _ (0, 0) [(h, .inr (12, fsM q 0 0 0 0 0)), ((q 24), .inl (K 0, 2, .inl (gl [0, 0]))), ((q 25), .inl (K 0, 128, .inl (fun _ => 0)))] _ _ [.int 1]
          show V _ _ _ _ _ _ _ _ _ _ _ _ _ _ (0, 0) [(h, .inr (12, fsM q 0 0 0 0 0)), ((q 24), .inl (K 0, 2, .inl (gl [0, 0]))), ((q 25), .inl (K 0, 128, .inl (fun _ => 0)))] _ _ _
          refine v_if_eq B (tgt := 34) dX12_noise_10 (by decide +kernel) (fun h => absurd h (by decide +kernel)) (fun _ => ?_)
          refine v_iload_n B dX12_noise_13 rfl rfl ?_
          refine v_sipush B (v := 320) dX12_noise_14 (by decide +kernel) ?_
          refine v_callSi B (n := 2) (As := [.int bt, .int 320]) (rest := []) (wc := []) (wr := [(h, .inr (12, fsM q 0 0 0 0 0)), ((q 24), .inl (K 0, 2, .inl (gl [0, 0]))), ((q 25), .inl (K 0, 128, .inl (fun _ => 0)))]) (m_in_F2 l D K bt 320 (rg_nlt f_bt (by decide +kernel)) (rg_ge f_bt (by decide +kernel))) gd_y_noise_m_in_F2_413 rfl rfl rfl (by decide +kernel) ⟨by decide +kernel, by decide +kernel⟩ (sp_pl [] [0, 1, 2] rfl rfl rfl rfl rfl) rfl rfl (Nat.le_of_ble_eq_true rfl) dX12_noise_17 ⟨by decide +kernel, by decide +kernel⟩ (fun r_30 u_28 hp_29 => ?_)
          subst hp_29
          show V _ _ _ _ _ _ _ _ _ _ _ _ _ _ (0, 0) [(h, .inr (12, fsM q 0 0 0 0 0)), ((q 24), .inl (K 0, 2, .inl (gl [0, 0]))), ((q 25), .inl (K 0, 128, .inl (fun _ => 0)))] _ _ [.int 0]
          show V _ _ _ _ _ _ _ _ _ _ _ _ _ _ (0, 0) [(h, .inr (12, fsM q 0 0 0 0 0)), ((q 24), .inl (K 0, 2, .inl (gl [0, 0]))), ((q 25), .inl (K 0, 128, .inl (fun _ => 0)))] _ _ _
          refine v_if_eq B (tgt := 34) dX12_noise_20 (by decide +kernel) (fun _ => ?_) (fun h => absurd (by decide +kernel) h)
          refine v_iconst B (v := 0) dX12_noise_34 (by decide +kernel) ?_
          refine v_forget (wc := []) (wr := []) (sp_pl [] [] rfl rfl rfl rfl rfl) ?_
          exact v_zret B hr hlk (by decide +kernel) () (by simp [an_noise, e_bt, (rg_gt f_bt (by decide +kernel) : 319 < bt), f_bt]) rfl (by decide +kernel) (by decide +kernel) dX12_noise_35
        · skip
          refine v_aload_n B dX12_noise_0 rfl rfl ?_
          refine v_iconst B (v := 0) dX12_noise_1 (by decide +kernel) ?_
          refine v_put B (C := RX12) (T := TX12) (N := 123) (ci := 12) (k0 := 0) hi_y_noise_X12 rfl rfl 0 (by decide +kernel) tyX12 tyX12_ok nmX12 (List.mem_of_getElem? (i := 1) rfl) rfl (ty := .int) (tyX12_ok 0 (by decide +kernel)) rfl rfl (Nat.le_of_ble_eq_true rfl) (w' := [(h, .inr (12, fsM q 0 0 0 0 0)), ((q 24), .inl (K 0, 2, .inl (gl [0, 0]))), ((q 25), .inl (K 0, 128, .inl (fun _ => 0)))]) rfl dX12_noise_2 ?_
          refine v_iload_n B dX12_noise_5 rfl rfl ?_
          refine v_iconst B (v := 2) dX12_noise_6 (by decide +kernel) ?_
          refine v_callSi B (n := 2) (As := [.int 1, .int 2]) (rest := []) (wc := []) (wr := [(h, .inr (12, fsM q 0 0 0 0 0)), ((q 24), .inl (K 0, 2, .inl (gl [0, 0]))), ((q 25), .inl (K 0, 128, .inl (fun _ => 0)))]) (m_in_T l D K 1 2 (by decide +kernel) (by decide +kernel)) gd_y_noise_m_in_T_413 rfl rfl rfl (by decide +kernel) ⟨by decide +kernel, by decide +kernel⟩ (sp_pl [] [0, 1, 2] rfl rfl rfl rfl rfl) rfl rfl (Nat.le_of_ble_eq_true rfl) dX12_noise_7 ⟨by decide +kernel, by decide +kernel⟩ (fun r_33 u_31 hp_32 => ?_)
          subst hp_32
          show V _ _ _ _ _ _ _ _ _ _ _ _ _ _ (0, 0) [(h, .inr (12, fsM q 0 0 0 0 0)), ((q 24), .inl (K 0, 2, .inl (gl [0, 0]))), ((q 25), .inl (K 0, 128, .inl (fun _ => 0)))] _ _ [.int 1]
          show V _ _ _ _ _ _ _ _ _ _ _ _ _ _ (0, 0) [(h, .inr (12, fsM q 0 0 0 0 0)), ((q 24), .inl (K 0, 2, .inl (gl [0, 0]))), ((q 25), .inl (K 0, 128, .inl (fun _ => 0)))] _ _ _
          refine v_if_eq B (tgt := 34) dX12_noise_10 (by decide +kernel) (fun h => absurd h (by decide +kernel)) (fun _ => ?_)
          refine v_iload_n B dX12_noise_13 rfl rfl ?_
          refine v_sipush B (v := 320) dX12_noise_14 (by decide +kernel) ?_
          refine v_callSi B (n := 2) (As := [.int bt, .int 320]) (rest := []) (wc := []) (wr := [(h, .inr (12, fsM q 0 0 0 0 0)), ((q 24), .inl (K 0, 2, .inl (gl [0, 0]))), ((q 25), .inl (K 0, 128, .inl (fun _ => 0)))]) (m_in_T l D K bt 320 e_bt f_bt) gd_y_noise_m_in_T_413 rfl rfl rfl (by decide +kernel) ⟨by decide +kernel, by decide +kernel⟩ (sp_pl [] [0, 1, 2] rfl rfl rfl rfl rfl) rfl rfl (Nat.le_of_ble_eq_true rfl) dX12_noise_17 ⟨by decide +kernel, by decide +kernel⟩ (fun r_36 u_34 hp_35 => ?_)
          subst hp_35
          show V _ _ _ _ _ _ _ _ _ _ _ _ _ _ (0, 0) [(h, .inr (12, fsM q 0 0 0 0 0)), ((q 24), .inl (K 0, 2, .inl (gl [0, 0]))), ((q 25), .inl (K 0, 128, .inl (fun _ => 0)))] _ _ [.int 1]
          show V _ _ _ _ _ _ _ _ _ _ _ _ _ _ (0, 0) [(h, .inr (12, fsM q 0 0 0 0 0)), ((q 24), .inl (K 0, 2, .inl (gl [0, 0]))), ((q 25), .inl (K 0, 128, .inl (fun _ => 0)))] _ _ _
          refine v_if_eq B (tgt := 34) dX12_noise_20 (by decide +kernel) (fun h => absurd h (by decide +kernel)) (fun _ => ?_)
          refine v_aload_n B dX12_noise_23 rfl rfl ?_
          refine v_get B (C := RX12) (T := TX12) (N := 123) (ci := 12) (k0 := 0) hi_y_noise_X12 rfl rfl 24 (by decide +kernel) (List.mem_of_getElem? (i := 6) rfl) rfl dX12_noise_24 ?_
          refine v_iload_n B dX12_noise_27 rfl rfl ?_
          refine v_iald B (k0 := 1) (t0 := 0) (v := 0) rfl rfl (vpi (by decide +kernel)) rfl dX12_noise_28 ?_
          refine v_bipush B (v := 64) dX12_noise_29 (by decide +kernel) ?_
          refine v_icmp_ne B (tgt := 36) dX12_noise_31 (by decide +kernel) (fun _ => ?_) (fun h => absurd h (by decide +kernel))
          refine v_aload_n B dX12_noise_36 rfl rfl ?_
          refine v_get B (C := RX12) (T := TX12) (N := 123) (ci := 12) (k0 := 0) hi_y_noise_X12 rfl rfl 25 (by decide +kernel) (List.mem_of_getElem? (i := 7) rfl) rfl dX12_noise_37 ?_
          refine v_bipush B (v := 64) dX12_noise_40 (by decide +kernel) ?_
          refine v_iload_n B dX12_noise_42 rfl rfl ?_
          refine v_imul B (v := 64) dX12_noise_43 (by decide +kernel) ?_
          refine v_aload_n B dX12_noise_44 rfl rfl ?_
          refine v_get B (C := RX12) (T := TX12) (N := 123) (ci := 12) (k0 := 0) hi_y_noise_X12 rfl rfl 24 (by decide +kernel) (List.mem_of_getElem? (i := 6) rfl) rfl dX12_noise_45 ?_
          refine v_iload_n B dX12_noise_48 rfl rfl ?_
          refine v_iald B (k0 := 1) (t0 := 0) (v := 0) rfl rfl (vpi (by decide +kernel)) rfl dX12_noise_49 ?_
          refine v_iadd B (v := 64) dX12_noise_50 (by decide +kernel) ?_
          refine v_iload_n B dX12_noise_51 rfl rfl ?_
          refine v_iast B (k0 := 2) (t0 := 0) (w' := [(h, .inr (12, fsM q 0 0 0 0 0)), ((q 24), .inl (K 0, 2, .inl (gl [0, 0]))), ((q 25), .inl (K 0, 128, .inl (upd (fun _ => 0) (64 : Int32).toNatClampNeg bt)))]) rfl rfl (vpi (by decide +kernel)) rfl dX12_noise_52 ?_
          refine v_aload_n B dX12_noise_53 rfl rfl ?_
          refine v_get B (C := RX12) (T := TX12) (N := 123) (ci := 12) (k0 := 0) hi_y_noise_X12 rfl rfl 24 (by decide +kernel) (List.mem_of_getElem? (i := 6) rfl) rfl dX12_noise_54 ?_
          refine v_iload_n B dX12_noise_57 rfl rfl ?_
          refine v_dup2 B dX12_noise_58 rfl rfl ?_
          refine v_iald B (k0 := 1) (t0 := 0) (v := 0) rfl rfl (vpi (by decide +kernel)) rfl dX12_noise_59 ?_
          refine v_iconst B (v := 1) dX12_noise_60 (by decide +kernel) ?_
          refine v_iadd B (v := 1) dX12_noise_61 (by decide +kernel) ?_
          refine v_iastL B (k0 := 1) (t0 := 0) (k := 1) (y := 1) (w' := [(h, .inr (12, fsM q 0 0 0 0 0)), ((q 24), .inl (K 0, 2, .inl (gl [0, 1]))), ((q 25), .inl (K 0, 128, .inl (upd (fun _ => 0) (64 : Int32).toNatClampNeg bt)))]) rfl rfl (vpi (by decide +kernel)) (by decide +kernel) (Nat.le_of_ble_eq_true rfl) rfl rfl dX12_noise_62 ?_
          refine v_iconst B (v := 1) dX12_noise_63 (by decide +kernel) ?_
          refine v_forget (wc := []) (wr := []) (sp_pl [] [] rfl rfl rfl rfl rfl) ?_
          exact v_zret B hr hlk (by decide +kernel) () (by simp [an_noise, e_bt, (rg_ngt (Int32.not_le.mp f_bt) (by decide +kernel) : ¬ 319 < bt), f_bt]) rfl (by decide +kernel) (by decide +kernel) dX12_noise_64
    · skip
      by_cases e1 : d < 0
      · skip
        refine v_aload_n B dX12_noise_0 rfl rfl ?_
        refine v_iconst B (v := 0) dX12_noise_1 (by decide +kernel) ?_
        refine v_put B (C := RX12) (T := TX12) (N := 123) (ci := 12) (k0 := 0) hi_y_noise_X12 rfl rfl 0 (by decide +kernel) tyX12 tyX12_ok nmX12 (List.mem_of_getElem? (i := 1) rfl) rfl (ty := .int) (tyX12_ok 0 (by decide +kernel)) rfl rfl (Nat.le_of_ble_eq_true rfl) (w' := [(h, .inr (12, fsM q 0 0 0 0 0)), ((q 24), .inl (K 0, 2, .inl (gl [0, 0]))), ((q 25), .inl (K 0, 128, .inl (fun _ => 0)))]) rfl dX12_noise_2 ?_
        refine v_iload_n B dX12_noise_5 rfl rfl ?_
        refine v_iconst B (v := 2) dX12_noise_6 (by decide +kernel) ?_
        refine v_callSi B (n := 2) (As := [.int d, .int 2]) (rest := []) (wc := []) (wr := [(h, .inr (12, fsM q 0 0 0 0 0)), ((q 24), .inl (K 0, 2, .inl (gl [0, 0]))), ((q 25), .inl (K 0, 128, .inl (fun _ => 0)))]) (m_in_F1 l D K d 2 e1) gd_y_noise_m_in_F1_413 rfl rfl rfl (by decide +kernel) ⟨by decide +kernel, by decide +kernel⟩ (sp_pl [] [0, 1, 2] rfl rfl rfl rfl rfl) rfl rfl (Nat.le_of_ble_eq_true rfl) dX12_noise_7 ⟨by decide +kernel, by decide +kernel⟩ (fun r_39 u_37 hp_38 => ?_)
        subst hp_38
        show V _ _ _ _ _ _ _ _ _ _ _ _ _ _ (0, 0) [(h, .inr (12, fsM q 0 0 0 0 0)), ((q 24), .inl (K 0, 2, .inl (gl [0, 0]))), ((q 25), .inl (K 0, 128, .inl (fun _ => 0)))] _ _ [.int 0]
        show V _ _ _ _ _ _ _ _ _ _ _ _ _ _ (0, 0) [(h, .inr (12, fsM q 0 0 0 0 0)), ((q 24), .inl (K 0, 2, .inl (gl [0, 0]))), ((q 25), .inl (K 0, 128, .inl (fun _ => 0)))] _ _ _
        refine v_if_eq B (tgt := 34) dX12_noise_10 (by decide +kernel) (fun _ => ?_) (fun h => absurd (by decide +kernel) h)
        refine v_iconst B (v := 0) dX12_noise_34 (by decide +kernel) ?_
        refine v_forget (wc := []) (wr := []) (sp_pl [] [] rfl rfl rfl rfl rfl) ?_
        exact v_zret B hr hlk (by decide +kernel) () (by simp [an_noise, h0, h1]) rfl (by decide +kernel) (by decide +kernel) dX12_noise_35
      · skip
        refine v_aload_n B dX12_noise_0 rfl rfl ?_
        refine v_iconst B (v := 0) dX12_noise_1 (by decide +kernel) ?_
        refine v_put B (C := RX12) (T := TX12) (N := 123) (ci := 12) (k0 := 0) hi_y_noise_X12 rfl rfl 0 (by decide +kernel) tyX12 tyX12_ok nmX12 (List.mem_of_getElem? (i := 1) rfl) rfl (ty := .int) (tyX12_ok 0 (by decide +kernel)) rfl rfl (Nat.le_of_ble_eq_true rfl) (w' := [(h, .inr (12, fsM q 0 0 0 0 0)), ((q 24), .inl (K 0, 2, .inl (gl [0, 0]))), ((q 25), .inl (K 0, 128, .inl (fun _ => 0)))]) rfl dX12_noise_2 ?_
        refine v_iload_n B dX12_noise_5 rfl rfl ?_
        refine v_iconst B (v := 2) dX12_noise_6 (by decide +kernel) ?_
        refine v_callSi B (n := 2) (As := [.int d, .int 2]) (rest := []) (wc := []) (wr := [(h, .inr (12, fsM q 0 0 0 0 0)), ((q 24), .inl (K 0, 2, .inl (gl [0, 0]))), ((q 25), .inl (K 0, 128, .inl (fun _ => 0)))]) (m_in_F2 l D K d 2 (rg_nlt (i_ge2 h0 h1 e1) (by decide +kernel)) (rg_ge (i_ge2 h0 h1 e1) (by decide +kernel))) gd_y_noise_m_in_F2_413 rfl rfl rfl (by decide +kernel) ⟨by decide +kernel, by decide +kernel⟩ (sp_pl [] [0, 1, 2] rfl rfl rfl rfl rfl) rfl rfl (Nat.le_of_ble_eq_true rfl) dX12_noise_7 ⟨by decide +kernel, by decide +kernel⟩ (fun r_42 u_40 hp_41 => ?_)
        subst hp_41
        show V _ _ _ _ _ _ _ _ _ _ _ _ _ _ (0, 0) [(h, .inr (12, fsM q 0 0 0 0 0)), ((q 24), .inl (K 0, 2, .inl (gl [0, 0]))), ((q 25), .inl (K 0, 128, .inl (fun _ => 0)))] _ _ [.int 0]
        show V _ _ _ _ _ _ _ _ _ _ _ _ _ _ (0, 0) [(h, .inr (12, fsM q 0 0 0 0 0)), ((q 24), .inl (K 0, 2, .inl (gl [0, 0]))), ((q 25), .inl (K 0, 128, .inl (fun _ => 0)))] _ _ _
        refine v_if_eq B (tgt := 34) dX12_noise_10 (by decide +kernel) (fun _ => ?_) (fun h => absurd (by decide +kernel) h)
        refine v_iconst B (v := 0) dX12_noise_34 (by decide +kernel) ?_
        refine v_forget (wc := []) (wr := []) (sp_pl [] [] rfl rfl rfl rfl rfl) ?_
        exact v_zret B hr hlk (by decide +kernel) () (by simp [an_noise, h0, h1]) rfl (by decide +kernel) (by decide +kernel) dX12_noise_35

def wp_y_end : List Cond := .code yX12_end cX12_end 2 (some .int) :: ([.fieldLink RX12 1 "LowEnergyModel" "thrown" "I", .fieldLink RX12 7 "LowEnergyModel" "taped" "I"] ++ (wsX120 ++ ([])))
theorem hi_y_end_X12 : ∀ x ∈ u_ws RX12 TX12 123, x ∈ wp_y_end := fun _ h => List.mem_cons_of_mem _ (List.mem_append_right _ (List.mem_append_left _ h))
set_option maxHeartbeats 4000000 in
set_option maxRecDepth 100000 in
theorem y_end (l : Launch) (D : va_G) (K : Nat → ClassId) (h : Nat) (q : Nat → Nat) (fa : Int64) (sa : Int64) (n : Int32) : MG l yX12_end wp_y_end ({ frames := 0, cells := 0, slots := 0, locals := 0 }) D (tysA K) [.ref h, .int n] [(h, .inr (12, fsM q 0 0 0 0 0))] (Qi D (fun (r : Int32) (_ : Unit) => r = an_end n) (fun _ => [])) 0 0 := by
  refine mg_of (cc := cX12_end) (maxL := 2) (ret := (some .int)) (by decide +kernel) rfl (Nat.le_of_ble_eq_true rfl) ?_
  intro p e s m below meth c A B hr hlk hnam
  show V _ _ _ _ _ _ _ _ _ _ _ _ _ _ _ _ [(0, .ref h), (1, .int n)] _ _
  by_cases e1 : n < 0
  · skip
    refine v_aload_n B dX12_end_0 rfl rfl ?_
    refine v_iconst B (v := 0) dX12_end_1 (by decide +kernel) ?_
    refine v_put B (C := RX12) (T := TX12) (N := 123) (ci := 12) (k0 := 0) hi_y_end_X12 rfl rfl 0 (by decide +kernel) tyX12 tyX12_ok nmX12 (List.mem_of_getElem? (i := 1) rfl) rfl (ty := .int) (tyX12_ok 0 (by decide +kernel)) rfl rfl (Nat.le_of_ble_eq_true rfl) (w' := [(h, .inr (12, fsM q 0 0 0 0 0))]) rfl dX12_end_2 ?_
    refine v_iload_n B dX12_end_5 rfl rfl ?_
    refine v_if_lt B (tgt := 17) dX12_end_6 (by decide +kernel) (fun _ => ?_) (fun h => absurd (rg_lt e1 (by decide +kernel)) h)
    refine v_iconst B (v := (-1)) dX12_end_17 (by decide +kernel) ?_
    refine v_forget (wc := []) (wr := []) (sp_pl [] [] rfl rfl rfl rfl rfl) ?_
    exact v_iret B hr hlk () (by simp [an_end, e1]) rfl (by decide +kernel) (by decide +kernel) dX12_end_18
  · by_cases e2 : n ≤ 0
    · have e0 : n = 0 := Int32.le_antisymm e2 (Int32.not_lt.mp e1)
      subst e0
      refine v_aload_n B dX12_end_0 rfl rfl ?_
      refine v_iconst B (v := 0) dX12_end_1 (by decide +kernel) ?_
      refine v_put B (C := RX12) (T := TX12) (N := 123) (ci := 12) (k0 := 0) hi_y_end_X12 rfl rfl 0 (by decide +kernel) tyX12 tyX12_ok nmX12 (List.mem_of_getElem? (i := 1) rfl) rfl (ty := .int) (tyX12_ok 0 (by decide +kernel)) rfl rfl (Nat.le_of_ble_eq_true rfl) (w' := [(h, .inr (12, fsM q 0 0 0 0 0))]) rfl dX12_end_2 ?_
      refine v_iload_n B dX12_end_5 rfl rfl ?_
      refine v_if_lt B (tgt := 17) dX12_end_6 (by decide +kernel) (fun h => absurd h (by decide +kernel)) (fun _ => ?_)
      refine v_iload_n B dX12_end_9 rfl rfl ?_
      refine v_aload_n B dX12_end_10 rfl rfl ?_
      refine v_get B (C := RX12) (T := TX12) (N := 123) (ci := 12) (k0 := 0) hi_y_end_X12 rfl rfl 2 (by decide +kernel) (List.mem_of_getElem? (i := 2) rfl) rfl dX12_end_11 ?_
      refine v_icmp_le B (tgt := 19) dX12_end_14 (by decide +kernel) (fun _ => ?_) (fun h => absurd (by decide +kernel) h)
      refine v_aload_n B dX12_end_19 rfl rfl ?_
      refine v_iload_n B dX12_end_20 rfl rfl ?_
      refine v_put B (C := RX12) (T := TX12) (N := 123) (ci := 12) (k0 := 0) hi_y_end_X12 rfl rfl 2 (by decide +kernel) tyX12 tyX12_ok nmX12 (List.mem_of_getElem? (i := 2) rfl) rfl (ty := .int) (tyX12_ok 2 (by decide +kernel)) rfl rfl (Nat.le_of_ble_eq_true rfl) (w' := [(h, .inr (12, fsM q 0 0 0 0 0))]) rfl dX12_end_21 ?_
      refine v_iload_n B dX12_end_24 rfl rfl ?_
      refine v_forget (wc := []) (wr := []) (sp_pl [] [] rfl rfl rfl rfl rfl) ?_
      exact v_iret B hr hlk () (by simp [an_end]) rfl (by decide +kernel) (by decide +kernel) dX12_end_25
    · have e3 : 1 ≤ n := rg_ge1 e2
      refine v_aload_n B dX12_end_0 rfl rfl ?_
      refine v_iconst B (v := 0) dX12_end_1 (by decide +kernel) ?_
      refine v_put B (C := RX12) (T := TX12) (N := 123) (ci := 12) (k0 := 0) hi_y_end_X12 rfl rfl 0 (by decide +kernel) tyX12 tyX12_ok nmX12 (List.mem_of_getElem? (i := 1) rfl) rfl (ty := .int) (tyX12_ok 0 (by decide +kernel)) rfl rfl (Nat.le_of_ble_eq_true rfl) (w' := [(h, .inr (12, fsM q 0 0 0 0 0))]) rfl dX12_end_2 ?_
      refine v_iload_n B dX12_end_5 rfl rfl ?_
      refine v_if_lt B (tgt := 17) dX12_end_6 (by decide +kernel) (fun h => absurd h (rg_nlt e3 (by decide +kernel))) (fun _ => ?_)
      refine v_iload_n B dX12_end_9 rfl rfl ?_
      refine v_aload_n B dX12_end_10 rfl rfl ?_
      refine v_get B (C := RX12) (T := TX12) (N := 123) (ci := 12) (k0 := 0) hi_y_end_X12 rfl rfl 2 (by decide +kernel) (List.mem_of_getElem? (i := 2) rfl) rfl dX12_end_11 ?_
      refine v_icmp_le B (tgt := 19) dX12_end_14 (by decide +kernel) (fun h => absurd h (rg_nle e3 (by decide +kernel))) (fun _ => ?_)
      refine v_iconst B (v := (-1)) dX12_end_17 (by decide +kernel) ?_
      refine v_forget (wc := []) (wr := []) (sp_pl [] [] rfl rfl rfl rfl rfl) ?_
      exact v_iret B hr hlk () (by simp [an_end, e1, e2]) rfl (by decide +kernel) (by decide +kernel) dX12_end_18
