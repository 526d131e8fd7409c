def wp_y_air : List Cond := .code yX12_air cX12_air 3 (some .int) :: ([.fieldLink RX12 429 "LowEnergyModel" "packets" "I", .methodLink RX12 413 yX12_in, .static yX12_in, .initialized RX12, .code yX12_in cX12_in 2 (some .boolean), .fieldLink RX12 1 "LowEnergyModel" "thrown" "I"] ++ (wsX120 ++ ([])))
theorem hi_y_air_X12 : ∀ x ∈ u_ws RX12 TX12 123, x ∈ wp_y_air := fun _ h => List.mem_cons_of_mem _ (List.mem_append_right _ (List.mem_append_left _ h))
set_option maxRecDepth 100000 in
theorem gd_y_air_m_in_F1_413 : GoodIn wp_y_air (va_wsS RX12 413 yX12_in wp_m_in_F1) := goodIn_app (goodIn_r _ [2, 3, 4] rfl rfl) (goodIn_ca (goodIn_r _ [5] rfl rfl) (goodIn_nil))
set_option maxRecDepth 100000 in
theorem gd_y_air_m_in_F2_413 : GoodIn wp_y_air (va_wsS RX12 413 yX12_in wp_m_in_F2) := goodIn_app (goodIn_r _ [2, 3, 4] rfl rfl) (goodIn_ca (goodIn_r _ [5] rfl rfl) (goodIn_nil))
set_option maxHeartbeats 4000000 in
set_option maxRecDepth 100000 in
theorem y_air (l : Launch) (D : va_G) (K : Nat → ClassId) (h : Nat) (q : Nat → Nat) (k9 : Int32) (i : Int32) : MG l yX12_air wp_y_air ({ frames := 1, cells := 0, slots := 0, locals := 21 }) D (tysA K) [.ref h, .int k9, .int i] [(h, .inr (12, fsM q 0 0 0 0 0))] (Qi D (fun (r : Int32) (_ : Unit) => r = 0) (fun _ => [(h, .inr (12, fsM q 1 0 0 0 0))])) 0 0 := by
  refine mg_of (cc := cX12_air) (maxL := 3) (ret := (some .int)) (by decide +kernel) rfl (Nat.le_of_ble_eq_true rfl) ?_
  intro p e s m below meth c A B hr hlk hnam
  show V _ _ _ _ _ _ _ _ _ _ _ _ _ _ _ _ [(0, .ref h), (1, .int k9), (2, .int i)] _ _
  by_cases e1 : k9 < 0
  · skip
    refine v_aload_n B dX12_air_0 rfl rfl ?_
    refine v_iload_n B dX12_air_1 rfl rfl ?_
    refine v_aload_n B dX12_air_2 rfl rfl ?_
    refine v_get B (C := RX12) (T := TX12) (N := 123) (ci := 12) (k0 := 0) hi_y_air_X12 rfl rfl 51 (by decide +kernel) (List.mem_of_getElem? (i := 1) rfl) rfl dX12_air_3 ?_
    refine v_callSi B (n := 2) (As := [.int k9, .int 0]) (rest := [.ref h]) (wc := []) (wr := [(h, .inr (12, fsM q 0 0 0 0 0))]) (m_in_F1 l D K k9 0 e1) gd_y_air_m_in_F1_413 rfl rfl rfl (by decide +kernel) ⟨by decide +kernel, by decide +kernel⟩ (sp_pl [] [0] rfl rfl rfl rfl rfl) rfl rfl (Nat.le_of_ble_eq_true rfl) dX12_air_6 ⟨by decide +kernel, by decide +kernel⟩ (fun r_3 u_1 hp_2 => ?_)
    subst hp_2
    show V _ _ _ _ _ _ _ _ _ _ _ _ _ _ (0, 0) [(h, .inr (12, fsM q 0 0 0 0 0))] _ _ [.int 0, .ref h]
    show V _ _ _ _ _ _ _ _ _ _ _ _ _ _ (0, 0) [(h, .inr (12, fsM q 0 0 0 0 0))] _ _ _
    refine v_if_eq B (tgt := 40) dX12_air_9 (by decide +kernel) (fun _ => ?_) (fun h => absurd (by decide +kernel) h)
    refine v_iconst B (v := 1) dX12_air_40 (by decide +kernel) ?_
    refine v_put B (C := RX12) (T := TX12) (N := 123) (ci := 12) (k0 := 0) hi_y_air_X12 rfl rfl 0 (by decide +kernel) tyX12 tyX12_ok nmX12 (List.mem_of_getElem? (i := 6) rfl) rfl (ty := .int) (tyX12_ok 0 (by decide +kernel)) rfl rfl (Nat.le_of_ble_eq_true rfl) (w' := [(h, .inr (12, fsM q 1 0 0 0 0))]) rfl dX12_air_41 ?_
    refine v_aload_n B dX12_air_44 rfl rfl ?_
    refine v_get B (C := RX12) (T := TX12) (N := 123) (ci := 12) (k0 := 0) hi_y_air_X12 rfl rfl 0 (by decide +kernel) (List.mem_of_getElem? (i := 6) rfl) rfl dX12_air_45 ?_
    refine v_if_le B (tgt := 53) dX12_air_48 (by decide +kernel) (fun h => absurd h (by decide +kernel)) (fun _ => ?_)
    refine v_iconst B (v := 0) dX12_air_51 (by decide +kernel) ?_
    exact v_iret B hr hlk () rfl rfl (by decide +kernel) (by decide +kernel) dX12_air_52
  · skip
    refine v_aload_n B dX12_air_0 rfl rfl ?_
    refine v_iload_n B dX12_air_1 rfl rfl ?_
    refine v_aload_n B dX12_air_2 rfl rfl ?_
    refine v_get B (C := RX12) (T := TX12) (N := 123) (ci := 12) (k0 := 0) hi_y_air_X12 rfl rfl 51 (by decide +kernel) (List.mem_of_getElem? (i := 1) rfl) rfl dX12_air_3 ?_
    refine v_callSi B (n := 2) (As := [.int k9, .int 0]) (rest := [.ref h]) (wc := []) (wr := [(h, .inr (12, fsM q 0 0 0 0 0))]) (m_in_F2 l D K k9 0 (rg_nlt (Int32.not_lt.mp e1) (by decide +kernel)) (rg_ge (Int32.not_lt.mp e1) (by decide +kernel))) gd_y_air_m_in_F2_413 rfl rfl rfl (by decide +kernel) ⟨by decide +kernel, by decide +kernel⟩ (sp_pl [] [0] rfl rfl rfl rfl rfl) rfl rfl (Nat.le_of_ble_eq_true rfl) dX12_air_6 ⟨by decide +kernel, by decide +kernel⟩ (fun r_6 u_4 hp_5 => ?_)
    subst hp_5
    show V _ _ _ _ _ _ _ _ _ _ _ _ _ _ (0, 0) [(h, .inr (12, fsM q 0 0 0 0 0))] _ _ [.int 0, .ref h]
    show V _ _ _ _ _ _ _ _ _ _ _ _ _ _ (0, 0) [(h, .inr (12, fsM q 0 0 0 0 0))] _ _ _
    refine v_if_eq B (tgt := 40) dX12_air_9 (by decide +kernel) (fun _ => ?_) (fun h => absurd (by decide +kernel) h)
    refine v_iconst B (v := 1) dX12_air_40 (by decide +kernel) ?_
    refine v_put B (C := RX12) (T := TX12) (N := 123) (ci := 12) (k0 := 0) hi_y_air_X12 rfl rfl 0 (by decide +kernel) tyX12 tyX12_ok nmX12 (List.mem_of_getElem? (i := 6) rfl) rfl (ty := .int) (tyX12_ok 0 (by decide +kernel)) rfl rfl (Nat.le_of_ble_eq_true rfl) (w' := [(h, .inr (12, fsM q 1 0 0 0 0))]) rfl dX12_air_41 ?_
    refine v_aload_n B dX12_air_44 rfl rfl ?_
    refine v_get B (C := RX12) (T := TX12) (N := 123) (ci := 12) (k0 := 0) hi_y_air_X12 rfl rfl 0 (by decide +kernel) (List.mem_of_getElem? (i := 6) rfl) rfl dX12_air_45 ?_
    refine v_if_le B (tgt := 53) dX12_air_48 (by decide +kernel) (fun h => absurd h (by decide +kernel)) (fun _ => ?_)
    refine v_iconst B (v := 0) dX12_air_51 (by decide +kernel) ?_
    exact v_iret B hr hlk () rfl rfl (by decide +kernel) (by decide +kernel) dX12_air_52

def wp_y_value : List Cond := .code yX12_value cX12_value 5 (some .int) :: ([.methodLink RX12 413 yX12_in, .static yX12_in, .initialized RX12, .code yX12_in cX12_in 2 (some .boolean), .methodLink RX12 567 yX12_isHandle, .instanceMethod yX12_isHandle, .selects RX12 yX12_isHandle yX12_isHandle, .code yX12_isHandle cX12_isHandle 3 (some .boolean), .fieldLink RX12 320 "LowEnergyModel" "attributes" "[I", .fieldLink RX12 1 "LowEnergyModel" "thrown" "I"] ++ (wsX120 ++ ([])))
theorem hi_y_value_X12 : ∀ x ∈ u_ws RX12 TX12 123, x ∈ wp_y_value := fun _ h => List.mem_cons_of_mem _ (List.mem_append_right _ (List.mem_append_left _ h))
set_option maxRecDepth 100000 in
theorem gd_y_value_m_in_T_413 : GoodIn wp_y_value (va_wsS RX12 413 yX12_in wp_m_in_T) := goodIn_app (goodIn_r _ [1, 2, 3] rfl rfl) (goodIn_ca (goodIn_r _ [4] rfl rfl) (goodIn_nil))
set_option maxRecDepth 100000 in
theorem gd_y_value_m_isHandle_0_567 : GoodIn wp_y_value (wsV RX12 567 RX12 yX12_isHandle wp_m_isHandle_0) := goodIn_app (goodIn_r _ [5, 6, 7, 3] rfl rfl) (goodIn_ca (goodIn_r _ [8, 9] rfl rfl) (goodIn_app (goodIn_cls hi_y_value_X12 gw_X12) (goodIn_nil)))
set_option maxRecDepth 100000 in
theorem gd_y_value_m_isHandle_1_567 : GoodIn wp_y_value (wsV RX12 567 RX12 yX12_isHandle wp_m_isHandle_1) := goodIn_app (goodIn_r _ [5, 6, 7, 3] rfl rfl) (goodIn_ca (goodIn_r _ [8, 9] rfl rfl) (goodIn_app (goodIn_cls hi_y_value_X12 gw_X12) (goodIn_nil)))
set_option maxRecDepth 100000 in
theorem gd_y_value_m_in_F1_413 : GoodIn wp_y_value (va_wsS RX12 413 yX12_in wp_m_in_F1) := goodIn_app (goodIn_r _ [1, 2, 3] rfl rfl) (goodIn_ca (goodIn_r _ [4] rfl rfl) (goodIn_nil))
set_option maxRecDepth 100000 in
theorem gd_y_value_m_in_F2_413 : GoodIn wp_y_value (va_wsS RX12 413 yX12_in wp_m_in_F2) := goodIn_app (goodIn_r _ [1, 2, 3] rfl rfl) (goodIn_ca (goodIn_r _ [4] rfl rfl) (goodIn_nil))
set_option maxHeartbeats 4000000 in
set_option maxRecDepth 100000 in
theorem y_value (l : Launch) (D : va_G) (K : Nat → ClassId) (h : Nat) (q : Nat → Nat) (fa : Int64) (sa : Int64) (d : Int32) (hd : Int32) (i : Int32) : MG l yX12_value wp_y_value ({ frames := 1, cells := 0, slots := 0, locals := 22 }) D (tysA K) [.ref h, .int d, .int hd, .int i] [(h, .inr (12, fsM q 0 0 0 0 0)), ((q 100), .inl (K 0, 2, .inl (gl [0, 0])))] (Qi D (fun (r : Int32) (_ : Unit) => r = 0) (fun _ => [(h, .inr (12, fsM q 1 0 0 0 0))])) 0 0 := by
  refine mg_of (cc := cX12_value) (maxL := 5) (ret := (some .int)) (by decide +kernel) rfl (Nat.le_of_ble_eq_true rfl) ?_
  intro p e s m below meth c A B hr hlk hnam
  show V _ _ _ _ _ _ _ _ _ _ _ _ _ _ _ _ [(0, .ref h), (1, .int d), (2, .int hd), (3, .int i)] _ _
  by_cases h0 : d = 0
  · subst h0
    refine v_iload_n B dX12_value_0 rfl rfl ?_
    refine v_iconst B (v := 2) dX12_value_1 (by decide +kernel) ?_
    refine v_callSi B (n := 2) (As := [.int 0, .int 2]) (rest := []) (wc := []) (wr := [(h, .inr (12, fsM q 0 0 0 0 0)), ((q 100), .inl (K 0, 2, .inl (gl [0, 0])))]) (m_in_T l D K 0 2 (by decide +kernel) (by decide +kernel)) gd_y_value_m_in_T_413 rfl rfl rfl (by decide +kernel) ⟨by decide +kernel, by decide +kernel⟩ (sp_pl [] [0, 1] rfl rfl rfl rfl rfl) rfl rfl (Nat.le_of_ble_eq_true rfl) dX12_value_2 ⟨by decide +kernel, by decide +kernel⟩ (fun r_3 u_1 hp_2 => ?_)
    subst hp_2
    show V _ _ _ _ _ _ _ _ _ _ _ _ _ _ (0, 0) [(h, .inr (12, fsM q 0 0 0 0 0)), ((q 100), .inl (K 0, 2, .inl (gl [0, 0])))] _ _ [.int 1]
    show V _ _ _ _ _ _ _ _ _ _ _ _ _ _ (0, 0) [(h, .inr (12, fsM q 0 0 0 0 0)), ((q 100), .inl (K 0, 2, .inl (gl [0, 0])))] _ _ _
    refine v_if_eq B (tgt := 21) dX12_value_5 (by decide +kernel) (fun h => absurd h (by decide +kernel)) (fun _ => ?_)
    refine v_aload_n B dX12_value_8 rfl rfl ?_
    refine v_iload_n B dX12_value_9 rfl rfl ?_
    refine v_iload_n B dX12_value_10 rfl rfl ?_
    refine v_callVi B (b := h) (n := 2) (As := [.int 0, .int hd]) (rest := []) (wc := [(h, .inr (12, fsM q 0 0 0 0 0)), ((q 100), .inl (K 0, 2, .inl (gl [0, 0])))]) (wr := []) (m_isHandle_0 l D K h q fa sa hd) gd_y_value_m_isHandle_0_567 rfl rfl rfl (by decide +kernel) ⟨by decide +kernel, by decide +kernel⟩ 0 rfl rfl rfl (sp_pl [0, 1] [] rfl rfl rfl rfl rfl) rfl rfl (Nat.le_of_ble_eq_true rfl) dX12_value_11 ⟨by decide +kernel, by decide +kernel⟩ (fun r_6 u_4 hp_5 => ?_)
    subst hp_5
    show V _ _ _ _ _ _ _ _ _ _ _ _ _ _ (0, 0) [(h, .inr (12, fsM q 0 0 0 0 0)), ((q 100), .inl (K 0, 2, .inl (gl [0, 0])))] _ _ [.int 0]
    show V _ _ _ _ _ _ _ _ _ _ _ _ _ _ (0, 0) [(h, .inr (12, fsM q 0 0 0 0 0)), ((q 100), .inl (K 0, 2, .inl (gl [0, 0])))] _ _ _
    refine v_if_eq B (tgt := 21) dX12_value_14 (by decide +kernel) (fun _ => ?_) (fun h => absurd (by decide +kernel) h)
    refine v_iconst B (v := 0) dX12_value_21 (by decide +kernel) ?_
    refine v_istore B (lv' := [(4, .int 0), (0, .ref h), (1, .int 0), (2, .int hd), (3, .int i)]) dX12_value_22 (by decide +kernel) rfl ?_
    refine v_aload_n B dX12_value_24 rfl rfl ?_
    refine v_iload B dX12_value_25 rfl ?_
    refine v_if_eq B (tgt := 57) dX12_value_27 (by decide +kernel) (fun _ => ?_) (fun h => absurd (by decide +kernel) h)
    refine v_iconst B (v := 1) dX12_value_57 (by decide +kernel) ?_
    refine v_put B (C := RX12) (T := TX12) (N := 123) (ci := 12) (k0 := 0) hi_y_value_X12 rfl rfl 0 (by decide +kernel) tyX12 tyX12_ok nmX12 (List.mem_of_getElem? (i := 10) rfl) rfl (ty := .int) (tyX12_ok 0 (by decide +kernel)) rfl rfl (Nat.le_of_ble_eq_true rfl) (w' := [(h, .inr (12, fsM q 1 0 0 0 0)), ((q 100), .inl (K 0, 2, .inl (gl [0, 0])))]) rfl dX12_value_58 ?_
    refine v_aload_n B dX12_value_61 rfl rfl ?_
    refine v_get B (C := RX12) (T := TX12) (N := 123) (ci := 12) (k0 := 0) hi_y_value_X12 rfl rfl 0 (by decide +kernel) (List.mem_of_getElem? (i := 10) rfl) rfl dX12_value_62 ?_
    refine v_if_le B (tgt := 70) dX12_value_65 (by decide +kernel) (fun h => absurd h (by decide +kernel)) (fun _ => ?_)
    refine v_iconst B (v := 0) dX12_value_68 (by decide +kernel) ?_
    refine v_forget (wc := [(h, .inr (12, fsM q 1 0 0 0 0))]) (wr := []) (sp_pl [0] [] rfl rfl rfl rfl rfl) ?_
    exact v_iret B hr hlk () rfl rfl (by decide +kernel) (by decide +kernel) dX12_value_69
  · skip
    by_cases h1 : d = 1
    · subst h1
      refine v_iload_n B dX12_value_0 rfl rfl ?_
      refine v_iconst B (v := 2) dX12_value_1 (by decide +kernel) ?_
      refine v_callSi B (n := 2) (As := [.int 1, .int 2]) (rest := []) (wc := []) (wr := [(h, .inr (12, fsM q 0 0 0 0 0)), ((q 100), .inl (K 0, 2, .inl (gl [0, 0])))]) (m_in_T l D K 1 2 (by decide +kernel) (by decide +kernel)) gd_y_value_m_in_T_413 rfl rfl rfl (by decide +kernel) ⟨by decide +kernel, by decide +kernel⟩ (sp_pl [] [0, 1] rfl rfl rfl rfl rfl) rfl rfl (Nat.le_of_ble_eq_true rfl) dX12_value_2 ⟨by decide +kernel, by decide +kernel⟩ (fun r_9 u_7 hp_8 => ?_)
      subst hp_8
      show V _ _ _ _ _ _ _ _ _ _ _ _ _ _ (0, 0) [(h, .inr (12, fsM q 0 0 0 0 0)), ((q 100), .inl (K 0, 2, .inl (gl [0, 0])))] _ _ [.int 1]
      show V _ _ _ _ _ _ _ _ _ _ _ _ _ _ (0, 0) [(h, .inr (12, fsM q 0 0 0 0 0)), ((q 100), .inl (K 0, 2, .inl (gl [0, 0])))] _ _ _
      refine v_if_eq B (tgt := 21) dX12_value_5 (by decide +kernel) (fun h => absurd h (by decide +kernel)) (fun _ => ?_)
      refine v_aload_n B dX12_value_8 rfl rfl ?_
      refine v_iload_n B dX12_value_9 rfl rfl ?_
      refine v_iload_n B dX12_value_10 rfl rfl ?_
      refine v_callVi B (b := h) (n := 2) (As := [.int 1, .int hd]) (rest := []) (wc := [(h, .inr (12, fsM q 0 0 0 0 0)), ((q 100), .inl (K 0, 2, .inl (gl [0, 0])))]) (wr := []) (m_isHandle_1 l D K h q fa sa hd) gd_y_value_m_isHandle_1_567 rfl rfl rfl (by decide +kernel) ⟨by decide +kernel, by decide +kernel⟩ 0 rfl rfl rfl (sp_pl [0, 1] [] rfl rfl rfl rfl rfl) rfl rfl (Nat.le_of_ble_eq_true rfl) dX12_value_11 ⟨by decide +kernel, by decide +kernel⟩ (fun r_12 u_10 hp_11 => ?_)
      subst hp_11
      show V _ _ _ _ _ _ _ _ _ _ _ _ _ _ (0, 0) [(h, .inr (12, fsM q 0 0 0 0 0)), ((q 100), .inl (K 0, 2, .inl (gl [0, 0])))] _ _ [.int 0]
      show V _ _ _ _ _ _ _ _ _ _ _ _ _ _ (0, 0) [(h, .inr (12, fsM q 0 0 0 0 0)), ((q 100), .inl (K 0, 2, .inl (gl [0, 0])))] _ _ _
      refine v_if_eq B (tgt := 21) dX12_value_14 (by decide +kernel) (fun _ => ?_) (fun h => absurd (by decide +kernel) h)
      refine v_iconst B (v := 0) dX12_value_21 (by decide +kernel) ?_
      refine v_istore B (lv' := [(4, .int 0), (0, .ref h), (1, .int 1), (2, .int hd), (3, .int i)]) dX12_value_22 (by decide +kernel) rfl ?_
      refine v_aload_n B dX12_value_24 rfl rfl ?_
      refine v_iload B dX12_value_25 rfl ?_
      refine v_if_eq B (tgt := 57) dX12_value_27 (by decide +kernel) (fun _ => ?_) (fun h => absurd (by decide +kernel) h)
      refine v_iconst B (v := 1) dX12_value_57 (by decide +kernel) ?_
      refine v_put B (C := RX12) (T := TX12) (N := 123) (ci := 12) (k0 := 0) hi_y_value_X12 rfl rfl 0 (by decide +kernel) tyX12 tyX12_ok nmX12 (List.mem_of_getElem? (i := 10) rfl) rfl (ty := .int) (tyX12_ok 0 (by decide +kernel)) rfl rfl (Nat.le_of_ble_eq_true rfl) (w' := [(h, .inr (12, fsM q 1 0 0 0 0)), ((q 100), .inl (K 0, 2, .inl (gl [0, 0])))]) rfl dX12_value_58 ?_
      refine v_aload_n B dX12_value_61 rfl rfl ?_
      refine v_get B (C := RX12) (T := TX12) (N := 123) (ci := 12) (k0 := 0) hi_y_value_X12 rfl rfl 0 (by decide +kernel) (List.mem_of_getElem? (i := 10) rfl) rfl dX12_value_62 ?_
      refine v_if_le B (tgt := 70) dX12_value_65 (by decide +kernel) (fun h => absurd h (by decide +kernel)) (fun _ => ?_)
      refine v_iconst B (v := 0) dX12_value_68 (by decide +kernel) ?_
      refine v_forget (wc := [(h, .inr (12, fsM q 1 0 0 0 0))]) (wr := []) (sp_pl [0] [] rfl rfl rfl rfl rfl) ?_
      exact v_iret B hr hlk () rfl rfl (by decide +kernel) (by decide +kernel) dX12_value_69
    · skip
      by_cases e1 : d < 0
      · skip
        refine v_iload_n B dX12_value_0 rfl rfl ?_
        refine v_iconst B (v := 2) dX12_value_1 (by decide +kernel) ?_
        refine v_callSi B (n := 2) (As := [.int d, .int 2]) (rest := []) (wc := []) (wr := [(h, .inr (12, fsM q 0 0 0 0 0)), ((q 100), .inl (K 0, 2, .inl (gl [0, 0])))]) (m_in_F1 l D K d 2 e1) gd_y_value_m_in_F1_413 rfl rfl rfl (by decide +kernel) ⟨by decide +kernel, by decide +kernel⟩ (sp_pl [] [0, 1] rfl rfl rfl rfl rfl) rfl rfl (Nat.le_of_ble_eq_true rfl) dX12_value_2 ⟨by decide +kernel, by decide +kernel⟩ (fun r_15 u_13 hp_14 => ?_)
        subst hp_14
        show V _ _ _ _ _ _ _ _ _ _ _ _ _ _ (0, 0) [(h, .inr (12, fsM q 0 0 0 0 0)), ((q 100), .inl (K 0, 2, .inl (gl [0, 0])))] _ _ [.int 0]
        show V _ _ _ _ _ _ _ _ _ _ _ _ _ _ (0, 0) [(h, .inr (12, fsM q 0 0 0 0 0)), ((q 100), .inl (K 0, 2, .inl (gl [0, 0])))] _ _ _
        refine v_if_eq B (tgt := 21) dX12_value_5 (by decide +kernel) (fun _ => ?_) (fun h => absurd (by decide +kernel) h)
        refine v_iconst B (v := 0) dX12_value_21 (by decide +kernel) ?_
        refine v_istore B (lv' := [(4, .int 0), (0, .ref h), (1, .int d), (2, .int hd), (3, .int i)]) dX12_value_22 (by decide +kernel) rfl ?_
        refine v_aload_n B dX12_value_24 rfl rfl ?_
        refine v_iload B dX12_value_25 rfl ?_
        refine v_if_eq B (tgt := 57) dX12_value_27 (by decide +kernel) (fun _ => ?_) (fun h => absurd (by decide +kernel) h)
        refine v_iconst B (v := 1) dX12_value_57 (by decide +kernel) ?_
        refine v_put B (C := RX12) (T := TX12) (N := 123) (ci := 12) (k0 := 0) hi_y_value_X12 rfl rfl 0 (by decide +kernel) tyX12 tyX12_ok nmX12 (List.mem_of_getElem? (i := 10) rfl) rfl (ty := .int) (tyX12_ok 0 (by decide +kernel)) rfl rfl (Nat.le_of_ble_eq_true rfl) (w' := [(h, .inr (12, fsM q 1 0 0 0 0)), ((q 100), .inl (K 0, 2, .inl (gl [0, 0])))]) rfl dX12_value_58 ?_
        refine v_aload_n B dX12_value_61 rfl rfl ?_
        refine v_get B (C := RX12) (T := TX12) (N := 123) (ci := 12) (k0 := 0) hi_y_value_X12 rfl rfl 0 (by decide +kernel) (List.mem_of_getElem? (i := 10) rfl) rfl dX12_value_62 ?_
        refine v_if_le B (tgt := 70) dX12_value_65 (by decide +kernel) (fun h => absurd h (by decide +kernel)) (fun _ => ?_)
        refine v_iconst B (v := 0) dX12_value_68 (by decide +kernel) ?_
        refine v_forget (wc := [(h, .inr (12, fsM q 1 0 0 0 0))]) (wr := []) (sp_pl [0] [] rfl rfl rfl rfl rfl) ?_
        exact v_iret B hr hlk () rfl rfl (by decide +kernel) (by decide +kernel) dX12_value_69
      · skip
        refine v_iload_n B dX12_value_0 rfl rfl ?_
        refine v_iconst B (v := 2) dX12_value_1 (by decide +kernel) ?_
        refine v_callSi B (n := 2) (As := [.int d, .int 2]) (rest := []) (wc := []) (wr := [(h, .inr (12, fsM q 0 0 0 0 0)), ((q 100), .inl (K 0, 2, .inl (gl [0, 0])))]) (m_in_F2 l D K d 2 (rg_nlt (i_ge2 h0 h1 e1) (by decide +kernel)) (rg_ge (i_ge2 h0 h1 e1) (by decide +kernel))) gd_y_value_m_in_F2_413 rfl rfl rfl (by decide +kernel) ⟨by decide +kernel, by decide +kernel⟩ (sp_pl [] [0, 1] rfl rfl rfl rfl rfl) rfl rfl (Nat.le_of_ble_eq_true rfl) dX12_value_2 ⟨by decide +kernel, by decide +kernel⟩ (fun r_18 u_16 hp_17 => ?_)
        subst hp_17
        show V _ _ _ _ _ _ _ _ _ _ _ _ _ _ (0, 0) [(h, .inr (12, fsM q 0 0 0 0 0)), ((q 100), .inl (K 0, 2, .inl (gl [0, 0])))] _ _ [.int 0]
        show V _ _ _ _ _ _ _ _ _ _ _ _ _ _ (0, 0) [(h, .inr (12, fsM q 0 0 0 0 0)), ((q 100), .inl (K 0, 2, .inl (gl [0, 0])))] _ _ _
        refine v_if_eq B (tgt := 21) dX12_value_5 (by decide +kernel) (fun _ => ?_) (fun h => absurd (by decide +kernel) h)
        refine v_iconst B (v := 0) dX12_value_21 (by decide +kernel) ?_
        refine v_istore B (lv' := [(4, .int 0), (0, .ref h), (1, .int d), (2, .int hd), (3, .int i)]) dX12_value_22 (by decide +kernel) rfl ?_
        refine v_aload_n B dX12_value_24 rfl rfl ?_
        refine v_iload B dX12_value_25 rfl ?_
        refine v_if_eq B (tgt := 57) dX12_value_27 (by decide +kernel) (fun _ => ?_) (fun h => absurd (by decide +kernel) h)
        refine v_iconst B (v := 1) dX12_value_57 (by decide +kernel) ?_
        refine v_put B (C := RX12) (T := TX12) (N := 123) (ci := 12) (k0 := 0) hi_y_value_X12 rfl rfl 0 (by decide +kernel) tyX12 tyX12_ok nmX12 (List.mem_of_getElem? (i := 10) rfl) rfl (ty := .int) (tyX12_ok 0 (by decide +kernel)) rfl rfl (Nat.le_of_ble_eq_true rfl) (w' := [(h, .inr (12, fsM q 1 0 0 0 0)), ((q 100), .inl (K 0, 2, .inl (gl [0, 0])))]) rfl dX12_value_58 ?_
        refine v_aload_n B dX12_value_61 rfl rfl ?_
        refine v_get B (C := RX12) (T := TX12) (N := 123) (ci := 12) (k0 := 0) hi_y_value_X12 rfl rfl 0 (by decide +kernel) (List.mem_of_getElem? (i := 10) rfl) rfl dX12_value_62 ?_
        refine v_if_le B (tgt := 70) dX12_value_65 (by decide +kernel) (fun h => absurd h (by decide +kernel)) (fun _ => ?_)
        refine v_iconst B (v := 0) dX12_value_68 (by decide +kernel) ?_
        refine v_forget (wc := [(h, .inr (12, fsM q 1 0 0 0 0))]) (wr := []) (sp_pl [0] [] rfl rfl rfl rfl rfl) ?_
        exact v_iret B hr hlk () rfl rfl (by decide +kernel) (by decide +kernel) dX12_value_69

