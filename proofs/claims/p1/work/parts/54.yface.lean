def wp_m_row_0 : List Cond := .code yX12_row cX12_row 3 (some .int) :: ([] ++ ([]))
set_option maxHeartbeats 4000000 in
set_option maxRecDepth 100000 in
theorem m_row_0 (l : Launch) (D : va_G) (K : Nat → ClassId) (h : Nat) (q : Nat → Nat) (fa : Int64) (sa : Int64) : MG l yX12_row wp_m_row_0 ({ frames := 0, cells := 0, slots := 0, locals := 0 }) D (tysA K) [.ref h, .int 0, .int 1] [(h, .inr (12, fsM q 0 0 0 0 0))] (Qi D (fun (r : Int32) (_ : Unit) => r = 0) (fun _ => [(h, .inr (12, fsM q 0 0 0 0 0))])) 0 0 := by
  refine mg_of (cc := cX12_row) (maxL := 3) (ret := (some .int)) (by decide +kernel) rfl (Nat.le_of_ble_eq_true rfl) ?_
  intro p e s m below meth c A B hr hlk hnam
  show V _ _ _ _ _ _ _ _ _ _ _ _ _ _ _ _ [(0, .ref h), (1, .int 0), (2, .int 1)] _ _
  refine v_bipush B (v := 20) dX12_row_0 (by decide +kernel) ?_
  refine v_iload_n B dX12_row_2 rfl rfl ?_
  refine v_imul B (v := 0) dX12_row_3 (by decide +kernel) ?_
  refine v_iload_n B dX12_row_4 rfl rfl ?_
  refine v_iadd B (v := 1) dX12_row_5 (by decide +kernel) ?_
  refine v_iconst B (v := 1) dX12_row_6 (by decide +kernel) ?_
  refine v_isub B (v := 0) dX12_row_7 (by decide +kernel) ?_
  exact v_iret B hr hlk () rfl rfl (by decide +kernel) (by decide +kernel) dX12_row_8

def wp_m_becomes_0 : List Cond := .code yX12_becomes cX12_becomes 3 none :: ([.fieldLink RX12 329 "LowEnergyModel" "length" "[I", .methodLink RX12 547 yX12_row, .instanceMethod yX12_row, .selects RX12 yX12_row yX12_row, .initialized RX12, .code yX12_row cX12_row 3 (some .int), .fieldLink RX12 7 "LowEnergyModel" "taped" "I", .fieldLink RX12 10 "LowEnergyModel" "tape" "[B", .fieldLink RX12 341 "LowEnergyModel" "values" "[B", .methodLink RX12 29 yX12_copy, .static yX12_copy, .code yX12_copy cX12_copy 6 none] ++ (wsX120 ++ ([])))
theorem hi_m_becomes_0_X12 : ∀ x ∈ u_ws RX12 TX12 123, x ∈ wp_m_becomes_0 := fun _ h => List.mem_cons_of_mem _ (List.mem_append_right _ (List.mem_append_left _ h))
set_option maxRecDepth 100000 in
theorem gd_m_becomes_0_m_row_0_547 : GoodIn wp_m_becomes_0 (wsV RX12 547 RX12 yX12_row wp_m_row_0) := goodIn_app (goodIn_r _ [2, 3, 4, 5] rfl rfl) (goodIn_ca (goodIn_r _ [6] rfl rfl) (goodIn_nil))
set_option maxRecDepth 100000 in
theorem gd_m_becomes_0_m_copy0_29 : GoodIn wp_m_becomes_0 (va_wsS RX12 29 yX12_copy wp_m_copy0) := goodIn_app (goodIn_r _ [10, 11, 5] rfl rfl) (goodIn_ca (goodIn_r _ [12] rfl rfl) (goodIn_nil))
set_option maxHeartbeats 4000000 in
set_option maxRecDepth 100000 in
theorem m_becomes_0 (l : Launch) (D : va_G) (K : Nat → ClassId) (h : Nat) (q : Nat → Nat) (fa : Int64) (sa : Int64) : MG l yX12_becomes wp_m_becomes_0 ({ frames := 1, cells := 0, slots := 0, locals := 25 }) D (tysA K) [.ref h, .int 0, .int 1] [(h, .inr (12, fsM q 0 0 0 0 0)), ((q 103), .inl (K 0, 40, .inl (fun _ => 0)))] (Qv D (fun _ : Unit => True) (fun _ => [])) 0 0 := by
  refine mg_of (cc := cX12_becomes) (maxL := 3) (ret := none) (by decide +kernel) rfl (Nat.le_of_ble_eq_true rfl) ?_
  intro p e s m below meth c A B hr hlk hnam
  show V _ _ _ _ _ _ _ _ _ _ _ _ _ _ _ _ [(0, .ref h), (1, .int 0), (2, .int 1)] _ _
  refine v_aload_n B dX12_becomes_0 rfl rfl ?_
  refine v_get B (C := RX12) (T := TX12) (N := 123) (ci := 12) (k0 := 0) hi_m_becomes_0_X12 rfl rfl 103 (by decide +kernel) (List.mem_of_getElem? (i := 1) rfl) rfl dX12_becomes_1 ?_
  refine v_aload_n B dX12_becomes_4 rfl rfl ?_
  refine v_iload_n B dX12_becomes_5 rfl rfl ?_
  refine v_iload_n B dX12_becomes_6 rfl rfl ?_
  refine v_callVi B (b := h) (n := 2) (As := [.int 0, .int 1]) (rest := [.ref (q 103)]) (wc := [(h, .inr (12, fsM q 0 0 0 0 0))]) (wr := [((q 103), .inl (K 0, 40, .inl (fun _ => 0)))]) (m_row_0 l D K h q fa sa) gd_m_becomes_0_m_row_0_547 rfl rfl rfl (by decide +kernel) ⟨by decide +kernel, by decide +kernel⟩ 0 rfl rfl rfl (sp_pl [0] [1] rfl rfl rfl rfl rfl) rfl rfl (Nat.le_of_ble_eq_true rfl) dX12_becomes_7 ⟨by decide +kernel, by decide +kernel⟩ (fun r_3 u_1 hp_2 => ?_)
  subst hp_2
  show V _ _ _ _ _ _ _ _ _ _ _ _ _ _ (0, 0) [((q 103), .inl (K 0, 40, .inl (fun _ => 0))), (h, .inr (12, fsM q 0 0 0 0 0))] _ _ [.int 0, .ref (q 103)]
  show V _ _ _ _ _ _ _ _ _ _ _ _ _ _ (0, 0) [((q 103), .inl (K 0, 40, .inl (fun _ => 0))), (h, .inr (12, fsM q 0 0 0 0 0))] _ _ _
  refine v_aload_n B dX12_becomes_10 rfl rfl ?_
  refine v_get B (C := RX12) (T := TX12) (N := 123) (ci := 12) (k0 := 1) hi_m_becomes_0_X12 rfl rfl 2 (by decide +kernel) (List.mem_of_getElem? (i := 7) rfl) rfl dX12_becomes_11 ?_
  refine v_iast B (k0 := 0) (t0 := 0) (w' := [((q 103), .inl (K 0, 40, .inl (upd (fun _ => 0) (0 : Int32).toNatClampNeg 0))), (h, .inr (12, fsM q 0 0 0 0 0))]) rfl rfl (vpi (by decide +kernel)) rfl dX12_becomes_14 ?_
  refine v_aload_n B dX12_becomes_15 rfl rfl ?_
  refine v_get B (C := RX12) (T := TX12) (N := 123) (ci := 12) (k0 := 1) hi_m_becomes_0_X12 rfl rfl 1 (by decide +kernel) (List.mem_of_getElem? (i := 8) rfl) rfl dX12_becomes_16 ?_
  refine v_iconst B (v := 0) dX12_becomes_19 (by decide +kernel) ?_
  refine v_aload_n B dX12_becomes_20 rfl rfl ?_
  refine v_get B (C := RX12) (T := TX12) (N := 123) (ci := 12) (k0 := 1) hi_m_becomes_0_X12 rfl rfl 107 (by decide +kernel) (List.mem_of_getElem? (i := 9) rfl) rfl dX12_becomes_21 ?_
  refine v_bipush B (v := 40) dX12_becomes_24 (by decide +kernel) ?_
  refine v_aload_n B dX12_becomes_26 rfl rfl ?_
  refine v_iload_n B dX12_becomes_27 rfl rfl ?_
  refine v_iload_n B dX12_becomes_28 rfl rfl ?_
  refine v_callVi B (b := h) (n := 2) (As := [.int 0, .int 1]) (rest := [.int 40, .ref (q 107), .int 0, .ref (q 1)]) (wc := [(h, .inr (12, fsM q 0 0 0 0 0))]) (wr := [((q 103), .inl (K 0, 40, .inl (upd (fun _ => 0) (0 : Int32).toNatClampNeg 0)))]) (m_row_0 l D K h q fa sa) gd_m_becomes_0_m_row_0_547 rfl rfl rfl (by decide +kernel) ⟨by decide +kernel, by decide +kernel⟩ 0 rfl rfl rfl (sp_pl [1] [0] rfl rfl rfl rfl rfl) rfl rfl (Nat.le_of_ble_eq_true rfl) dX12_becomes_29 ⟨by decide +kernel, by decide +kernel⟩ (fun r_6 u_4 hp_5 => ?_)
  subst hp_5
  show V _ _ _ _ _ _ _ _ _ _ _ _ _ _ (0, 0) [((q 103), .inl (K 0, 40, .inl (upd (fun _ => 0) (0 : Int32).toNatClampNeg 0))), (h, .inr (12, fsM q 0 0 0 0 0))] _ _ [.int 0, .int 40, .ref (q 107), .int 0, .ref (q 1)]
  show V _ _ _ _ _ _ _ _ _ _ _ _ _ _ (0, 0) [((q 103), .inl (K 0, 40, .inl (upd (fun _ => 0) (0 : Int32).toNatClampNeg 0))), (h, .inr (12, fsM q 0 0 0 0 0))] _ _ _
  refine v_imul B (v := 0) dX12_becomes_32 (by decide +kernel) ?_
  refine v_aload_n B dX12_becomes_33 rfl rfl ?_
  refine v_get B (C := RX12) (T := TX12) (N := 123) (ci := 12) (k0 := 1) hi_m_becomes_0_X12 rfl rfl 2 (by decide +kernel) (List.mem_of_getElem? (i := 7) rfl) rfl dX12_becomes_34 ?_
  refine v_callSv B (n := 5) (As := [.ref (q 1), .int 0, .ref (q 107), .int 0, .int 0]) (rest := []) (wc := []) (wr := [((q 103), .inl (K 0, 40, .inl (upd (fun _ => 0) (0 : Int32).toNatClampNeg 0))), (h, .inr (12, fsM q 0 0 0 0 0))]) (m_copy0 l D K (q 1) (q 107) 0 0) gd_m_becomes_0_m_copy0_29 rfl rfl rfl (by decide +kernel) ⟨by decide +kernel, by decide +kernel⟩ (sp_pl [] [0, 1] rfl rfl rfl rfl rfl) rfl rfl (Nat.le_of_ble_eq_true rfl) dX12_becomes_37 ⟨by decide +kernel, by decide +kernel⟩ (fun u_7 hp_8 => ?_)
  show V _ _ _ _ _ _ _ _ _ _ _ _ _ _ (0, 0) [((q 103), .inl (K 0, 40, .inl (upd (fun _ => 0) (0 : Int32).toNatClampNeg 0))), (h, .inr (12, fsM q 0 0 0 0 0))] _ _ _
  refine v_aload_n B dX12_becomes_40 rfl rfl ?_
  refine v_iconst B (v := 0) dX12_becomes_41 (by decide +kernel) ?_
  refine v_put B (C := RX12) (T := TX12) (N := 123) (ci := 12) (k0 := 1) hi_m_becomes_0_X12 rfl rfl 2 (by decide +kernel) tyX12 tyX12_ok nmX12 (List.mem_of_getElem? (i := 7) rfl) rfl (ty := .int) (tyX12_ok 2 (by decide +kernel)) rfl rfl (Nat.le_of_ble_eq_true rfl) (w' := [((q 103), .inl (K 0, 40, .inl (upd (fun _ => 0) (0 : Int32).toNatClampNeg 0))), (h, .inr (12, fsM q 0 0 0 0 0))]) rfl dX12_becomes_42 ?_
  refine v_forget (wc := []) (wr := []) (sp_pl [] [] rfl rfl rfl rfl rfl) ?_
  exact v_vret B hr hlk () trivial rfl (by decide +kernel) (by decide +kernel) dX12_becomes_45

def wp_m_row_1 : List Cond := .code yX12_row cX12_row 3 (some .int) :: ([] ++ ([]))
set_option maxHeartbeats 4000000 in
set_option maxRecDepth 100000 in
theorem m_row_1 (l : Launch) (D : va_G) (K : Nat → ClassId) (h : Nat) (q : Nat → Nat) (fa : Int64) (sa : Int64) : MG l yX12_row wp_m_row_1 ({ frames := 0, cells := 0, slots := 0, locals := 0 }) D (tysA K) [.ref h, .int 1, .int 1] [(h, .inr (12, fsM q 0 0 0 0 0))] (Qi D (fun (r : Int32) (_ : Unit) => r = 20) (fun _ => [(h, .inr (12, fsM q 0 0 0 0 0))])) 0 0 := by
  refine mg_of (cc := cX12_row) (maxL := 3) (ret := (some .int)) (by decide +kernel) rfl (Nat.le_of_ble_eq_true rfl) ?_
  intro p e s m below meth c A B hr hlk hnam
  show V _ _ _ _ _ _ _ _ _ _ _ _ _ _ _ _ [(0, .ref h), (1, .int 1), (2, .int 1)] _ _
  refine v_bipush B (v := 20) dX12_row_0 (by decide +kernel) ?_
  refine v_iload_n B dX12_row_2 rfl rfl ?_
  refine v_imul B (v := 20) dX12_row_3 (by decide +kernel) ?_
  refine v_iload_n B dX12_row_4 rfl rfl ?_
  refine v_iadd B (v := 21) dX12_row_5 (by decide +kernel) ?_
  refine v_iconst B (v := 1) dX12_row_6 (by decide +kernel) ?_
  refine v_isub B (v := 20) dX12_row_7 (by decide +kernel) ?_
  exact v_iret B hr hlk () rfl rfl (by decide +kernel) (by decide +kernel) dX12_row_8

def wp_m_becomes_1 : List Cond := .code yX12_becomes cX12_becomes 3 none :: ([.fieldLink RX12 329 "LowEnergyModel" "length" "[I", .methodLink RX12 547 yX12_row, .instanceMethod yX12_row, .selects RX12 yX12_row yX12_row, .initialized RX12, .code yX12_row cX12_row 3 (some .int), .fieldLink RX12 7 "LowEnergyModel" "taped" "I", .fieldLink RX12 10 "LowEnergyModel" "tape" "[B", .fieldLink RX12 341 "LowEnergyModel" "values" "[B", .methodLink RX12 29 yX12_copy, .static yX12_copy, .code yX12_copy cX12_copy 6 none] ++ (wsX120 ++ ([])))
theorem hi_m_becomes_1_X12 : ∀ x ∈ u_ws RX12 TX12 123, x ∈ wp_m_becomes_1 := fun _ h => List.mem_cons_of_mem _ (List.mem_append_right _ (List.mem_append_left _ h))
set_option maxRecDepth 100000 in
theorem gd_m_becomes_1_m_row_1_547 : GoodIn wp_m_becomes_1 (wsV RX12 547 RX12 yX12_row wp_m_row_1) := goodIn_app (goodIn_r _ [2, 3, 4, 5] rfl rfl) (goodIn_ca (goodIn_r _ [6] rfl rfl) (goodIn_nil))
set_option maxRecDepth 100000 in
theorem gd_m_becomes_1_m_copy0_29 : GoodIn wp_m_becomes_1 (va_wsS RX12 29 yX12_copy wp_m_copy0) := goodIn_app (goodIn_r _ [10, 11, 5] rfl rfl) (goodIn_ca (goodIn_r _ [12] rfl rfl) (goodIn_nil))
set_option maxHeartbeats 4000000 in
set_option maxRecDepth 100000 in
theorem m_becomes_1 (l : Launch) (D : va_G) (K : Nat → ClassId) (h : Nat) (q : Nat → Nat) (fa : Int64) (sa : Int64) : MG l yX12_becomes wp_m_becomes_1 ({ frames := 1, cells := 0, slots := 0, locals := 25 }) D (tysA K) [.ref h, .int 1, .int 1] [(h, .inr (12, fsM q 0 0 0 0 0)), ((q 103), .inl (K 0, 40, .inl (fun _ => 0)))] (Qv D (fun _ : Unit => True) (fun _ => [])) 0 0 := by
  refine mg_of (cc := cX12_becomes) (maxL := 3) (ret := none) (by decide +kernel) rfl (Nat.le_of_ble_eq_true rfl) ?_
  intro p e s m below meth c A B hr hlk hnam
  show V _ _ _ _ _ _ _ _ _ _ _ _ _ _ _ _ [(0, .ref h), (1, .int 1), (2, .int 1)] _ _
  refine v_aload_n B dX12_becomes_0 rfl rfl ?_
  refine v_get B (C := RX12) (T := TX12) (N := 123) (ci := 12) (k0 := 0) hi_m_becomes_1_X12 rfl rfl 103 (by decide +kernel) (List.mem_of_getElem? (i := 1) rfl) rfl dX12_becomes_1 ?_
  refine v_aload_n B dX12_becomes_4 rfl rfl ?_
  refine v_iload_n B dX12_becomes_5 rfl rfl ?_
  refine v_iload_n B dX12_becomes_6 rfl rfl ?_
  refine v_callVi B (b := h) (n := 2) (As := [.int 1, .int 1]) (rest := [.ref (q 103)]) (wc := [(h, .inr (12, fsM q 0 0 0 0 0))]) (wr := [((q 103), .inl (K 0, 40, .inl (fun _ => 0)))]) (m_row_1 l D K h q fa sa) gd_m_becomes_1_m_row_1_547 rfl rfl rfl (by decide +kernel) ⟨by decide +kernel, by decide +kernel⟩ 0 rfl rfl rfl (sp_pl [0] [1] rfl rfl rfl rfl rfl) rfl rfl (Nat.le_of_ble_eq_true rfl) dX12_becomes_7 ⟨by decide +kernel, by decide +kernel⟩ (fun r_3 u_1 hp_2 => ?_)
  subst hp_2
  show V _ _ _ _ _ _ _ _ _ _ _ _ _ _ (0, 0) [((q 103), .inl (K 0, 40, .inl (fun _ => 0))), (h, .inr (12, fsM q 0 0 0 0 0))] _ _ [.int 20, .ref (q 103)]
  show V _ _ _ _ _ _ _ _ _ _ _ _ _ _ (0, 0) [((q 103), .inl (K 0, 40, .inl (fun _ => 0))), (h, .inr (12, fsM q 0 0 0 0 0))] _ _ _
  refine v_aload_n B dX12_becomes_10 rfl rfl ?_
  refine v_get B (C := RX12) (T := TX12) (N := 123) (ci := 12) (k0 := 1) hi_m_becomes_1_X12 rfl rfl 2 (by decide +kernel) (List.mem_of_getElem? (i := 7) rfl) rfl dX12_becomes_11 ?_
  refine v_iast B (k0 := 0) (t0 := 0) (w' := [((q 103), .inl (K 0, 40, .inl (upd (fun _ => 0) (20 : Int32).toNatClampNeg 0))), (h, .inr (12, fsM q 0 0 0 0 0))]) rfl rfl (vpi (by decide +kernel)) rfl dX12_becomes_14 ?_
  refine v_aload_n B dX12_becomes_15 rfl rfl ?_
  refine v_get B (C := RX12) (T := TX12) (N := 123) (ci := 12) (k0 := 1) hi_m_becomes_1_X12 rfl rfl 1 (by decide +kernel) (List.mem_of_getElem? (i := 8) rfl) rfl dX12_becomes_16 ?_
  refine v_iconst B (v := 0) dX12_becomes_19 (by decide +kernel) ?_
  refine v_aload_n B dX12_becomes_20 rfl rfl ?_
  refine v_get B (C := RX12) (T := TX12) (N := 123) (ci := 12) (k0 := 1) hi_m_becomes_1_X12 rfl rfl 107 (by decide +kernel) (List.mem_of_getElem? (i := 9) rfl) rfl dX12_becomes_21 ?_
  refine v_bipush B (v := 40) dX12_becomes_24 (by decide +kernel) ?_
  refine v_aload_n B dX12_becomes_26 rfl rfl ?_
  refine v_iload_n B dX12_becomes_27 rfl rfl ?_
  refine v_iload_n B dX12_becomes_28 rfl rfl ?_
  refine v_callVi B (b := h) (n := 2) (As := [.int 1, .int 1]) (rest := [.int 40, .ref (q 107), .int 0, .ref (q 1)]) (wc := [(h, .inr (12, fsM q 0 0 0 0 0))]) (wr := [((q 103), .inl (K 0, 40, .inl (upd (fun _ => 0) (20 : Int32).toNatClampNeg 0)))]) (m_row_1 l D K h q fa sa) gd_m_becomes_1_m_row_1_547 rfl rfl rfl (by decide +kernel) ⟨by decide +kernel, by decide +kernel⟩ 0 rfl rfl rfl (sp_pl [1] [0] rfl rfl rfl rfl rfl) rfl rfl (Nat.le_of_ble_eq_true rfl) dX12_becomes_29 ⟨by decide +kernel, by decide +kernel⟩ (fun r_6 u_4 hp_5 => ?_)
  subst hp_5
  show V _ _ _ _ _ _ _ _ _ _ _ _ _ _ (0, 0) [((q 103), .inl (K 0, 40, .inl (upd (fun _ => 0) (20 : Int32).toNatClampNeg 0))), (h, .inr (12, fsM q 0 0 0 0 0))] _ _ [.int 20, .int 40, .ref (q 107), .int 0, .ref (q 1)]
  show V _ _ _ _ _ _ _ _ _ _ _ _ _ _ (0, 0) [((q 103), .inl (K 0, 40, .inl (upd (fun _ => 0) (20 : Int32).toNatClampNeg 0))), (h, .inr (12, fsM q 0 0 0 0 0))] _ _ _
  refine v_imul B (v := 800) dX12_becomes_32 (by decide +kernel) ?_
  refine v_aload_n B dX12_becomes_33 rfl rfl ?_
  refine v_get B (C := RX12) (T := TX12) (N := 123) (ci := 12) (k0 := 1) hi_m_becomes_1_X12 rfl rfl 2 (by decide +kernel) (List.mem_of_getElem? (i := 7) rfl) rfl dX12_becomes_34 ?_
  refine v_callSv B (n := 5) (As := [.ref (q 1), .int 0, .ref (q 107), .int 800, .int 0]) (rest := []) (wc := []) (wr := [((q 103), .inl (K 0, 40, .inl (upd (fun _ => 0) (20 : Int32).toNatClampNeg 0))), (h, .inr (12, fsM q 0 0 0 0 0))]) (m_copy0 l D K (q 1) (q 107) 0 800) gd_m_becomes_1_m_copy0_29 rfl rfl rfl (by decide +kernel) ⟨by decide +kernel, by decide +kernel⟩ (sp_pl [] [0, 1] rfl rfl rfl rfl rfl) rfl rfl (Nat.le_of_ble_eq_true rfl) dX12_becomes_37 ⟨by decide +kernel, by decide +kernel⟩ (fun u_7 hp_8 => ?_)
  show V _ _ _ _ _ _ _ _ _ _ _ _ _ _ (0, 0) [((q 103), .inl (K 0, 40, .inl (upd (fun _ => 0) (20 : Int32).toNatClampNeg 0))), (h, .inr (12, fsM q 0 0 0 0 0))] _ _ _
  refine v_aload_n B dX12_becomes_40 rfl rfl ?_
  refine v_iconst B (v := 0) dX12_becomes_41 (by decide +kernel) ?_
  refine v_put B (C := RX12) (T := TX12) (N := 123) (ci := 12) (k0 := 1) hi_m_becomes_1_X12 rfl rfl 2 (by decide +kernel) tyX12 tyX12_ok nmX12 (List.mem_of_getElem? (i := 7) rfl) rfl (ty := .int) (tyX12_ok 2 (by decide +kernel)) rfl rfl (Nat.le_of_ble_eq_true rfl) (w' := [((q 103), .inl (K 0, 40, .inl (upd (fun _ => 0) (20 : Int32).toNatClampNeg 0))), (h, .inr (12, fsM q 0 0 0 0 0))]) rfl dX12_becomes_42 ?_
  refine v_forget (wc := []) (wr := []) (sp_pl [] [] rfl rfl rfl rfl rfl) ?_
  exact v_vret B hr hlk () trivial rfl (by decide +kernel) (by decide +kernel) dX12_becomes_45

def wp_y_allow : List Cond := .code yX12_allow cX12_allow 3 (some .boolean) :: ([.fieldLink RX12 1 "LowEnergyModel" "thrown" "I", .methodLink RX12 413 yX12_in, .static yX12_in, .initialized RX12, .code yX12_in cX12_in 2 (some .boolean), .fieldLink RX12 299 "LowEnergyModel" "passkey" "[I", .constant RX12 686 (1000000)] ++ (wsX120 ++ ([])))
theorem hi_y_allow_X12 : ∀ x ∈ u_ws RX12 TX12 123, x ∈ wp_y_allow := fun _ h => List.mem_cons_of_mem _ (List.mem_append_right _ (List.mem_append_left _ h))
set_option maxRecDepth 100000 in
theorem gd_y_allow_m_in_T_413 : GoodIn wp_y_allow (va_wsS RX12 413 yX12_in wp_m_in_T) := goodIn_app (goodIn_r _ [2, 3, 4] rfl rfl) (goodIn_ca (goodIn_r _ [5] rfl rfl) (goodIn_nil))
set_option maxRecDepth 100000 in
theorem gd_y_allow_m_in_F1_413 : GoodIn wp_y_allow (va_wsS RX12 413 yX12_in wp_m_in_F1) := goodIn_app (goodIn_r _ [2, 3, 4] rfl rfl) (goodIn_ca (goodIn_r _ [5] rfl rfl) (goodIn_nil))
set_option maxRecDepth 100000 in
theorem gd_y_allow_m_in_F2_413 : GoodIn wp_y_allow (va_wsS RX12 413 yX12_in wp_m_in_F2) := goodIn_app (goodIn_r _ [2, 3, 4] rfl rfl) (goodIn_ca (goodIn_r _ [5] rfl rfl) (goodIn_nil))
set_option maxHeartbeats 4000000 in
set_option maxRecDepth 100000 in
theorem y_allow (l : Launch) (D : va_G) (K : Nat → ClassId) (h : Nat) (q : Nat → Nat) (fa : Int64) (sa : Int64) (d : Int32) (pk : Int32) : MG l yX12_allow wp_y_allow ({ frames := 1, cells := 0, slots := 0, locals := 21 }) D (tysA K) [.ref h, .int d, .int pk] [(h, .inr (12, fsM q 0 0 0 0 0)), ((q 93), .inl (K 0, 2, .inl (gl [(-1), (-1)])))] (Qi D (fun (r : Int32) (_ : Unit) => r = an_allow d pk) (fun _ => [])) 0 0 := by
  refine mg_of (cc := cX12_allow) (maxL := 3) (ret := (some .boolean)) (by decide +kernel) rfl (Nat.le_of_ble_eq_true rfl) ?_
  intro p e s m below meth c A B hr hlk hnam
  show V _ _ _ _ _ _ _ _ _ _ _ _ _ _ _ _ [(0, .ref h), (1, .int d), (2, .int pk)] _ _
  by_cases h0 : d = 0
  · subst h0
    by_cases e_n : pk = -1
    · subst e_n
      refine v_aload_n B dX12_allow_0 rfl rfl ?_
      refine v_iconst B (v := 0) dX12_allow_1 (by decide +kernel) ?_
      refine v_put B (C := RX12) (T := TX12) (N := 123) (ci := 12) (k0 := 0) hi_y_allow_X12 rfl rfl 0 (by decide +kernel) tyX12 tyX12_ok nmX12 (List.mem_of_getElem? (i := 1) rfl) rfl (ty := .int) (tyX12_ok 0 (by decide +kernel)) rfl rfl (Nat.le_of_ble_eq_true rfl) (w' := [(h, .inr (12, fsM q 0 0 0 0 0)), ((q 93), .inl (K 0, 2, .inl (gl [(-1), (-1)])))]) rfl dX12_allow_2 ?_
      refine v_iload_n B dX12_allow_5 rfl rfl ?_
      refine v_iconst B (v := 2) dX12_allow_6 (by decide +kernel) ?_
      refine v_callSi B (n := 2) (As := [.int 0, .int 2]) (rest := []) (wc := []) (wr := [(h, .inr (12, fsM q 0 0 0 0 0)), ((q 93), .inl (K 0, 2, .inl (gl [(-1), (-1)])))]) (m_in_T l D K 0 2 (by decide +kernel) (by decide +kernel)) gd_y_allow_m_in_T_413 rfl rfl rfl (by decide +kernel) ⟨by decide +kernel, by decide +kernel⟩ (sp_pl [] [0, 1] rfl rfl rfl rfl rfl) rfl rfl (Nat.le_of_ble_eq_true rfl) dX12_allow_7 ⟨by decide +kernel, by decide +kernel⟩ (fun r_3 u_1 hp_2 => ?_)
      subst hp_2
      show V _ _ _ _ _ _ _ _ _ _ _ _ _ _ (0, 0) [(h, .inr (12, fsM q 0 0 0 0 0)), ((q 93), .inl (K 0, 2, .inl (gl [(-1), (-1)])))] _ _ [.int 1]
      show V _ _ _ _ _ _ _ _ _ _ _ _ _ _ (0, 0) [(h, .inr (12, fsM q 0 0 0 0 0)), ((q 93), .inl (K 0, 2, .inl (gl [(-1), (-1)])))] _ _ _
      refine v_if_eq B (tgt := 28) dX12_allow_10 (by decide +kernel) (fun h => absurd h (by decide +kernel)) (fun _ => ?_)
      refine v_iload_n B dX12_allow_13 rfl rfl ?_
      refine v_iconst B (v := (-1)) dX12_allow_14 (by decide +kernel) ?_
      refine v_icmp_eq B (tgt := 30) dX12_allow_15 (by decide +kernel) (fun _ => ?_) (fun h => absurd (by decide +kernel) h)
      refine v_aload_n B dX12_allow_30 rfl rfl ?_
      refine v_get B (C := RX12) (T := TX12) (N := 123) (ci := 12) (k0 := 0) hi_y_allow_X12 rfl rfl 93 (by decide +kernel) (List.mem_of_getElem? (i := 6) rfl) rfl dX12_allow_31 ?_
      refine v_iload_n B dX12_allow_34 rfl rfl ?_
      refine v_iload_n B dX12_allow_35 rfl rfl ?_
      refine v_iastL B (k0 := 1) (t0 := 0) (k := 0) (y := (-1)) (w' := [(h, .inr (12, fsM q 0 0 0 0 0)), ((q 93), .inl (K 0, 2, .inl (gl [(-1), (-1)])))]) rfl rfl (vpi (by decide +kernel)) (by decide +kernel) (Nat.le_of_ble_eq_true rfl) rfl rfl dX12_allow_36 ?_
      refine v_iconst B (v := 1) dX12_allow_37 (by decide +kernel) ?_
      refine v_forget (wc := []) (wr := []) (sp_pl [] [] rfl rfl rfl rfl rfl) ?_
      exact v_zret B hr hlk (by decide +kernel) () (by decide +kernel) rfl (by decide +kernel) (by decide +kernel) dX12_allow_38
    · skip
      by_cases e_pk : pk < 0
      · skip
        refine v_aload_n B dX12_allow_0 rfl rfl ?_
        refine v_iconst B (v := 0) dX12_allow_1 (by decide +kernel) ?_
        refine v_put B (C := RX12) (T := TX12) (N := 123) (ci := 12) (k0 := 0) hi_y_allow_X12 rfl rfl 0 (by decide +kernel) tyX12 tyX12_ok nmX12 (List.mem_of_getElem? (i := 1) rfl) rfl (ty := .int) (tyX12_ok 0 (by decide +kernel)) rfl rfl (Nat.le_of_ble_eq_true rfl) (w' := [(h, .inr (12, fsM q 0 0 0 0 0)), ((q 93), .inl (K 0, 2, .inl (gl [(-1), (-1)])))]) rfl dX12_allow_2 ?_
        refine v_iload_n B dX12_allow_5 rfl rfl ?_
        refine v_iconst B (v := 2) dX12_allow_6 (by decide +kernel) ?_
        refine v_callSi B (n := 2) (As := [.int 0, .int 2]) (rest := []) (wc := []) (wr := [(h, .inr (12, fsM q 0 0 0 0 0)), ((q 93), .inl (K 0, 2, .inl (gl [(-1), (-1)])))]) (m_in_T l D K 0 2 (by decide +kernel) (by decide +kernel)) gd_y_allow_m_in_T_413 rfl rfl rfl (by decide +kernel) ⟨by decide +kernel, by decide +kernel⟩ (sp_pl [] [0, 1] rfl rfl rfl rfl rfl) rfl rfl (Nat.le_of_ble_eq_true rfl) dX12_allow_7 ⟨by decide +kernel, by decide +kernel⟩ (fun r_6 u_4 hp_5 => ?_)
        subst hp_5
        show V _ _ _ _ _ _ _ _ _ _ _ _ _ _ (0, 0) [(h, .inr (12, fsM q 0 0 0 0 0)), ((q 93), .inl (K 0, 2, .inl (gl [(-1), (-1)])))] _ _ [.int 1]
        show V _ _ _ _ _ _ _ _ _ _ _ _ _ _ (0, 0) [(h, .inr (12, fsM q 0 0 0 0 0)), ((q 93), .inl (K 0, 2, .inl (gl [(-1), (-1)])))] _ _ _
        refine v_if_eq B (tgt := 28) dX12_allow_10 (by decide +kernel) (fun h => absurd h (by decide +kernel)) (fun _ => ?_)
        refine v_iload_n B dX12_allow_13 rfl rfl ?_
        refine v_iconst B (v := (-1)) dX12_allow_14 (by decide +kernel) ?_
        refine v_icmp_eq B (tgt := 30) dX12_allow_15 (by decide +kernel) (fun h => absurd h e_n) (fun _ => ?_)
        refine v_iload_n B dX12_allow_18 rfl rfl ?_
        refine v_ldcw B (v := 1000000) (List.mem_of_getElem? (i := 7) rfl) dX12_allow_19 ?_
        refine v_callSi B (n := 2) (As := [.int pk, .int 1000000]) (rest := []) (wc := []) (wr := [(h, .inr (12, fsM q 0 0 0 0 0)), ((q 93), .inl (K 0, 2, .inl (gl [(-1), (-1)])))]) (m_in_F1 l D K pk 1000000 e_pk) gd_y_allow_m_in_F1_413 rfl rfl rfl (by decide +kernel) ⟨by decide +kernel, by decide +kernel⟩ (sp_pl [] [0, 1] rfl rfl rfl rfl rfl) rfl rfl (Nat.le_of_ble_eq_true rfl) dX12_allow_22 ⟨by decide +kernel, by decide +kernel⟩ (fun r_9 u_7 hp_8 => ?_)
        subst hp_8
        show V _ _ _ _ _ _ _ _ _ _ _ _ _ _ (0, 0) [(h, .inr (12, fsM q 0 0 0 0 0)), ((q 93), .inl (K 0, 2, .inl (gl [(-1), (-1)])))] _ _ [.int 0]
        show V _ _ _ _ _ _ _ _ _ _ _ _ _ _ (0, 0) [(h, .inr (12, fsM q 0 0 0 0 0)), ((q 93), .inl (K 0, 2, .inl (gl [(-1), (-1)])))] _ _ _
        refine v_if_ne B (tgt := 30) dX12_allow_25 (by decide +kernel) (fun h => absurd (by decide +kernel) h) (fun _ => ?_)
        refine v_iconst B (v := 0) dX12_allow_28 (by decide +kernel) ?_
        refine v_forget (wc := []) (wr := []) (sp_pl [] [] rfl rfl rfl rfl rfl) ?_
        exact v_zret B hr hlk (by decide +kernel) () (by simp [an_allow, rg_m1 e_pk e_n]) rfl (by decide +kernel) (by decide +kernel) dX12_allow_29
      · skip
        by_cases f_pk : 1000000 ≤ pk
        · skip
          refine v_aload_n B dX12_allow_0 rfl rfl ?_
          refine v_iconst B (v := 0) dX12_allow_1 (by decide +kernel) ?_
          refine v_put B (C := RX12) (T := TX12) (N := 123) (ci := 12) (k0 := 0) hi_y_allow_X12 rfl rfl 0 (by decide +kernel) tyX12 tyX12_ok nmX12 (List.mem_of_getElem? (i := 1) rfl) rfl (ty := .int) (tyX12_ok 0 (by decide +kernel)) rfl rfl (Nat.le_of_ble_eq_true rfl) (w' := [(h, .inr (12, fsM q 0 0 0 0 0)), ((q 93), .inl (K 0, 2, .inl (gl [(-1), (-1)])))]) rfl dX12_allow_2 ?_
          refine v_iload_n B dX12_allow_5 rfl rfl ?_
          refine v_iconst B (v := 2) dX12_allow_6 (by decide +kernel) ?_
          refine v_callSi B (n := 2) (As := [.int 0, .int 2]) (rest := []) (wc := []) (wr := [(h, .inr (12, fsM q 0 0 0 0 0)), ((q 93), .inl (K 0, 2, .inl (gl [(-1), (-1)])))]) (m_in_T l D K 0 2 (by decide +kernel) (by decide +kernel)) gd_y_allow_m_in_T_413 rfl rfl rfl (by decide +kernel) ⟨by decide +kernel, by decide +kernel⟩ (sp_pl [] [0, 1] rfl rfl rfl rfl rfl) rfl rfl (Nat.le_of_ble_eq_true rfl) dX12_allow_7 ⟨by decide +kernel, by decide +kernel⟩ (fun r_12 u_10 hp_11 => ?_)
          subst hp_11
          show V _ _ _ _ _ _ _ _ _ _ _ _ _ _ (0, 0) [(h, .inr (12, fsM q 0 0 0 0 0)), ((q 93), .inl (K 0, 2, .inl (gl [(-1), (-1)])))] _ _ [.int 1]
          show V _ _ _ _ _ _ _ _ _ _ _ _ _ _ (0, 0) [(h, .inr (12, fsM q 0 0 0 0 0)), ((q 93), .inl (K 0, 2, .inl (gl [(-1), (-1)])))] _ _ _
          refine v_if_eq B (tgt := 28) dX12_allow_10 (by decide +kernel) (fun h => absurd h (by decide +kernel)) (fun _ => ?_)
          refine v_iload_n B dX12_allow_13 rfl rfl ?_
          refine v_iconst B (v := (-1)) dX12_allow_14 (by decide +kernel) ?_
          refine v_icmp_eq B (tgt := 30) dX12_allow_15 (by decide +kernel) (fun h => absurd h e_n) (fun _ => ?_)
          refine v_iload_n B dX12_allow_18 rfl rfl ?_
          refine v_ldcw B (v := 1000000) (List.mem_of_getElem? (i := 7) rfl) dX12_allow_19 ?_
          refine v_callSi B (n := 2) (As := [.int pk, .int 1000000]) (rest := []) (wc := []) (wr := [(h, .inr (12, fsM q 0 0 0 0 0)), ((q 93), .inl (K 0, 2, .inl (gl [(-1), (-1)])))]) (m_in_F2 l D K pk 1000000 (rg_nlt f_pk (by decide +kernel)) (rg_ge f_pk (by decide +kernel))) gd_y_allow_m_in_F2_413 rfl rfl rfl (by decide +kernel) ⟨by decide +kernel, by decide +kernel⟩ (sp_pl [] [0, 1] rfl rfl rfl rfl rfl) rfl rfl (Nat.le_of_ble_eq_true rfl) dX12_allow_22 ⟨by decide +kernel, by decide +kernel⟩ (fun r_15 u_13 hp_14 => ?_)
          subst hp_14
          show V _ _ _ _ _ _ _ _ _ _ _ _ _ _ (0, 0) [(h, .inr (12, fsM q 0 0 0 0 0)), ((q 93), .inl (K 0, 2, .inl (gl [(-1), (-1)])))] _ _ [.int 0]
          show V _ _ _ _ _ _ _ _ _ _ _ _ _ _ (0, 0) [(h, .inr (12, fsM q 0 0 0 0 0)), ((q 93), .inl (K 0, 2, .inl (gl [(-1), (-1)])))] _ _ _
          refine v_if_ne B (tgt := 30) dX12_allow_25 (by decide +kernel) (fun h => absurd (by decide +kernel) h) (fun _ => ?_)
          refine v_iconst B (v := 0) dX12_allow_28 (by decide +kernel) ?_
          refine v_forget (wc := []) (wr := []) (sp_pl [] [] rfl rfl rfl rfl rfl) ?_
          exact v_zret B hr hlk (by decide +kernel) () (by simp [an_allow, (rg_nlt f_pk (by decide +kernel) : ¬ pk < -1), (rg_gt f_pk (by decide +kernel) : 999999 < pk)]) rfl (by decide +kernel) (by decide +kernel) dX12_allow_29
        · skip
          refine v_aload_n B dX12_allow_0 rfl rfl ?_
          refine v_iconst B (v := 0) dX12_allow_1 (by decide +kernel) ?_
          refine v_put B (C := RX12) (T := TX12) (N := 123) (ci := 12) (k0 := 0) hi_y_allow_X12 rfl rfl 0 (by decide +kernel) tyX12 tyX12_ok nmX12 (List.mem_of_getElem? (i := 1) rfl) rfl (ty := .int) (tyX12_ok 0 (by decide +kernel)) rfl rfl (Nat.le_of_ble_eq_true rfl) (w' := [(h, .inr (12, fsM q 0 0 0 0 0)), ((q 93), .inl (K 0, 2, .inl (gl [(-1), (-1)])))]) rfl dX12_allow_2 ?_
          refine v_iload_n B dX12_allow_5 rfl rfl ?_
          refine v_iconst B (v := 2) dX12_allow_6 (by decide +kernel) ?_
          refine v_callSi B (n := 2) (As := [.int 0, .int 2]) (rest := []) (wc := []) (wr := [(h, .inr (12, fsM q 0 0 0 0 0)), ((q 93), .inl (K 0, 2, .inl (gl [(-1), (-1)])))]) (m_in_T l D K 0 2 (by decide +kernel) (by decide +kernel)) gd_y_allow_m_in_T_413 rfl rfl rfl (by decide +kernel) ⟨by decide +kernel, by decide +kernel⟩ (sp_pl [] [0, 1] rfl rfl rfl rfl rfl) rfl rfl (Nat.le_of_ble_eq_true rfl) dX12_allow_7 ⟨by decide +kernel, by decide +kernel⟩ (fun r_18 u_16 hp_17 => ?_)
          subst hp_17
          show V _ _ _ _ _ _ _ _ _ _ _ _ _ _ (0, 0) [(h, .inr (12, fsM q 0 0 0 0 0)), ((q 93), .inl (K 0, 2, .inl (gl [(-1), (-1)])))] _ _ [.int 1]
          show V _ _ _ _ _ _ _ _ _ _ _ _ _ _ (0, 0) [(h, .inr (12, fsM q 0 0 0 0 0)), ((q 93), .inl (K 0, 2, .inl (gl [(-1), (-1)])))] _ _ _
          refine v_if_eq B (tgt := 28) dX12_allow_10 (by decide +kernel) (fun h => absurd h (by decide +kernel)) (fun _ => ?_)
          refine v_iload_n B dX12_allow_13 rfl rfl ?_
          refine v_iconst B (v := (-1)) dX12_allow_14 (by decide +kernel) ?_
          refine v_icmp_eq B (tgt := 30) dX12_allow_15 (by decide +kernel) (fun h => absurd h e_n) (fun _ => ?_)
          refine v_iload_n B dX12_allow_18 rfl rfl ?_
          refine v_ldcw B (v := 1000000) (List.mem_of_getElem? (i := 7) rfl) dX12_allow_19 ?_
          refine v_callSi B (n := 2) (As := [.int pk, .int 1000000]) (rest := []) (wc := []) (wr := [(h, .inr (12, fsM q 0 0 0 0 0)), ((q 93), .inl (K 0, 2, .inl (gl [(-1), (-1)])))]) (m_in_T l D K pk 1000000 e_pk f_pk) gd_y_allow_m_in_T_413 rfl rfl rfl (by decide +kernel) ⟨by decide +kernel, by decide +kernel⟩ (sp_pl [] [0, 1] rfl rfl rfl rfl rfl) rfl rfl (Nat.le_of_ble_eq_true rfl) dX12_allow_22 ⟨by decide +kernel, by decide +kernel⟩ (fun r_21 u_19 hp_20 => ?_)
          subst hp_20
          show V _ _ _ _ _ _ _ _ _ _ _ _ _ _ (0, 0) [(h, .inr (12, fsM q 0 0 0 0 0)), ((q 93), .inl (K 0, 2, .inl (gl [(-1), (-1)])))] _ _ [.int 1]
          show V _ _ _ _ _ _ _ _ _ _ _ _ _ _ (0, 0) [(h, .inr (12, fsM q 0 0 0 0 0)), ((q 93), .inl (K 0, 2, .inl (gl [(-1), (-1)])))] _ _ _
          refine v_if_ne B (tgt := 30) dX12_allow_25 (by decide +kernel) (fun _ => ?_) (fun h => absurd h (by decide +kernel))
          refine v_aload_n B dX12_allow_30 rfl rfl ?_
          refine v_get B (C := RX12) (T := TX12) (N := 123) (ci := 12) (k0 := 0) hi_y_allow_X12 rfl rfl 93 (by decide +kernel) (List.mem_of_getElem? (i := 6) rfl) rfl dX12_allow_31 ?_
          refine v_iload_n B dX12_allow_34 rfl rfl ?_
          refine v_iload_n B dX12_allow_35 rfl rfl ?_
          refine v_iastL B (k0 := 1) (t0 := 0) (k := 0) (y := pk) (w' := [(h, .inr (12, fsM q 0 0 0 0 0)), ((q 93), .inl (K 0, 2, .inl (gl [pk, (-1)])))]) rfl rfl (vpi (by decide +kernel)) (by decide +kernel) (Nat.le_of_ble_eq_true rfl) rfl rfl dX12_allow_36 ?_
          refine v_iconst B (v := 1) dX12_allow_37 (by decide +kernel) ?_
          refine v_forget (wc := []) (wr := []) (sp_pl [] [] rfl rfl rfl rfl rfl) ?_
          exact v_zret B hr hlk (by decide +kernel) () (by simp [an_allow, (rg_nlt (Int32.not_lt.mp e_pk) (by decide +kernel) : ¬ pk < -1), (rg_ngt (Int32.not_le.mp f_pk) (by decide +kernel) : ¬ 999999 < pk)]) rfl (by decide +kernel) (by decide +kernel) dX12_allow_38
  · skip
    by_cases h1 : d = 1
    · subst h1
      by_cases e_n : pk = -1
      · subst e_n
        refine v_aload_n B dX12_allow_0 rfl rfl ?_
        refine v_iconst B (v := 0) dX12_allow_1 (by decide +kernel) ?_
        refine v_put B (C := RX12) (T := TX12) (N := 123) (ci := 12) (k0 := 0) hi_y_allow_X12 rfl rfl 0 (by decide +kernel) tyX12 tyX12_ok nmX12 (List.mem_of_getElem? (i := 1) rfl) rfl (ty := .int) (tyX12_ok 0 (by decide +kernel)) rfl rfl (Nat.le_of_ble_eq_true rfl) (w' := [(h, .inr (12, fsM q 0 0 0 0 0)), ((q 93), .inl (K 0, 2, .inl (gl [(-1), (-1)])))]) rfl dX12_allow_2 ?_
        refine v_iload_n B dX12_allow_5 rfl rfl ?_
        refine v_iconst B (v := 2) dX12_allow_6 (by decide +kernel) ?_
        refine v_callSi B (n := 2) (As := [.int 1, .int 2]) (rest := []) (wc := []) (wr := [(h, .inr (12, fsM q 0 0 0 0 0)), ((q 93), .inl (K 0, 2, .inl (gl [(-1), (-1)])))]) (m_in_T l D K 1 2 (by decide +kernel) (by decide +kernel)) gd_y_allow_m_in_T_413 rfl rfl rfl (by decide +kernel) ⟨by decide +kernel, by decide +kernel⟩ (sp_pl [] [0, 1] rfl rfl rfl rfl rfl) rfl rfl (Nat.le_of_ble_eq_true rfl) dX12_allow_7 ⟨by decide +kernel, by decide +kernel⟩ (fun r_24 u_22 hp_23 => ?_)
        subst hp_23
        show V _ _ _ _ _ _ _ _ _ _ _ _ _ _ (0, 0) [(h, .inr (12, fsM q 0 0 0 0 0)), ((q 93), .inl (K 0, 2, .inl (gl [(-1), (-1)])))] _ _ [.int 1]
        show V _ _ _ _ _ _ _ _ _ _ _ _ _ _ (0, 0) [(h, .inr (12, fsM q 0 0 0 0 0)), ((q 93), .inl (K 0, 2, .inl (gl [(-1), (-1)])))] _ _ _
        refine v_if_eq B (tgt := 28) dX12_allow_10 (by decide +kernel) (fun h => absurd h (by decide +kernel)) (fun _ => ?_)
        refine v_iload_n B dX12_allow_13 rfl rfl ?_
        refine v_iconst B (v := (-1)) dX12_allow_14 (by decide +kernel) ?_
        refine v_icmp_eq B (tgt := 30) dX12_allow_15 (by decide +kernel) (fun _ => ?_) (fun h => absurd (by decide +kernel) h)
        refine v_aload_n B dX12_allow_30 rfl rfl ?_
        refine v_get B (C := RX12) (T := TX12) (N := 123) (ci := 12) (k0 := 0) hi_y_allow_X12 rfl rfl 93 (by decide +kernel) (List.mem_of_getElem? (i := 6) rfl) rfl dX12_allow_31 ?_
        refine v_iload_n B dX12_allow_34 rfl rfl ?_
        refine v_iload_n B dX12_allow_35 rfl rfl ?_
        refine v_iastL B (k0 := 1) (t0 := 0) (k := 1) (y := (-1)) (w' := [(h, .inr (12, fsM q 0 0 0 0 0)), ((q 93), .inl (K 0, 2, .inl (gl [(-1), (-1)])))]) rfl rfl (vpi (by decide +kernel)) (by decide +kernel) (Nat.le_of_ble_eq_true rfl) rfl rfl dX12_allow_36 ?_
        refine v_iconst B (v := 1) dX12_allow_37 (by decide +kernel) ?_
        refine v_forget (wc := []) (wr := []) (sp_pl [] [] rfl rfl rfl rfl rfl) ?_
        exact v_zret B hr hlk (by decide +kernel) () (by decide +kernel) rfl (by decide +kernel) (by decide +kernel) dX12_allow_38
      · skip
        by_cases e_pk : pk < 0
        · skip
          refine v_aload_n B dX12_allow_0 rfl rfl ?_
          refine v_iconst B (v := 0) dX12_allow_1 (by decide +kernel) ?_
          refine v_put B (C := RX12) (T := TX12) (N := 123) (ci := 12) (k0 := 0) hi_y_allow_X12 rfl rfl 0 (by decide +kernel) tyX12 tyX12_ok nmX12 (List.mem_of_getElem? (i := 1) rfl) rfl (ty := .int) (tyX12_ok 0 (by decide +kernel)) rfl rfl (Nat.le_of_ble_eq_true rfl) (w' := [(h, .inr (12, fsM q 0 0 0 0 0)), ((q 93), .inl (K 0, 2, .inl (gl [(-1), (-1)])))]) rfl dX12_allow_2 ?_
          refine v_iload_n B dX12_allow_5 rfl rfl ?_
          refine v_iconst B (v := 2) dX12_allow_6 (by decide +kernel) ?_
          refine v_callSi B (n := 2) (As := [.int 1, .int 2]) (rest := []) (wc := []) (wr := [(h, .inr (12, fsM q 0 0 0 0 0)), ((q 93), .inl (K 0, 2, .inl (gl [(-1), (-1)])))]) (m_in_T l D K 1 2 (by decide +kernel) (by decide +kernel)) gd_y_allow_m_in_T_413 rfl rfl rfl (by decide +kernel) ⟨by decide +kernel, by decide +kernel⟩ (sp_pl [] [0, 1] rfl rfl rfl rfl rfl) rfl rfl (Nat.le_of_ble_eq_true rfl) dX12_allow_7 ⟨by decide +kernel, by decide +kernel⟩ (fun r_27 u_25 hp_26 => ?_)
          subst hp_26
          show V _ _ _ _ _ _ _ _ _ _ _ _ _ _ (0, 0) [(h, .inr (12, fsM q 0 0 0 0 0)), ((q 93), .inl (K 0, 2, .inl (gl [(-1), (-1)])))] _ _ [.int 1]
          show V _ _ _ _ _ _ _ _ _ _ _ _ _ _ (0, 0) [(h, .inr (12, fsM q 0 0 0 0 0)), ((q 93), .inl (K 0, 2, .inl (gl [(-1), (-1)])))] _ _ _
          refine v_if_eq B (tgt := 28) dX12_allow_10 (by decide +kernel) (fun h => absurd h (by decide +kernel)) (fun _ => ?_)
          refine v_iload_n B dX12_allow_13 rfl rfl ?_
          refine v_iconst B (v := (-1)) dX12_allow_14 (by decide +kernel) ?_
          refine v_icmp_eq B (tgt := 30) dX12_allow_15 (by decide +kernel) (fun h => absurd h e_n) (fun _ => ?_)
          refine v_iload_n B dX12_allow_18 rfl rfl ?_
          refine v_ldcw B (v := 1000000) (List.mem_of_getElem? (i := 7) rfl) dX12_allow_19 ?_
          refine v_callSi B (n := 2) (As := [.int pk, .int 1000000]) (rest := []) (wc := []) (wr := [(h, .inr (12, fsM q 0 0 0 0 0)), ((q 93), .inl (K 0, 2, .inl (gl [(-1), (-1)])))]) (m_in_F1 l D K pk 1000000 e_pk) gd_y_allow_m_in_F1_413 rfl rfl rfl (by decide +kernel) ⟨by decide +kernel, by decide +kernel⟩ (sp_pl [] [0, 1] rfl rfl rfl rfl rfl) rfl rfl (Nat.le_of_ble_eq_true rfl) dX12_allow_22 ⟨by decide +kernel, by decide +kernel⟩ (fun r_30 u_28 hp_29 => ?_)
          subst hp_29
          show V _ _ _ _ _ _ _ _ _ _ _ _ _ _ (0, 0) [(h, .inr (12, fsM q 0 0 0 0 0)), ((q 93), .inl (K 0, 2, .inl (gl [(-1), (-1)])))] _ _ [.int 0]
          show V _ _ _ _ _ _ _ _ _ _ _ _ _ _ (0, 0) [(h, .inr (12, fsM q 0 0 0 0 0)), ((q 93), .inl (K 0, 2, .inl (gl [(-1), (-1)])))] _ _ _
          refine v_if_ne B (tgt := 30) dX12_allow_25 (by decide +kernel) (fun h => absurd (by decide +kernel) h) (fun _ => ?_)
          refine v_iconst B (v := 0) dX12_allow_28 (by decide +kernel) ?_
          refine v_forget (wc := []) (wr := []) (sp_pl [] [] rfl rfl rfl rfl rfl) ?_
          exact v_zret B hr hlk (by decide +kernel) () (by simp [an_allow, rg_m1 e_pk e_n]) rfl (by decide +kernel) (by decide +kernel) dX12_allow_29
        · skip
          by_cases f_pk : 1000000 ≤ pk
          · skip
            refine v_aload_n B dX12_allow_0 rfl rfl ?_
            refine v_iconst B (v := 0) dX12_allow_1 (by decide +kernel) ?_
            refine v_put B (C := RX12) (T := TX12) (N := 123) (ci := 12) (k0 := 0) hi_y_allow_X12 rfl rfl 0 (by decide +kernel) tyX12 tyX12_ok nmX12 (List.mem_of_getElem? (i := 1) rfl) rfl (ty := .int) (tyX12_ok 0 (by decide +kernel)) rfl rfl (Nat.le_of_ble_eq_true rfl) (w' := [(h, .inr (12, fsM q 0 0 0 0 0)), ((q 93), .inl (K 0, 2, .inl (gl [(-1), (-1)])))]) rfl dX12_allow_2 ?_
            refine v_iload_n B dX12_allow_5 rfl rfl ?_
            refine v_iconst B (v := 2) dX12_allow_6 (by decide +kernel) ?_
            refine v_callSi B (n := 2) (As := [.int 1, .int 2]) (rest := []) (wc := []) (wr := [(h, .inr (12, fsM q 0 0 0 0 0)), ((q 93), .inl (K 0, 2, .inl (gl [(-1), (-1)])))]) (m_in_T l D K 1 2 (by decide +kernel) (by decide +kernel)) gd_y_allow_m_in_T_413 rfl rfl rfl (by decide +kernel) ⟨by decide +kernel, by decide +kernel⟩ (sp_pl [] [0, 1] rfl rfl rfl rfl rfl) rfl rfl (Nat.le_of_ble_eq_true rfl) dX12_allow_7 ⟨by decide +kernel, by decide +kernel⟩ (fun r_33 u_31 hp_32 => ?_)
            subst hp_32
            show V _ _ _ _ _ _ _ _ _ _ _ _ _ _ (0, 0) [(h, .inr (12, fsM q 0 0 0 0 0)), ((q 93), .inl (K 0, 2, .inl (gl [(-1), (-1)])))] _ _ [.int 1]
            show V _ _ _ _ _ _ _ _ _ _ _ _ _ _ (0, 0) [(h, .inr (12, fsM q 0 0 0 0 0)), ((q 93), .inl (K 0, 2, .inl (gl [(-1), (-1)])))] _ _ _
            refine v_if_eq B (tgt := 28) dX12_allow_10 (by decide +kernel) (fun h => absurd h (by decide +kernel)) (fun _ => ?_)
            refine v_iload_n B dX12_allow_13 rfl rfl ?_
            refine v_iconst B (v := (-1)) dX12_allow_14 (by decide +kernel) ?_
            refine v_icmp_eq B (tgt := 30) dX12_allow_15 (by decide +kernel) (fun h => absurd h e_n) (fun _ => ?_)
            refine v_iload_n B dX12_allow_18 rfl rfl ?_
            refine v_ldcw B (v := 1000000) (List.mem_of_getElem? (i := 7) rfl) dX12_allow_19 ?_
            refine v_callSi B (n := 2) (As := [.int pk, .int 1000000]) (rest := []) (wc := []) (wr := [(h, .inr (12, fsM q 0 0 0 0 0)), ((q 93), .inl (K 0, 2, .inl (gl [(-1), (-1)])))]) (m_in_F2 l D K pk 1000000 (rg_nlt f_pk (by decide +kernel)) (rg_ge f_pk (by decide +kernel))) gd_y_allow_m_in_F2_413 rfl rfl rfl (by decide +kernel) ⟨by decide +kernel, by decide +kernel⟩ (sp_pl [] [0, 1] rfl rfl rfl rfl rfl) rfl rfl (Nat.le_of_ble_eq_true rfl) dX12_allow_22 ⟨by decide +kernel, by decide +kernel⟩ (fun r_36 u_34 hp_35 => ?_)
            subst hp_35
            show V _ _ _ _ _ _ _ _ _ _ _ _ _ _ (0, 0) [(h, .inr (12, fsM q 0 0 0 0 0)), ((q 93), .inl (K 0, 2, .inl (gl [(-1), (-1)])))] _ _ [.int 0]
            show V _ _ _ _ _ _ _ _ _ _ _ _ _ _ (0, 0) [(h, .inr (12, fsM q 0 0 0 0 0)), ((q 93), .inl (K 0, 2, .inl (gl [(-1), (-1)])))] _ _ _
            refine v_if_ne B (tgt := 30) dX12_allow_25 (by decide +kernel) (fun h => absurd (by decide +kernel) h) (fun _ => ?_)
            refine v_iconst B (v := 0) dX12_allow_28 (by decide +kernel) ?_
            refine v_forget (wc := []) (wr := []) (sp_pl [] [] rfl rfl rfl rfl rfl) ?_
            exact v_zret B hr hlk (by decide +kernel) () (by simp [an_allow, (rg_nlt f_pk (by decide +kernel) : ¬ pk < -1), (rg_gt f_pk (by decide +kernel) : 999999 < pk)]) rfl (by decide +kernel) (by decide +kernel) dX12_allow_29
          · skip
            refine v_aload_n B dX12_allow_0 rfl rfl ?_
            refine v_iconst B (v := 0) dX12_allow_1 (by decide +kernel) ?_
            refine v_put B (C := RX12) (T := TX12) (N := 123) (ci := 12) (k0 := 0) hi_y_allow_X12 rfl rfl 0 (by decide +kernel) tyX12 tyX12_ok nmX12 (List.mem_of_getElem? (i := 1) rfl) rfl (ty := .int) (tyX12_ok 0 (by decide +kernel)) rfl rfl (Nat.le_of_ble_eq_true rfl) (w' := [(h, .inr (12, fsM q 0 0 0 0 0)), ((q 93), .inl (K 0, 2, .inl (gl [(-1), (-1)])))]) rfl dX12_allow_2 ?_
            refine v_iload_n B dX12_allow_5 rfl rfl ?_
            refine v_iconst B (v := 2) dX12_allow_6 (by decide +kernel) ?_
            refine v_callSi B (n := 2) (As := [.int 1, .int 2]) (rest := []) (wc := []) (wr := [(h, .inr (12, fsM q 0 0 0 0 0)), ((q 93), .inl (K 0, 2, .inl (gl [(-1), (-1)])))]) (m_in_T l D K 1 2 (by decide +kernel) (by decide +kernel)) gd_y_allow_m_in_T_413 rfl rfl rfl (by decide +kernel) ⟨by decide +kernel, by decide +kernel⟩ (sp_pl [] [0, 1] rfl rfl rfl rfl rfl) rfl rfl (Nat.le_of_ble_eq_true rfl) dX12_allow_7 ⟨by decide +kernel, by decide +kernel⟩ (fun r_39 u_37 hp_38 => ?_)
            subst hp_38
            show V _ _ _ _ _ _ _ _ _ _ _ _ _ _ (0, 0) [(h, .inr (12, fsM q 0 0 0 0 0)), ((q 93), .inl (K 0, 2, .inl (gl [(-1), (-1)])))] _ _ [.int 1]
            show V _ _ _ _ _ _ _ _ _ _ _ _ _ _ (0, 0) [(h, .inr (12, fsM q 0 0 0 0 0)), ((q 93), .inl (K 0, 2, .inl (gl [(-1), (-1)])))] _ _ _
            refine v_if_eq B (tgt := 28) dX12_allow_10 (by decide +kernel) (fun h => absurd h (by decide +kernel)) (fun _ => ?_)
            refine v_iload_n B dX12_allow_13 rfl rfl ?_
            refine v_iconst B (v := (-1)) dX12_allow_14 (by decide +kernel) ?_
            refine v_icmp_eq B (tgt := 30) dX12_allow_15 (by decide +kernel) (fun h => absurd h e_n) (fun _ => ?_)
            refine v_iload_n B dX12_allow_18 rfl rfl ?_
            refine v_ldcw B (v := 1000000) (List.mem_of_getElem? (i := 7) rfl) dX12_allow_19 ?_
            refine v_callSi B (n := 2) (As := [.int pk, .int 1000000]) (rest := []) (wc := []) (wr := [(h, .inr (12, fsM q 0 0 0 0 0)), ((q 93), .inl (K 0, 2, .inl (gl [(-1), (-1)])))]) (m_in_T l D K pk 1000000 e_pk f_pk) gd_y_allow_m_in_T_413 rfl rfl rfl (by decide +kernel) ⟨by decide +kernel, by decide +kernel⟩ (sp_pl [] [0, 1] rfl rfl rfl rfl rfl) rfl rfl (Nat.le_of_ble_eq_true rfl) dX12_allow_22 ⟨by decide +kernel, by decide +kernel⟩ (fun r_42 u_40 hp_41 => ?_)
            subst hp_41
            show V _ _ _ _ _ _ _ _ _ _ _ _ _ _ (0, 0) [(h, .inr (12, fsM q 0 0 0 0 0)), ((q 93), .inl (K 0, 2, .inl (gl [(-1), (-1)])))] _ _ [.int 1]
            show V _ _ _ _ _ _ _ _ _ _ _ _ _ _ (0, 0) [(h, .inr (12, fsM q 0 0 0 0 0)), ((q 93), .inl (K 0, 2, .inl (gl [(-1), (-1)])))] _ _ _
            refine v_if_ne B (tgt := 30) dX12_allow_25 (by decide +kernel) (fun _ => ?_) (fun h => absurd h (by decide +kernel))
            refine v_aload_n B dX12_allow_30 rfl rfl ?_
            refine v_get B (C := RX12) (T := TX12) (N := 123) (ci := 12) (k0 := 0) hi_y_allow_X12 rfl rfl 93 (by decide +kernel) (List.mem_of_getElem? (i := 6) rfl) rfl dX12_allow_31 ?_
            refine v_iload_n B dX12_allow_34 rfl rfl ?_
            refine v_iload_n B dX12_allow_35 rfl rfl ?_
            refine v_iastL B (k0 := 1) (t0 := 0) (k := 1) (y := pk) (w' := [(h, .inr (12, fsM q 0 0 0 0 0)), ((q 93), .inl (K 0, 2, .inl (gl [(-1), pk])))]) rfl rfl (vpi (by decide +kernel)) (by decide +kernel) (Nat.le_of_ble_eq_true rfl) rfl rfl dX12_allow_36 ?_
            refine v_iconst B (v := 1) dX12_allow_37 (by decide +kernel) ?_
            refine v_forget (wc := []) (wr := []) (sp_pl [] [] rfl rfl rfl rfl rfl) ?_
            exact v_zret B hr hlk (by decide +kernel) () (by simp [an_allow, (rg_nlt (Int32.not_lt.mp e_pk) (by decide +kernel) : ¬ pk < -1), (rg_ngt (Int32.not_le.mp f_pk) (by decide +kernel) : ¬ 999999 < pk)]) rfl (by decide +kernel) (by decide +kernel) dX12_allow_38
    · skip
      by_cases e1 : d < 0
      · skip
        refine v_aload_n B dX12_allow_0 rfl rfl ?_
        refine v_iconst B (v := 0) dX12_allow_1 (by decide +kernel) ?_
        refine v_put B (C := RX12) (T := TX12) (N := 123) (ci := 12) (k0 := 0) hi_y_allow_X12 rfl rfl 0 (by decide +kernel) tyX12 tyX12_ok nmX12 (List.mem_of_getElem? (i := 1) rfl) rfl (ty := .int) (tyX12_ok 0 (by decide +kernel)) rfl rfl (Nat.le_of_ble_eq_true rfl) (w' := [(h, .inr (12, fsM q 0 0 0 0 0)), ((q 93), .inl (K 0, 2, .inl (gl [(-1), (-1)])))]) rfl dX12_allow_2 ?_
        refine v_iload_n B dX12_allow_5 rfl rfl ?_
        refine v_iconst B (v := 2) dX12_allow_6 (by decide +kernel) ?_
        refine v_callSi B (n := 2) (As := [.int d, .int 2]) (rest := []) (wc := []) (wr := [(h, .inr (12, fsM q 0 0 0 0 0)), ((q 93), .inl (K 0, 2, .inl (gl [(-1), (-1)])))]) (m_in_F1 l D K d 2 e1) gd_y_allow_m_in_F1_413 rfl rfl rfl (by decide +kernel) ⟨by decide +kernel, by decide +kernel⟩ (sp_pl [] [0, 1] rfl rfl rfl rfl rfl) rfl rfl (Nat.le_of_ble_eq_true rfl) dX12_allow_7 ⟨by decide +kernel, by decide +kernel⟩ (fun r_45 u_43 hp_44 => ?_)
        subst hp_44
        show V _ _ _ _ _ _ _ _ _ _ _ _ _ _ (0, 0) [(h, .inr (12, fsM q 0 0 0 0 0)), ((q 93), .inl (K 0, 2, .inl (gl [(-1), (-1)])))] _ _ [.int 0]
        show V _ _ _ _ _ _ _ _ _ _ _ _ _ _ (0, 0) [(h, .inr (12, fsM q 0 0 0 0 0)), ((q 93), .inl (K 0, 2, .inl (gl [(-1), (-1)])))] _ _ _
        refine v_if_eq B (tgt := 28) dX12_allow_10 (by decide +kernel) (fun _ => ?_) (fun h => absurd (by decide +kernel) h)
        refine v_iconst B (v := 0) dX12_allow_28 (by decide +kernel) ?_
        refine v_forget (wc := []) (wr := []) (sp_pl [] [] rfl rfl rfl rfl rfl) ?_
        exact v_zret B hr hlk (by decide +kernel) () (by simp [an_allow, h0, h1]) rfl (by decide +kernel) (by decide +kernel) dX12_allow_29
      · skip
        refine v_aload_n B dX12_allow_0 rfl rfl ?_
        refine v_iconst B (v := 0) dX12_allow_1 (by decide +kernel) ?_
        refine v_put B (C := RX12) (T := TX12) (N := 123) (ci := 12) (k0 := 0) hi_y_allow_X12 rfl rfl 0 (by decide +kernel) tyX12 tyX12_ok nmX12 (List.mem_of_getElem? (i := 1) rfl) rfl (ty := .int) (tyX12_ok 0 (by decide +kernel)) rfl rfl (Nat.le_of_ble_eq_true rfl) (w' := [(h, .inr (12, fsM q 0 0 0 0 0)), ((q 93), .inl (K 0, 2, .inl (gl [(-1), (-1)])))]) rfl dX12_allow_2 ?_
        refine v_iload_n B dX12_allow_5 rfl rfl ?_
        refine v_iconst B (v := 2) dX12_allow_6 (by decide +kernel) ?_
        refine v_callSi B (n := 2) (As := [.int d, .int 2]) (rest := []) (wc := []) (wr := [(h, .inr (12, fsM q 0 0 0 0 0)), ((q 93), .inl (K 0, 2, .inl (gl [(-1), (-1)])))]) (m_in_F2 l D K d 2 (rg_nlt (i_ge2 h0 h1 e1) (by decide +kernel)) (rg_ge (i_ge2 h0 h1 e1) (by decide +kernel))) gd_y_allow_m_in_F2_413 rfl rfl rfl (by decide +kernel) ⟨by decide +kernel, by decide +kernel⟩ (sp_pl [] [0, 1] rfl rfl rfl rfl rfl) rfl rfl (Nat.le_of_ble_eq_true rfl) dX12_allow_7 ⟨by decide +kernel, by decide +kernel⟩ (fun r_48 u_46 hp_47 => ?_)
        subst hp_47
        show V _ _ _ _ _ _ _ _ _ _ _ _ _ _ (0, 0) [(h, .inr (12, fsM q 0 0 0 0 0)), ((q 93), .inl (K 0, 2, .inl (gl [(-1), (-1)])))] _ _ [.int 0]
        show V _ _ _ _ _ _ _ _ _ _ _ _ _ _ (0, 0) [(h, .inr (12, fsM q 0 0 0 0 0)), ((q 93), .inl (K 0, 2, .inl (gl [(-1), (-1)])))] _ _ _
        refine v_if_eq B (tgt := 28) dX12_allow_10 (by decide +kernel) (fun _ => ?_) (fun h => absurd (by decide +kernel) h)
        refine v_iconst B (v := 0) dX12_allow_28 (by decide +kernel) ?_
        refine v_forget (wc := []) (wr := []) (sp_pl [] [] rfl rfl rfl rfl rfl) ?_
        exact v_zret B hr hlk (by decide +kernel) () (by simp [an_allow, h0, h1]) rfl (by decide +kernel) (by decide +kernel) dX12_allow_29

def wp_y_attribute : List Cond := .code yX12_attribute cX12_attribute 5 (some .int) :: ([.fieldLink RX12 1 "LowEnergyModel" "thrown" "I", .methodLink RX12 413 yX12_in, .static yX12_in, .initialized RX12, .code yX12_in cX12_in 2 (some .boolean), .fieldLink RX12 320 "LowEnergyModel" "attributes" "[I", .constant RX12 687 (65536), .fieldLink RX12 7 "LowEnergyModel" "taped" "I", .fieldLink RX12 323 "LowEnergyModel" "type" "[I", .methodLink RX12 547 yX12_row, .instanceMethod yX12_row, .selects RX12 yX12_row yX12_row, .code yX12_row cX12_row 3 (some .int), .fieldLink RX12 326 "LowEnergyModel" "rights" "[I", .methodLink RX12 688 yX12_becomes, .instanceMethod yX12_becomes, .selects RX12 yX12_becomes yX12_becomes, .code yX12_becomes cX12_becomes 3 none, .fieldLink RX12 329 "LowEnergyModel" "length" "[I", .fieldLink RX12 10 "LowEnergyModel" "tape" "[B", .fieldLink RX12 341 "LowEnergyModel" "values" "[B", .methodLink RX12 29 yX12_copy, .static yX12_copy, .code yX12_copy cX12_copy 6 none] ++ (wsX120 ++ ([])))
theorem hi_y_attribute_X12 : ∀ x ∈ u_ws RX12 TX12 123, x ∈ wp_y_attribute := fun _ h => List.mem_cons_of_mem _ (List.mem_append_right _ (List.mem_append_left _ h))
set_option maxRecDepth 100000 in
theorem gd_y_attribute_m_in_T_413 : GoodIn wp_y_attribute (va_wsS RX12 413 yX12_in wp_m_in_T) := goodIn_app (goodIn_r _ [2, 3, 4] rfl rfl) (goodIn_ca (goodIn_r _ [5] rfl rfl) (goodIn_nil))
set_option maxRecDepth 100000 in
theorem gd_y_attribute_m_in_F1_413 : GoodIn wp_y_attribute (va_wsS RX12 413 yX12_in wp_m_in_F1) := goodIn_app (goodIn_r _ [2, 3, 4] rfl rfl) (goodIn_ca (goodIn_r _ [5] rfl rfl) (goodIn_nil))
set_option maxRecDepth 100000 in
theorem gd_y_attribute_m_in_F2_413 : GoodIn wp_y_attribute (va_wsS RX12 413 yX12_in wp_m_in_F2) := goodIn_app (goodIn_r _ [2, 3, 4] rfl rfl) (goodIn_ca (goodIn_r _ [5] rfl rfl) (goodIn_nil))
set_option maxRecDepth 100000 in
theorem gd_y_attribute_m_row_0_547 : GoodIn wp_y_attribute (wsV RX12 547 RX12 yX12_row wp_m_row_0) := goodIn_app (goodIn_r _ [10, 11, 12, 4] rfl rfl) (goodIn_ca (goodIn_r _ [13] rfl rfl) (goodIn_nil))
set_option maxRecDepth 100000 in
theorem gd_y_attribute_m_becomes_0_688 : GoodIn wp_y_attribute (wsV RX12 688 RX12 yX12_becomes wp_m_becomes_0) := goodIn_app (goodIn_r _ [15, 16, 17, 4] rfl rfl) (goodIn_ca (goodIn_r _ [18, 19, 10, 11, 12, 4, 13, 8, 20, 21, 22, 23, 24] rfl rfl) (goodIn_app (goodIn_cls hi_y_attribute_X12 gw_X12) (goodIn_nil)))
set_option maxRecDepth 100000 in
theorem gd_y_attribute_m_row_1_547 : GoodIn wp_y_attribute (wsV RX12 547 RX12 yX12_row wp_m_row_1) := goodIn_app (goodIn_r _ [10, 11, 12, 4] rfl rfl) (goodIn_ca (goodIn_r _ [13] rfl rfl) (goodIn_nil))
set_option maxRecDepth 100000 in
theorem gd_y_attribute_m_becomes_1_688 : GoodIn wp_y_attribute (wsV RX12 688 RX12 yX12_becomes wp_m_becomes_1) := goodIn_app (goodIn_r _ [15, 16, 17, 4] rfl rfl) (goodIn_ca (goodIn_r _ [18, 19, 10, 11, 12, 4, 13, 8, 20, 21, 22, 23, 24] rfl rfl) (goodIn_app (goodIn_cls hi_y_attribute_X12 gw_X12) (goodIn_nil)))
set_option maxHeartbeats 4000000 in
set_option maxRecDepth 100000 in
theorem y_attribute (l : Launch) (D : va_G) (K : Nat → ClassId) (h : Nat) (q : Nat → Nat) (fa : Int64) (sa : Int64) (d : Int32) (ty : Int32) (rg : Int32) : MG l yX12_attribute wp_y_attribute ({ frames := 2, cells := 0, slots := 0, locals := 47 }) D (tysA K) [.ref h, .int d, .int ty, .int rg] [(h, .inr (12, fsM q 0 0 0 0 0)), ((q 100), .inl (K 0, 2, .inl (gl [0, 0]))), ((q 101), .inl (K 0, 40, .inl (fun _ => 0))), ((q 102), .inl (K 0, 40, .inl (fun _ => 0))), ((q 103), .inl (K 0, 40, .inl (fun _ => 0)))] (Qi D (fun (r : Int32) (_ : Unit) => r = an_attribute d ty rg) (fun _ => [])) 0 0 := by
  refine mg_of (cc := cX12_attribute) (maxL := 5) (ret := (some .int)) (by decide +kernel) rfl (Nat.le_of_ble_eq_true rfl) ?_
  intro p e s m below meth c A B hr hlk hnam
  show V _ _ _ _ _ _ _ _ _ _ _ _ _ _ _ _ [(0, .ref h), (1, .int d), (2, .int ty), (3, .int rg)] _ _
  by_cases h0 : d = 0
  · subst h0
    by_cases e_ty : ty < 0
    · skip
      by_cases e_rg : rg < 0
      · skip
        refine v_aload_n B dX12_attribute_0 rfl rfl ?_
        refine v_iconst B (v := 0) dX12_attribute_1 (by decide +kernel) ?_
        refine v_put B (C := RX12) (T := TX12) (N := 123) (ci := 12) (k0 := 0) hi_y_attribute_X12 rfl rfl 0 (by decide +kernel) tyX12 tyX12_ok nmX12 (List.mem_of_getElem? (i := 1) rfl) rfl (ty := .int) (tyX12_ok 0 (by decide +kernel)) rfl rfl (Nat.le_of_ble_eq_true rfl) (w' := [(h, .inr (12, fsM q 0 0 0 0 0)), ((q 100), .inl (K 0, 2, .inl (gl [0, 0]))), ((q 101), .inl (K 0, 40, .inl (fun _ => 0))), ((q 102), .inl (K 0, 40, .inl (fun _ => 0))), ((q 103), .inl (K 0, 40, .inl (fun _ => 0)))]) rfl dX12_attribute_2 ?_
        refine v_iload_n B dX12_attribute_5 rfl rfl ?_
        refine v_iconst B (v := 2) dX12_attribute_6 (by decide +kernel) ?_
        refine v_callSi B (n := 2) (As := [.int 0, .int 2]) (rest := []) (wc := []) (wr := [(h, .inr (12, fsM q 0 0 0 0 0)), ((q 100), .inl (K 0, 2, .inl (gl [0, 0]))), ((q 101), .inl (K 0, 40, .inl (fun _ => 0))), ((q 102), .inl (K 0, 40, .inl (fun _ => 0))), ((q 103), .inl (K 0, 40, .inl (fun _ => 0)))]) (m_in_T l D K 0 2 (by decide +kernel) (by decide +kernel)) gd_y_attribute_m_in_T_413 rfl rfl rfl (by decide +kernel) ⟨by decide +kernel, by decide +kernel⟩ (sp_pl [] [0, 1, 2, 3, 4] rfl rfl rfl rfl rfl) rfl rfl (Nat.le_of_ble_eq_true rfl) dX12_attribute_7 ⟨by decide +kernel, by decide +kernel⟩ (fun r_3 u_1 hp_2 => ?_)
        subst hp_2
        show V _ _ _ _ _ _ _ _ _ _ _ _ _ _ (0, 0) [(h, .inr (12, fsM q 0 0 0 0 0)), ((q 100), .inl (K 0, 2, .inl (gl [0, 0]))), ((q 101), .inl (K 0, 40, .inl (fun _ => 0))), ((q 102), .inl (K 0, 40, .inl (fun _ => 0))), ((q 103), .inl (K 0, 40, .inl (fun _ => 0)))] _ _ [.int 1]
        show V _ _ _ _ _ _ _ _ _ _ _ _ _ _ (0, 0) [(h, .inr (12, fsM q 0 0 0 0 0)), ((q 100), .inl (K 0, 2, .inl (gl [0, 0]))), ((q 101), .inl (K 0, 40, .inl (fun _ => 0))), ((q 102), .inl (K 0, 40, .inl (fun _ => 0))), ((q 103), .inl (K 0, 40, .inl (fun _ => 0)))] _ _ _
        refine v_if_eq B (tgt := 52) dX12_attribute_10 (by decide +kernel) (fun h => absurd h (by decide +kernel)) (fun _ => ?_)
        refine v_aload_n B dX12_attribute_13 rfl rfl ?_
        refine v_get B (C := RX12) (T := TX12) (N := 123) (ci := 12) (k0 := 0) hi_y_attribute_X12 rfl rfl 100 (by decide +kernel) (List.mem_of_getElem? (i := 6) rfl) rfl dX12_attribute_14 ?_
        refine v_iload_n B dX12_attribute_17 rfl rfl ?_
        refine v_iald B (k0 := 1) (t0 := 0) (v := 0) rfl rfl (vpi (by decide +kernel)) rfl dX12_attribute_18 ?_
        refine v_bipush B (v := 20) dX12_attribute_19 (by decide +kernel) ?_
        refine v_icmp_eq B (tgt := 52) dX12_attribute_21 (by decide +kernel) (fun h => absurd h (by decide +kernel)) (fun _ => ?_)
        refine v_iload_n B dX12_attribute_24 rfl rfl ?_
        refine v_ldcw B (v := 65536) (List.mem_of_getElem? (i := 7) rfl) dX12_attribute_25 ?_
        refine v_callSi B (n := 2) (As := [.int ty, .int 65536]) (rest := []) (wc := []) (wr := [(h, .inr (12, fsM q 0 0 0 0 0)), ((q 100), .inl (K 0, 2, .inl (gl [0, 0]))), ((q 101), .inl (K 0, 40, .inl (fun _ => 0))), ((q 102), .inl (K 0, 40, .inl (fun _ => 0))), ((q 103), .inl (K 0, 40, .inl (fun _ => 0)))]) (m_in_F1 l D K ty 65536 e_ty) gd_y_attribute_m_in_F1_413 rfl rfl rfl (by decide +kernel) ⟨by decide +kernel, by decide +kernel⟩ (sp_pl [] [0, 1, 2, 3, 4] rfl rfl rfl rfl rfl) rfl rfl (Nat.le_of_ble_eq_true rfl) dX12_attribute_28 ⟨by decide +kernel, by decide +kernel⟩ (fun r_6 u_4 hp_5 => ?_)
        subst hp_5
        show V _ _ _ _ _ _ _ _ _ _ _ _ _ _ (0, 0) [(h, .inr (12, fsM q 0 0 0 0 0)), ((q 100), .inl (K 0, 2, .inl (gl [0, 0]))), ((q 101), .inl (K 0, 40, .inl (fun _ => 0))), ((q 102), .inl (K 0, 40, .inl (fun _ => 0))), ((q 103), .inl (K 0, 40, .inl (fun _ => 0)))] _ _ [.int 0]
        show V _ _ _ _ _ _ _ _ _ _ _ _ _ _ (0, 0) [(h, .inr (12, fsM q 0 0 0 0 0)), ((q 100), .inl (K 0, 2, .inl (gl [0, 0]))), ((q 101), .inl (K 0, 40, .inl (fun _ => 0))), ((q 102), .inl (K 0, 40, .inl (fun _ => 0))), ((q 103), .inl (K 0, 40, .inl (fun _ => 0)))] _ _ _
        refine v_if_eq B (tgt := 52) dX12_attribute_31 (by decide +kernel) (fun _ => ?_) (fun h => absurd (by decide +kernel) h)
        refine v_iconst B (v := (-1)) dX12_attribute_52 (by decide +kernel) ?_
        refine v_forget (wc := []) (wr := []) (sp_pl [] [] rfl rfl rfl rfl rfl) ?_
        exact v_iret B hr hlk () (by simp [an_attribute, e_ty, e_rg]) rfl (by decide +kernel) (by decide +kernel) dX12_attribute_53
      · skip
        by_cases f_rg : 8 ≤ rg
        · skip
          refine v_aload_n B dX12_attribute_0 rfl rfl ?_
          refine v_iconst B (v := 0) dX12_attribute_1 (by decide +kernel) ?_
          refine v_put B (C := RX12) (T := TX12) (N := 123) (ci := 12) (k0 := 0) hi_y_attribute_X12 rfl rfl 0 (by decide +kernel) tyX12 tyX12_ok nmX12 (List.mem_of_getElem? (i := 1) rfl) rfl (ty := .int) (tyX12_ok 0 (by decide +kernel)) rfl rfl (Nat.le_of_ble_eq_true rfl) (w' := [(h, .inr (12, fsM q 0 0 0 0 0)), ((q 100), .inl (K 0, 2, .inl (gl [0, 0]))), ((q 101), .inl (K 0, 40, .inl (fun _ => 0))), ((q 102), .inl (K 0, 40, .inl (fun _ => 0))), ((q 103), .inl (K 0, 40, .inl (fun _ => 0)))]) rfl dX12_attribute_2 ?_
          refine v_iload_n B dX12_attribute_5 rfl rfl ?_
          refine v_iconst B (v := 2) dX12_attribute_6 (by decide +kernel) ?_
          refine v_callSi B (n := 2) (As := [.int 0, .int 2]) (rest := []) (wc := []) (wr := [(h, .inr (12, fsM q 0 0 0 0 0)), ((q 100), .inl (K 0, 2, .inl (gl [0, 0]))), ((q 101), .inl (K 0, 40, .inl (fun _ => 0))), ((q 102), .inl (K 0, 40, .inl (fun _ => 0))), ((q 103), .inl (K 0, 40, .inl (fun _ => 0)))]) (m_in_T l D K 0 2 (by decide +kernel) (by decide +kernel)) gd_y_attribute_m_in_T_413 rfl rfl rfl (by decide +kernel) ⟨by decide +kernel, by decide +kernel⟩ (sp_pl [] [0, 1, 2, 3, 4] rfl rfl rfl rfl rfl) rfl rfl (Nat.le_of_ble_eq_true rfl) dX12_attribute_7 ⟨by decide +kernel, by decide +kernel⟩ (fun r_9 u_7 hp_8 => ?_)
          subst hp_8
          show V _ _ _ _ _ _ _ _ _ _ _ _ _ _ (0, 0) [(h, .inr (12, fsM q 0 0 0 0 0)), ((q 100), .inl (K 0, 2, .inl (gl [0, 0]))), ((q 101), .inl (K 0, 40, .inl (fun _ => 0))), ((q 102), .inl (K 0, 40, .inl (fun _ => 0))), ((q 103), .inl (K 0, 40, .inl (fun _ => 0)))] _ _ [.int 1]
          show V _ _ _ _ _ _ _ _ _ _ _ _ _ _ (0, 0) [(h, .inr (12, fsM q 0 0 0 0 0)), ((q 100), .inl (K 0, 2, .inl (gl [0, 0]))), ((q 101), .inl (K 0, 40, .inl (fun _ => 0))), ((q 102), .inl (K 0, 40, .inl (fun _ => 0))), ((q 103), .inl (K 0, 40, .inl (fun _ => 0)))] _ _ _
          refine v_if_eq B (tgt := 52) dX12_attribute_10 (by decide +kernel) (fun h => absurd h (by decide +kernel)) (fun _ => ?_)
          refine v_aload_n B dX12_attribute_13 rfl rfl ?_
          refine v_get B (C := RX12) (T := TX12) (N := 123) (ci := 12) (k0 := 0) hi_y_attribute_X12 rfl rfl 100 (by decide +kernel) (List.mem_of_getElem? (i := 6) rfl) rfl dX12_attribute_14 ?_
          refine v_iload_n B dX12_attribute_17 rfl rfl ?_
          refine v_iald B (k0 := 1) (t0 := 0) (v := 0) rfl rfl (vpi (by decide +kernel)) rfl dX12_attribute_18 ?_
          refine v_bipush B (v := 20) dX12_attribute_19 (by decide +kernel) ?_
          refine v_icmp_eq B (tgt := 52) dX12_attribute_21 (by decide +kernel) (fun h => absurd h (by decide +kernel)) (fun _ => ?_)
          refine v_iload_n B dX12_attribute_24 rfl rfl ?_
          refine v_ldcw B (v := 65536) (List.mem_of_getElem? (i := 7) rfl) dX12_attribute_25 ?_
          refine v_callSi B (n := 2) (As := [.int ty, .int 65536]) (rest := []) (wc := []) (wr := [(h, .inr (12, fsM q 0 0 0 0 0)), ((q 100), .inl (K 0, 2, .inl (gl [0, 0]))), ((q 101), .inl (K 0, 40, .inl (fun _ => 0))), ((q 102), .inl (K 0, 40, .inl (fun _ => 0))), ((q 103), .inl (K 0, 40, .inl (fun _ => 0)))]) (m_in_F1 l D K ty 65536 e_ty) gd_y_attribute_m_in_F1_413 rfl rfl rfl (by decide +kernel) ⟨by decide +kernel, by decide +kernel⟩ (sp_pl [] [0, 1, 2, 3, 4] rfl rfl rfl rfl rfl) rfl rfl (Nat.le_of_ble_eq_true rfl) dX12_attribute_28 ⟨by decide +kernel, by decide +kernel⟩ (fun r_12 u_10 hp_11 => ?_)
          subst hp_11
          show V _ _ _ _ _ _ _ _ _ _ _ _ _ _ (0, 0) [(h, .inr (12, fsM q 0 0 0 0 0)), ((q 100), .inl (K 0, 2, .inl (gl [0, 0]))), ((q 101), .inl (K 0, 40, .inl (fun _ => 0))), ((q 102), .inl (K 0, 40, .inl (fun _ => 0))), ((q 103), .inl (K 0, 40, .inl (fun _ => 0)))] _ _ [.int 0]
          show V _ _ _ _ _ _ _ _ _ _ _ _ _ _ (0, 0) [(h, .inr (12, fsM q 0 0 0 0 0)), ((q 100), .inl (K 0, 2, .inl (gl [0, 0]))), ((q 101), .inl (K 0, 40, .inl (fun _ => 0))), ((q 102), .inl (K 0, 40, .inl (fun _ => 0))), ((q 103), .inl (K 0, 40, .inl (fun _ => 0)))] _ _ _
          refine v_if_eq B (tgt := 52) dX12_attribute_31 (by decide +kernel) (fun _ => ?_) (fun h => absurd (by decide +kernel) h)
          refine v_iconst B (v := (-1)) dX12_attribute_52 (by decide +kernel) ?_
          refine v_forget (wc := []) (wr := []) (sp_pl [] [] rfl rfl rfl rfl rfl) ?_
          exact v_iret B hr hlk () (by simp [an_attribute, e_ty, e_rg, (rg_gt f_rg (by decide +kernel) : 7 < rg)]) rfl (by decide +kernel) (by decide +kernel) dX12_attribute_53
        · skip
          refine v_aload_n B dX12_attribute_0 rfl rfl ?_
          refine v_iconst B (v := 0) dX12_attribute_1 (by decide +kernel) ?_
          refine v_put B (C := RX12) (T := TX12) (N := 123) (ci := 12) (k0 := 0) hi_y_attribute_X12 rfl rfl 0 (by decide +kernel) tyX12 tyX12_ok nmX12 (List.mem_of_getElem? (i := 1) rfl) rfl (ty := .int) (tyX12_ok 0 (by decide +kernel)) rfl rfl (Nat.le_of_ble_eq_true rfl) (w' := [(h, .inr (12, fsM q 0 0 0 0 0)), ((q 100), .inl (K 0, 2, .inl (gl [0, 0]))), ((q 101), .inl (K 0, 40, .inl (fun _ => 0))), ((q 102), .inl (K 0, 40, .inl (fun _ => 0))), ((q 103), .inl (K 0, 40, .inl (fun _ => 0)))]) rfl dX12_attribute_2 ?_
          refine v_iload_n B dX12_attribute_5 rfl rfl ?_
          refine v_iconst B (v := 2) dX12_attribute_6 (by decide +kernel) ?_
          refine v_callSi B (n := 2) (As := [.int 0, .int 2]) (rest := []) (wc := []) (wr := [(h, .inr (12, fsM q 0 0 0 0 0)), ((q 100), .inl (K 0, 2, .inl (gl [0, 0]))), ((q 101), .inl (K 0, 40, .inl (fun _ => 0))), ((q 102), .inl (K 0, 40, .inl (fun _ => 0))), ((q 103), .inl (K 0, 40, .inl (fun _ => 0)))]) (m_in_T l D K 0 2 (by decide +kernel) (by decide +kernel)) gd_y_attribute_m_in_T_413 rfl rfl rfl (by decide +kernel) ⟨by decide +kernel, by decide +kernel⟩ (sp_pl [] [0, 1, 2, 3, 4] rfl rfl rfl rfl rfl) rfl rfl (Nat.le_of_ble_eq_true rfl) dX12_attribute_7 ⟨by decide +kernel, by decide +kernel⟩ (fun r_15 u_13 hp_14 => ?_)
          subst hp_14
          show V _ _ _ _ _ _ _ _ _ _ _ _ _ _ (0, 0) [(h, .inr (12, fsM q 0 0 0 0 0)), ((q 100), .inl (K 0, 2, .inl (gl [0, 0]))), ((q 101), .inl (K 0, 40, .inl (fun _ => 0))), ((q 102), .inl (K 0, 40, .inl (fun _ => 0))), ((q 103), .inl (K 0, 40, .inl (fun _ => 0)))] _ _ [.int 1]
          show V _ _ _ _ _ _ _ _ _ _ _ _ _ _ (0, 0) [(h, .inr (12, fsM q 0 0 0 0 0)), ((q 100), .inl (K 0, 2, .inl (gl [0, 0]))), ((q 101), .inl (K 0, 40, .inl (fun _ => 0))), ((q 102), .inl (K 0, 40, .inl (fun _ => 0))), ((q 103), .inl (K 0, 40, .inl (fun _ => 0)))] _ _ _
          refine v_if_eq B (tgt := 52) dX12_attribute_10 (by decide +kernel) (fun h => absurd h (by decide +kernel)) (fun _ => ?_)
          refine v_aload_n B dX12_attribute_13 rfl rfl ?_
          refine v_get B (C := RX12) (T := TX12) (N := 123) (ci := 12) (k0 := 0) hi_y_attribute_X12 rfl rfl 100 (by decide +kernel) (List.mem_of_getElem? (i := 6) rfl) rfl dX12_attribute_14 ?_
          refine v_iload_n B dX12_attribute_17 rfl rfl ?_
          refine v_iald B (k0 := 1) (t0 := 0) (v := 0) rfl rfl (vpi (by decide +kernel)) rfl dX12_attribute_18 ?_
          refine v_bipush B (v := 20) dX12_attribute_19 (by decide +kernel) ?_
          refine v_icmp_eq B (tgt := 52) dX12_attribute_21 (by decide +kernel) (fun h => absurd h (by decide +kernel)) (fun _ => ?_)
          refine v_iload_n B dX12_attribute_24 rfl rfl ?_
          refine v_ldcw B (v := 65536) (List.mem_of_getElem? (i := 7) rfl) dX12_attribute_25 ?_
          refine v_callSi B (n := 2) (As := [.int ty, .int 65536]) (rest := []) (wc := []) (wr := [(h, .inr (12, fsM q 0 0 0 0 0)), ((q 100), .inl (K 0, 2, .inl (gl [0, 0]))), ((q 101), .inl (K 0, 40, .inl (fun _ => 0))), ((q 102), .inl (K 0, 40, .inl (fun _ => 0))), ((q 103), .inl (K 0, 40, .inl (fun _ => 0)))]) (m_in_F1 l D K ty 65536 e_ty) gd_y_attribute_m_in_F1_413 rfl rfl rfl (by decide +kernel) ⟨by decide +kernel, by decide +kernel⟩ (sp_pl [] [0, 1, 2, 3, 4] rfl rfl rfl rfl rfl) rfl rfl (Nat.le_of_ble_eq_true rfl) dX12_attribute_28 ⟨by decide +kernel, by decide +kernel⟩ (fun r_18 u_16 hp_17 => ?_)
          subst hp_17
          show V _ _ _ _ _ _ _ _ _ _ _ _ _ _ (0, 0) [(h, .inr (12, fsM q 0 0 0 0 0)), ((q 100), .inl (K 0, 2, .inl (gl [0, 0]))), ((q 101), .inl (K 0, 40, .inl (fun _ => 0))), ((q 102), .inl (K 0, 40, .inl (fun _ => 0))), ((q 103), .inl (K 0, 40, .inl (fun _ => 0)))] _ _ [.int 0]
          show V _ _ _ _ _ _ _ _ _ _ _ _ _ _ (0, 0) [(h, .inr (12, fsM q 0 0 0 0 0)), ((q 100), .inl (K 0, 2, .inl (gl [0, 0]))), ((q 101), .inl (K 0, 40, .inl (fun _ => 0))), ((q 102), .inl (K 0, 40, .inl (fun _ => 0))), ((q 103), .inl (K 0, 40, .inl (fun _ => 0)))] _ _ _
          refine v_if_eq B (tgt := 52) dX12_attribute_31 (by decide +kernel) (fun _ => ?_) (fun h => absurd (by decide +kernel) h)
          refine v_iconst B (v := (-1)) dX12_attribute_52 (by decide +kernel) ?_
          refine v_forget (wc := []) (wr := []) (sp_pl [] [] rfl rfl rfl rfl rfl) ?_
          exact v_iret B hr hlk () (by simp [an_attribute, e_ty, e_rg, (rg_ngt (Int32.not_le.mp f_rg) (by decide +kernel) : ¬ 7 < rg)]) rfl (by decide +kernel) (by decide +kernel) dX12_attribute_53
    · skip
      by_cases f_ty : 65536 ≤ ty
      · skip
        by_cases e_rg : rg < 0
        · skip
          refine v_aload_n B dX12_attribute_0 rfl rfl ?_
          refine v_iconst B (v := 0) dX12_attribute_1 (by decide +kernel) ?_
          refine v_put B (C := RX12) (T := TX12) (N := 123) (ci := 12) (k0 := 0) hi_y_attribute_X12 rfl rfl 0 (by decide +kernel) tyX12 tyX12_ok nmX12 (List.mem_of_getElem? (i := 1) rfl) rfl (ty := .int) (tyX12_ok 0 (by decide +kernel)) rfl rfl (Nat.le_of_ble_eq_true rfl) (w' := [(h, .inr (12, fsM q 0 0 0 0 0)), ((q 100), .inl (K 0, 2, .inl (gl [0, 0]))), ((q 101), .inl (K 0, 40, .inl (fun _ => 0))), ((q 102), .inl (K 0, 40, .inl (fun _ => 0))), ((q 103), .inl (K 0, 40, .inl (fun _ => 0)))]) rfl dX12_attribute_2 ?_
          refine v_iload_n B dX12_attribute_5 rfl rfl ?_
          refine v_iconst B (v := 2) dX12_attribute_6 (by decide +kernel) ?_
          refine v_callSi B (n := 2) (As := [.int 0, .int 2]) (rest := []) (wc := []) (wr := [(h, .inr (12, fsM q 0 0 0 0 0)), ((q 100), .inl (K 0, 2, .inl (gl [0, 0]))), ((q 101), .inl (K 0, 40, .inl (fun _ => 0))), ((q 102), .inl (K 0, 40, .inl (fun _ => 0))), ((q 103), .inl (K 0, 40, .inl (fun _ => 0)))]) (m_in_T l D K 0 2 (by decide +kernel) (by decide +kernel)) gd_y_attribute_m_in_T_413 rfl rfl rfl (by decide +kernel) ⟨by decide +kernel, by decide +kernel⟩ (sp_pl [] [0, 1, 2, 3, 4] rfl rfl rfl rfl rfl) rfl rfl (Nat.le_of_ble_eq_true rfl) dX12_attribute_7 ⟨by decide +kernel, by decide +kernel⟩ (fun r_21 u_19 hp_20 => ?_)
          subst hp_20
          show V _ _ _ _ _ _ _ _ _ _ _ _ _ _ (0, 0) [(h, .inr (12, fsM q 0 0 0 0 0)), ((q 100), .inl (K 0, 2, .inl (gl [0, 0]))), ((q 101), .inl (K 0, 40, .inl (fun _ => 0))), ((q 102), .inl (K 0, 40, .inl (fun _ => 0))), ((q 103), .inl (K 0, 40, .inl (fun _ => 0)))] _ _ [.int 1]
          show V _ _ _ _ _ _ _ _ _ _ _ _ _ _ (0, 0) [(h, .inr (12, fsM q 0 0 0 0 0)), ((q 100), .inl (K 0, 2, .inl (gl [0, 0]))), ((q 101), .inl (K 0, 40, .inl (fun _ => 0))), ((q 102), .inl (K 0, 40, .inl (fun _ => 0))), ((q 103), .inl (K 0, 40, .inl (fun _ => 0)))] _ _ _
          refine v_if_eq B (tgt := 52) dX12_attribute_10 (by decide +kernel) (fun h => absurd h (by decide +kernel)) (fun _ => ?_)
          refine v_aload_n B dX12_attribute_13 rfl rfl ?_
          refine v_get B (C := RX12) (T := TX12) (N := 123) (ci := 12) (k0 := 0) hi_y_attribute_X12 rfl rfl 100 (by decide +kernel) (List.mem_of_getElem? (i := 6) rfl) rfl dX12_attribute_14 ?_
          refine v_iload_n B dX12_attribute_17 rfl rfl ?_
          refine v_iald B (k0 := 1) (t0 := 0) (v := 0) rfl rfl (vpi (by decide +kernel)) rfl dX12_attribute_18 ?_
          refine v_bipush B (v := 20) dX12_attribute_19 (by decide +kernel) ?_
          refine v_icmp_eq B (tgt := 52) dX12_attribute_21 (by decide +kernel) (fun h => absurd h (by decide +kernel)) (fun _ => ?_)
          refine v_iload_n B dX12_attribute_24 rfl rfl ?_
          refine v_ldcw B (v := 65536) (List.mem_of_getElem? (i := 7) rfl) dX12_attribute_25 ?_
          refine v_callSi B (n := 2) (As := [.int ty, .int 65536]) (rest := []) (wc := []) (wr := [(h, .inr (12, fsM q 0 0 0 0 0)), ((q 100), .inl (K 0, 2, .inl (gl [0, 0]))), ((q 101), .inl (K 0, 40, .inl (fun _ => 0))), ((q 102), .inl (K 0, 40, .inl (fun _ => 0))), ((q 103), .inl (K 0, 40, .inl (fun _ => 0)))]) (m_in_F2 l D K ty 65536 (rg_nlt f_ty (by decide +kernel)) (rg_ge f_ty (by decide +kernel))) gd_y_attribute_m_in_F2_413 rfl rfl rfl (by decide +kernel) ⟨by decide +kernel, by decide +kernel⟩ (sp_pl [] [0, 1, 2, 3, 4] rfl rfl rfl rfl rfl) rfl rfl (Nat.le_of_ble_eq_true rfl) dX12_attribute_28 ⟨by decide +kernel, by decide +kernel⟩ (fun r_24 u_22 hp_23 => ?_)
          subst hp_23
          show V _ _ _ _ _ _ _ _ _ _ _ _ _ _ (0, 0) [(h, .inr (12, fsM q 0 0 0 0 0)), ((q 100), .inl (K 0, 2, .inl (gl [0, 0]))), ((q 101), .inl (K 0, 40, .inl (fun _ => 0))), ((q 102), .inl (K 0, 40, .inl (fun _ => 0))), ((q 103), .inl (K 0, 40, .inl (fun _ => 0)))] _ _ [.int 0]
          show V _ _ _ _ _ _ _ _ _ _ _ _ _ _ (0, 0) [(h, .inr (12, fsM q 0 0 0 0 0)), ((q 100), .inl (K 0, 2, .inl (gl [0, 0]))), ((q 101), .inl (K 0, 40, .inl (fun _ => 0))), ((q 102), .inl (K 0, 40, .inl (fun _ => 0))), ((q 103), .inl (K 0, 40, .inl (fun _ => 0)))] _ _ _
          refine v_if_eq B (tgt := 52) dX12_attribute_31 (by decide +kernel) (fun _ => ?_) (fun h => absurd (by decide +kernel) h)
          refine v_iconst B (v := (-1)) dX12_attribute_52 (by decide +kernel) ?_
          refine v_forget (wc := []) (wr := []) (sp_pl [] [] rfl rfl rfl rfl rfl) ?_
          exact v_iret B hr hlk () (by simp [an_attribute, e_ty, (rg_gt f_ty (by decide +kernel) : 65535 < ty), e_rg]) rfl (by decide +kernel) (by decide +kernel) dX12_attribute_53
        · skip
          by_cases f_rg : 8 ≤ rg
          · skip
            refine v_aload_n B dX12_attribute_0 rfl rfl ?_
            refine v_iconst B (v := 0) dX12_attribute_1 (by decide +kernel) ?_
            refine v_put B (C := RX12) (T := TX12) (N := 123) (ci := 12) (k0 := 0) hi_y_attribute_X12 rfl rfl 0 (by decide +kernel) tyX12 tyX12_ok nmX12 (List.mem_of_getElem? (i := 1) rfl) rfl (ty := .int) (tyX12_ok 0 (by decide +kernel)) rfl rfl (Nat.le_of_ble_eq_true rfl) (w' := [(h, .inr (12, fsM q 0 0 0 0 0)), ((q 100), .inl (K 0, 2, .inl (gl [0, 0]))), ((q 101), .inl (K 0, 40, .inl (fun _ => 0))), ((q 102), .inl (K 0, 40, .inl (fun _ => 0))), ((q 103), .inl (K 0, 40, .inl (fun _ => 0)))]) rfl dX12_attribute_2 ?_
            refine v_iload_n B dX12_attribute_5 rfl rfl ?_
            refine v_iconst B (v := 2) dX12_attribute_6 (by decide +kernel) ?_
            refine v_callSi B (n := 2) (As := [.int 0, .int 2]) (rest := []) (wc := []) (wr := [(h, .inr (12, fsM q 0 0 0 0 0)), ((q 100), .inl (K 0, 2, .inl (gl [0, 0]))), ((q 101), .inl (K 0, 40, .inl (fun _ => 0))), ((q 102), .inl (K 0, 40, .inl (fun _ => 0))), ((q 103), .inl (K 0, 40, .inl (fun _ => 0)))]) (m_in_T l D K 0 2 (by decide +kernel) (by decide +kernel)) gd_y_attribute_m_in_T_413 rfl rfl rfl (by decide +kernel) ⟨by decide +kernel, by decide +kernel⟩ (sp_pl [] [0, 1, 2, 3, 4] rfl rfl rfl rfl rfl) rfl rfl (Nat.le_of_ble_eq_true rfl) dX12_attribute_7 ⟨by decide +kernel, by decide +kernel⟩ (fun r_27 u_25 hp_26 => ?_)
            subst hp_26
            show V _ _ _ _ _ _ _ _ _ _ _ _ _ _ (0, 0) [(h, .inr (12, fsM q 0 0 0 0 0)), ((q 100), .inl (K 0, 2, .inl (gl [0, 0]))), ((q 101), .inl (K 0, 40, .inl (fun _ => 0))), ((q 102), .inl (K 0, 40, .inl (fun _ => 0))), ((q 103), .inl (K 0, 40, .inl (fun _ => 0)))] _ _ [.int 1]
            show V _ _ _ _ _ _ _ _ _ _ _ _ _ _ (0, 0) [(h, .inr (12, fsM q 0 0 0 0 0)), ((q 100), .inl (K 0, 2, .inl (gl [0, 0]))), ((q 101), .inl (K 0, 40, .inl (fun _ => 0))), ((q 102), .inl (K 0, 40, .inl (fun _ => 0))), ((q 103), .inl (K 0, 40, .inl (fun _ => 0)))] _ _ _
            refine v_if_eq B (tgt := 52) dX12_attribute_10 (by decide +kernel) (fun h => absurd h (by decide +kernel)) (fun _ => ?_)
            refine v_aload_n B dX12_attribute_13 rfl rfl ?_
            refine v_get B (C := RX12) (T := TX12) (N := 123) (ci := 12) (k0 := 0) hi_y_attribute_X12 rfl rfl 100 (by decide +kernel) (List.mem_of_getElem? (i := 6) rfl) rfl dX12_attribute_14 ?_
            refine v_iload_n B dX12_attribute_17 rfl rfl ?_
            refine v_iald B (k0 := 1) (t0 := 0) (v := 0) rfl rfl (vpi (by decide +kernel)) rfl dX12_attribute_18 ?_
            refine v_bipush B (v := 20) dX12_attribute_19 (by decide +kernel) ?_
            refine v_icmp_eq B (tgt := 52) dX12_attribute_21 (by decide +kernel) (fun h => absurd h (by decide +kernel)) (fun _ => ?_)
            refine v_iload_n B dX12_attribute_24 rfl rfl ?_
            refine v_ldcw B (v := 65536) (List.mem_of_getElem? (i := 7) rfl) dX12_attribute_25 ?_
            refine v_callSi B (n := 2) (As := [.int ty, .int 65536]) (rest := []) (wc := []) (wr := [(h, .inr (12, fsM q 0 0 0 0 0)), ((q 100), .inl (K 0, 2, .inl (gl [0, 0]))), ((q 101), .inl (K 0, 40, .inl (fun _ => 0))), ((q 102), .inl (K 0, 40, .inl (fun _ => 0))), ((q 103), .inl (K 0, 40, .inl (fun _ => 0)))]) (m_in_F2 l D K ty 65536 (rg_nlt f_ty (by decide +kernel)) (rg_ge f_ty (by decide +kernel))) gd_y_attribute_m_in_F2_413 rfl rfl rfl (by decide +kernel) ⟨by decide +kernel, by decide +kernel⟩ (sp_pl [] [0, 1, 2, 3, 4] rfl rfl rfl rfl rfl) rfl rfl (Nat.le_of_ble_eq_true rfl) dX12_attribute_28 ⟨by decide +kernel, by decide +kernel⟩ (fun r_30 u_28 hp_29 => ?_)
            subst hp_29
            show V _ _ _ _ _ _ _ _ _ _ _ _ _ _ (0, 0) [(h, .inr (12, fsM q 0 0 0 0 0)), ((q 100), .inl (K 0, 2, .inl (gl [0, 0]))), ((q 101), .inl (K 0, 40, .inl (fun _ => 0))), ((q 102), .inl (K 0, 40, .inl (fun _ => 0))), ((q 103), .inl (K 0, 40, .inl (fun _ => 0)))] _ _ [.int 0]
            show V _ _ _ _ _ _ _ _ _ _ _ _ _ _ (0, 0) [(h, .inr (12, fsM q 0 0 0 0 0)), ((q 100), .inl (K 0, 2, .inl (gl [0, 0]))), ((q 101), .inl (K 0, 40, .inl (fun _ => 0))), ((q 102), .inl (K 0, 40, .inl (fun _ => 0))), ((q 103), .inl (K 0, 40, .inl (fun _ => 0)))] _ _ _
            refine v_if_eq B (tgt := 52) dX12_attribute_31 (by decide +kernel) (fun _ => ?_) (fun h => absurd (by decide +kernel) h)
            refine v_iconst B (v := (-1)) dX12_attribute_52 (by decide +kernel) ?_
            refine v_forget (wc := []) (wr := []) (sp_pl [] [] rfl rfl rfl rfl rfl) ?_
            exact v_iret B hr hlk () (by simp [an_attribute, e_ty, (rg_gt f_ty (by decide +kernel) : 65535 < ty), e_rg, (rg_gt f_rg (by decide +kernel) : 7 < rg)]) rfl (by decide +kernel) (by decide +kernel) dX12_attribute_53
          · skip
            refine v_aload_n B dX12_attribute_0 rfl rfl ?_
            refine v_iconst B (v := 0) dX12_attribute_1 (by decide +kernel) ?_
            refine v_put B (C := RX12) (T := TX12) (N := 123) (ci := 12) (k0 := 0) hi_y_attribute_X12 rfl rfl 0 (by decide +kernel) tyX12 tyX12_ok nmX12 (List.mem_of_getElem? (i := 1) rfl) rfl (ty := .int) (tyX12_ok 0 (by decide +kernel)) rfl rfl (Nat.le_of_ble_eq_true rfl) (w' := [(h, .inr (12, fsM q 0 0 0 0 0)), ((q 100), .inl (K 0, 2, .inl (gl [0, 0]))), ((q 101), .inl (K 0, 40, .inl (fun _ => 0))), ((q 102), .inl (K 0, 40, .inl (fun _ => 0))), ((q 103), .inl (K 0, 40, .inl (fun _ => 0)))]) rfl dX12_attribute_2 ?_
            refine v_iload_n B dX12_attribute_5 rfl rfl ?_
            refine v_iconst B (v := 2) dX12_attribute_6 (by decide +kernel) ?_
            refine v_callSi B (n := 2) (As := [.int 0, .int 2]) (rest := []) (wc := []) (wr := [(h, .inr (12, fsM q 0 0 0 0 0)), ((q 100), .inl (K 0, 2, .inl (gl [0, 0]))), ((q 101), .inl (K 0, 40, .inl (fun _ => 0))), ((q 102), .inl (K 0, 40, .inl (fun _ => 0))), ((q 103), .inl (K 0, 40, .inl (fun _ => 0)))]) (m_in_T l D K 0 2 (by decide +kernel) (by decide +kernel)) gd_y_attribute_m_in_T_413 rfl rfl rfl (by decide +kernel) ⟨by decide +kernel, by decide +kernel⟩ (sp_pl [] [0, 1, 2, 3, 4] rfl rfl rfl rfl rfl) rfl rfl (Nat.le_of_ble_eq_true rfl) dX12_attribute_7 ⟨by decide +kernel, by decide +kernel⟩ (fun r_33 u_31 hp_32 => ?_)
            subst hp_32
            show V _ _ _ _ _ _ _ _ _ _ _ _ _ _ (0, 0) [(h, .inr (12, fsM q 0 0 0 0 0)), ((q 100), .inl (K 0, 2, .inl (gl [0, 0]))), ((q 101), .inl (K 0, 40, .inl (fun _ => 0))), ((q 102), .inl (K 0, 40, .inl (fun _ => 0))), ((q 103), .inl (K 0, 40, .inl (fun _ => 0)))] _ _ [.int 1]
            show V _ _ _ _ _ _ _ _ _ _ _ _ _ _ (0, 0) [(h, .inr (12, fsM q 0 0 0 0 0)), ((q 100), .inl (K 0, 2, .inl (gl [0, 0]))), ((q 101), .inl (K 0, 40, .inl (fun _ => 0))), ((q 102), .inl (K 0, 40, .inl (fun _ => 0))), ((q 103), .inl (K 0, 40, .inl (fun _ => 0)))] _ _ _
            refine v_if_eq B (tgt := 52) dX12_attribute_10 (by decide +kernel) (fun h => absurd h (by decide +kernel)) (fun _ => ?_)
            refine v_aload_n B dX12_attribute_13 rfl rfl ?_
            refine v_get B (C := RX12) (T := TX12) (N := 123) (ci := 12) (k0 := 0) hi_y_attribute_X12 rfl rfl 100 (by decide +kernel) (List.mem_of_getElem? (i := 6) rfl) rfl dX12_attribute_14 ?_
            refine v_iload_n B dX12_attribute_17 rfl rfl ?_
            refine v_iald B (k0 := 1) (t0 := 0) (v := 0) rfl rfl (vpi (by decide +kernel)) rfl dX12_attribute_18 ?_
            refine v_bipush B (v := 20) dX12_attribute_19 (by decide +kernel) ?_
            refine v_icmp_eq B (tgt := 52) dX12_attribute_21 (by decide +kernel) (fun h => absurd h (by decide +kernel)) (fun _ => ?_)
            refine v_iload_n B dX12_attribute_24 rfl rfl ?_
            refine v_ldcw B (v := 65536) (List.mem_of_getElem? (i := 7) rfl) dX12_attribute_25 ?_
            refine v_callSi B (n := 2) (As := [.int ty, .int 65536]) (rest := []) (wc := []) (wr := [(h, .inr (12, fsM q 0 0 0 0 0)), ((q 100), .inl (K 0, 2, .inl (gl [0, 0]))), ((q 101), .inl (K 0, 40, .inl (fun _ => 0))), ((q 102), .inl (K 0, 40, .inl (fun _ => 0))), ((q 103), .inl (K 0, 40, .inl (fun _ => 0)))]) (m_in_F2 l D K ty 65536 (rg_nlt f_ty (by decide +kernel)) (rg_ge f_ty (by decide +kernel))) gd_y_attribute_m_in_F2_413 rfl rfl rfl (by decide +kernel) ⟨by decide +kernel, by decide +kernel⟩ (sp_pl [] [0, 1, 2, 3, 4] rfl rfl rfl rfl rfl) rfl rfl (Nat.le_of_ble_eq_true rfl) dX12_attribute_28 ⟨by decide +kernel, by decide +kernel⟩ (fun r_36 u_34 hp_35 => ?_)
            subst hp_35
            show V _ _ _ _ _ _ _ _ _ _ _ _ _ _ (0, 0) [(h, .inr (12, fsM q 0 0 0 0 0)), ((q 100), .inl (K 0, 2, .inl (gl [0, 0]))), ((q 101), .inl (K 0, 40, .inl (fun _ => 0))), ((q 102), .inl (K 0, 40, .inl (fun _ => 0))), ((q 103), .inl (K 0, 40, .inl (fun _ => 0)))] _ _ [.int 0]
            show V _ _ _ _ _ _ _ _ _ _ _ _ _ _ (0, 0) [(h, .inr (12, fsM q 0 0 0 0 0)), ((q 100), .inl (K 0, 2, .inl (gl [0, 0]))), ((q 101), .inl (K 0, 40, .inl (fun _ => 0))), ((q 102), .inl (K 0, 40, .inl (fun _ => 0))), ((q 103), .inl (K 0, 40, .inl (fun _ => 0)))] _ _ _
            refine v_if_eq B (tgt := 52) dX12_attribute_31 (by decide +kernel) (fun _ => ?_) (fun h => absurd (by decide +kernel) h)
            refine v_iconst B (v := (-1)) dX12_attribute_52 (by decide +kernel) ?_
            refine v_forget (wc := []) (wr := []) (sp_pl [] [] rfl rfl rfl rfl rfl) ?_
            exact v_iret B hr hlk () (by simp [an_attribute, e_ty, (rg_gt f_ty (by decide +kernel) : 65535 < ty), e_rg, (rg_ngt (Int32.not_le.mp f_rg) (by decide +kernel) : ¬ 7 < rg)]) rfl (by decide +kernel) (by decide +kernel) dX12_attribute_53
      · skip
        by_cases e_rg : rg < 0
        · skip
          refine v_aload_n B dX12_attribute_0 rfl rfl ?_
          refine v_iconst B (v := 0) dX12_attribute_1 (by decide +kernel) ?_
          refine v_put B (C := RX12) (T := TX12) (N := 123) (ci := 12) (k0 := 0) hi_y_attribute_X12 rfl rfl 0 (by decide +kernel) tyX12 tyX12_ok nmX12 (List.mem_of_getElem? (i := 1) rfl) rfl (ty := .int) (tyX12_ok 0 (by decide +kernel)) rfl rfl (Nat.le_of_ble_eq_true rfl) (w' := [(h, .inr (12, fsM q 0 0 0 0 0)), ((q 100), .inl (K 0, 2, .inl (gl [0, 0]))), ((q 101), .inl (K 0, 40, .inl (fun _ => 0))), ((q 102), .inl (K 0, 40, .inl (fun _ => 0))), ((q 103), .inl (K 0, 40, .inl (fun _ => 0)))]) rfl dX12_attribute_2 ?_
          refine v_iload_n B dX12_attribute_5 rfl rfl ?_
          refine v_iconst B (v := 2) dX12_attribute_6 (by decide +kernel) ?_
          refine v_callSi B (n := 2) (As := [.int 0, .int 2]) (rest := []) (wc := []) (wr := [(h, .inr (12, fsM q 0 0 0 0 0)), ((q 100), .inl (K 0, 2, .inl (gl [0, 0]))), ((q 101), .inl (K 0, 40, .inl (fun _ => 0))), ((q 102), .inl (K 0, 40, .inl (fun _ => 0))), ((q 103), .inl (K 0, 40, .inl (fun _ => 0)))]) (m_in_T l D K 0 2 (by decide +kernel) (by decide +kernel)) gd_y_attribute_m_in_T_413 rfl rfl rfl (by decide +kernel) ⟨by decide +kernel, by decide +kernel⟩ (sp_pl [] [0, 1, 2, 3, 4] rfl rfl rfl rfl rfl) rfl rfl (Nat.le_of_ble_eq_true rfl) dX12_attribute_7 ⟨by decide +kernel, by decide +kernel⟩ (fun r_39 u_37 hp_38 => ?_)
          subst hp_38
          show V _ _ _ _ _ _ _ _ _ _ _ _ _ _ (0, 0) [(h, .inr (12, fsM q 0 0 0 0 0)), ((q 100), .inl (K 0, 2, .inl (gl [0, 0]))), ((q 101), .inl (K 0, 40, .inl (fun _ => 0))), ((q 102), .inl (K 0, 40, .inl (fun _ => 0))), ((q 103), .inl (K 0, 40, .inl (fun _ => 0)))] _ _ [.int 1]
          show V _ _ _ _ _ _ _ _ _ _ _ _ _ _ (0, 0) [(h, .inr (12, fsM q 0 0 0 0 0)), ((q 100), .inl (K 0, 2, .inl (gl [0, 0]))), ((q 101), .inl (K 0, 40, .inl (fun _ => 0))), ((q 102), .inl (K 0, 40, .inl (fun _ => 0))), ((q 103), .inl (K 0, 40, .inl (fun _ => 0)))] _ _ _
          refine v_if_eq B (tgt := 52) dX12_attribute_10 (by decide +kernel) (fun h => absurd h (by decide +kernel)) (fun _ => ?_)
          refine v_aload_n B dX12_attribute_13 rfl rfl ?_
          refine v_get B (C := RX12) (T := TX12) (N := 123) (ci := 12) (k0 := 0) hi_y_attribute_X12 rfl rfl 100 (by decide +kernel) (List.mem_of_getElem? (i := 6) rfl) rfl dX12_attribute_14 ?_
          refine v_iload_n B dX12_attribute_17 rfl rfl ?_
          refine v_iald B (k0 := 1) (t0 := 0) (v := 0) rfl rfl (vpi (by decide +kernel)) rfl dX12_attribute_18 ?_
          refine v_bipush B (v := 20) dX12_attribute_19 (by decide +kernel) ?_
          refine v_icmp_eq B (tgt := 52) dX12_attribute_21 (by decide +kernel) (fun h => absurd h (by decide +kernel)) (fun _ => ?_)
          refine v_iload_n B dX12_attribute_24 rfl rfl ?_
          refine v_ldcw B (v := 65536) (List.mem_of_getElem? (i := 7) rfl) dX12_attribute_25 ?_
          refine v_callSi B (n := 2) (As := [.int ty, .int 65536]) (rest := []) (wc := []) (wr := [(h, .inr (12, fsM q 0 0 0 0 0)), ((q 100), .inl (K 0, 2, .inl (gl [0, 0]))), ((q 101), .inl (K 0, 40, .inl (fun _ => 0))), ((q 102), .inl (K 0, 40, .inl (fun _ => 0))), ((q 103), .inl (K 0, 40, .inl (fun _ => 0)))]) (m_in_T l D K ty 65536 e_ty f_ty) gd_y_attribute_m_in_T_413 rfl rfl rfl (by decide +kernel) ⟨by decide +kernel, by decide +kernel⟩ (sp_pl [] [0, 1, 2, 3, 4] rfl rfl rfl rfl rfl) rfl rfl (Nat.le_of_ble_eq_true rfl) dX12_attribute_28 ⟨by decide +kernel, by decide +kernel⟩ (fun r_42 u_40 hp_41 => ?_)
          subst hp_41
          show V _ _ _ _ _ _ _ _ _ _ _ _ _ _ (0, 0) [(h, .inr (12, fsM q 0 0 0 0 0)), ((q 100), .inl (K 0, 2, .inl (gl [0, 0]))), ((q 101), .inl (K 0, 40, .inl (fun _ => 0))), ((q 102), .inl (K 0, 40, .inl (fun _ => 0))), ((q 103), .inl (K 0, 40, .inl (fun _ => 0)))] _ _ [.int 1]
          show V _ _ _ _ _ _ _ _ _ _ _ _ _ _ (0, 0) [(h, .inr (12, fsM q 0 0 0 0 0)), ((q 100), .inl (K 0, 2, .inl (gl [0, 0]))), ((q 101), .inl (K 0, 40, .inl (fun _ => 0))), ((q 102), .inl (K 0, 40, .inl (fun _ => 0))), ((q 103), .inl (K 0, 40, .inl (fun _ => 0)))] _ _ _
          refine v_if_eq B (tgt := 52) dX12_attribute_31 (by decide +kernel) (fun h => absurd h (by decide +kernel)) (fun _ => ?_)
          refine v_iload_n B dX12_attribute_34 rfl rfl ?_
          refine v_bipush B (v := 8) dX12_attribute_35 (by decide +kernel) ?_
          refine v_callSi B (n := 2) (As := [.int rg, .int 8]) (rest := []) (wc := []) (wr := [(h, .inr (12, fsM q 0 0 0 0 0)), ((q 100), .inl (K 0, 2, .inl (gl [0, 0]))), ((q 101), .inl (K 0, 40, .inl (fun _ => 0))), ((q 102), .inl (K 0, 40, .inl (fun _ => 0))), ((q 103), .inl (K 0, 40, .inl (fun _ => 0)))]) (m_in_F1 l D K rg 8 e_rg) gd_y_attribute_m_in_F1_413 rfl rfl rfl (by decide +kernel) ⟨by decide +kernel, by decide +kernel⟩ (sp_pl [] [0, 1, 2, 3, 4] rfl rfl rfl rfl rfl) rfl rfl (Nat.le_of_ble_eq_true rfl) dX12_attribute_37 ⟨by decide +kernel, by decide +kernel⟩ (fun r_45 u_43 hp_44 => ?_)
          subst hp_44
          show V _ _ _ _ _ _ _ _ _ _ _ _ _ _ (0, 0) [(h, .inr (12, fsM q 0 0 0 0 0)), ((q 100), .inl (K 0, 2, .inl (gl [0, 0]))), ((q 101), .inl (K 0, 40, .inl (fun _ => 0))), ((q 102), .inl (K 0, 40, .inl (fun _ => 0))), ((q 103), .inl (K 0, 40, .inl (fun _ => 0)))] _ _ [.int 0]
          show V _ _ _ _ _ _ _ _ _ _ _ _ _ _ (0, 0) [(h, .inr (12, fsM q 0 0 0 0 0)), ((q 100), .inl (K 0, 2, .inl (gl [0, 0]))), ((q 101), .inl (K 0, 40, .inl (fun _ => 0))), ((q 102), .inl (K 0, 40, .inl (fun _ => 0))), ((q 103), .inl (K 0, 40, .inl (fun _ => 0)))] _ _ _
          refine v_if_eq B (tgt := 52) dX12_attribute_40 (by decide +kernel) (fun _ => ?_) (fun h => absurd (by decide +kernel) h)
          refine v_iconst B (v := (-1)) dX12_attribute_52 (by decide +kernel) ?_
          refine v_forget (wc := []) (wr := []) (sp_pl [] [] rfl rfl rfl rfl rfl) ?_
          exact v_iret B hr hlk () (by simp [an_attribute, e_ty, (rg_ngt (Int32.not_le.mp f_ty) (by decide +kernel) : ¬ 65535 < ty), e_rg]) rfl (by decide +kernel) (by decide +kernel) dX12_attribute_53
        · skip
          by_cases f_rg : 8 ≤ rg
          · skip
            refine v_aload_n B dX12_attribute_0 rfl rfl ?_
            refine v_iconst B (v := 0) dX12_attribute_1 (by decide +kernel) ?_
            refine v_put B (C := RX12) (T := TX12) (N := 123) (ci := 12) (k0 := 0) hi_y_attribute_X12 rfl rfl 0 (by decide +kernel) tyX12 tyX12_ok nmX12 (List.mem_of_getElem? (i := 1) rfl) rfl (ty := .int) (tyX12_ok 0 (by decide +kernel)) rfl rfl (Nat.le_of_ble_eq_true rfl) (w' := [(h, .inr (12, fsM q 0 0 0 0 0)), ((q 100), .inl (K 0, 2, .inl (gl [0, 0]))), ((q 101), .inl (K 0, 40, .inl (fun _ => 0))), ((q 102), .inl (K 0, 40, .inl (fun _ => 0))), ((q 103), .inl (K 0, 40, .inl (fun _ => 0)))]) rfl dX12_attribute_2 ?_
            refine v_iload_n B dX12_attribute_5 rfl rfl ?_
            refine v_iconst B (v := 2) dX12_attribute_6 (by decide +kernel) ?_
            refine v_callSi B (n := 2) (As := [.int 0, .int 2]) (rest := []) (wc := []) (wr := [(h, .inr (12, fsM q 0 0 0 0 0)), ((q 100), .inl (K 0, 2, .inl (gl [0, 0]))), ((q 101), .inl (K 0, 40, .inl (fun _ => 0))), ((q 102), .inl (K 0, 40, .inl (fun _ => 0))), ((q 103), .inl (K 0, 40, .inl (fun _ => 0)))]) (m_in_T l D K 0 2 (by decide +kernel) (by decide +kernel)) gd_y_attribute_m_in_T_413 rfl rfl rfl (by decide +kernel) ⟨by decide +kernel, by decide +kernel⟩ (sp_pl [] [0, 1, 2, 3, 4] rfl rfl rfl rfl rfl) rfl rfl (Nat.le_of_ble_eq_true rfl) dX12_attribute_7 ⟨by decide +kernel, by decide +kernel⟩ (fun r_48 u_46 hp_47 => ?_)
            subst hp_47
            show V _ _ _ _ _ _ _ _ _ _ _ _ _ _ (0, 0) [(h, .inr (12, fsM q 0 0 0 0 0)), ((q 100), .inl (K 0, 2, .inl (gl [0, 0]))), ((q 101), .inl (K 0, 40, .inl (fun _ => 0))), ((q 102), .inl (K 0, 40, .inl (fun _ => 0))), ((q 103), .inl (K 0, 40, .inl (fun _ => 0)))] _ _ [.int 1]
            show V _ _ _ _ _ _ _ _ _ _ _ _ _ _ (0, 0) [(h, .inr (12, fsM q 0 0 0 0 0)), ((q 100), .inl (K 0, 2, .inl (gl [0, 0]))), ((q 101), .inl (K 0, 40, .inl (fun _ => 0))), ((q 102), .inl (K 0, 40, .inl (fun _ => 0))), ((q 103), .inl (K 0, 40, .inl (fun _ => 0)))] _ _ _
            refine v_if_eq B (tgt := 52) dX12_attribute_10 (by decide +kernel) (fun h => absurd h (by decide +kernel)) (fun _ => ?_)
            refine v_aload_n B dX12_attribute_13 rfl rfl ?_
            refine v_get B (C := RX12) (T := TX12) (N := 123) (ci := 12) (k0 := 0) hi_y_attribute_X12 rfl rfl 100 (by decide +kernel) (List.mem_of_getElem? (i := 6) rfl) rfl dX12_attribute_14 ?_
            refine v_iload_n B dX12_attribute_17 rfl rfl ?_
            refine v_iald B (k0 := 1) (t0 := 0) (v := 0) rfl rfl (vpi (by decide +kernel)) rfl dX12_attribute_18 ?_
            refine v_bipush B (v := 20) dX12_attribute_19 (by decide +kernel) ?_
            refine v_icmp_eq B (tgt := 52) dX12_attribute_21 (by decide +kernel) (fun h => absurd h (by decide +kernel)) (fun _ => ?_)
            refine v_iload_n B dX12_attribute_24 rfl rfl ?_
            refine v_ldcw B (v := 65536) (List.mem_of_getElem? (i := 7) rfl) dX12_attribute_25 ?_
            refine v_callSi B (n := 2) (As := [.int ty, .int 65536]) (rest := []) (wc := []) (wr := [(h, .inr (12, fsM q 0 0 0 0 0)), ((q 100), .inl (K 0, 2, .inl (gl [0, 0]))), ((q 101), .inl (K 0, 40, .inl (fun _ => 0))), ((q 102), .inl (K 0, 40, .inl (fun _ => 0))), ((q 103), .inl (K 0, 40, .inl (fun _ => 0)))]) (m_in_T l D K ty 65536 e_ty f_ty) gd_y_attribute_m_in_T_413 rfl rfl rfl (by decide +kernel) ⟨by decide +kernel, by decide +kernel⟩ (sp_pl [] [0, 1, 2, 3, 4] rfl rfl rfl rfl rfl) rfl rfl (Nat.le_of_ble_eq_true rfl) dX12_attribute_28 ⟨by decide +kernel, by decide +kernel⟩ (fun r_51 u_49 hp_50 => ?_)
            subst hp_50
            show V _ _ _ _ _ _ _ _ _ _ _ _ _ _ (0, 0) [(h, .inr (12, fsM q 0 0 0 0 0)), ((q 100), .inl (K 0, 2, .inl (gl [0, 0]))), ((q 101), .inl (K 0, 40, .inl (fun _ => 0))), ((q 102), .inl (K 0, 40, .inl (fun _ => 0))), ((q 103), .inl (K 0, 40, .inl (fun _ => 0)))] _ _ [.int 1]
            show V _ _ _ _ _ _ _ _ _ _ _ _ _ _ (0, 0) [(h, .inr (12, fsM q 0 0 0 0 0)), ((q 100), .inl (K 0, 2, .inl (gl [0, 0]))), ((q 101), .inl (K 0, 40, .inl (fun _ => 0))), ((q 102), .inl (K 0, 40, .inl (fun _ => 0))), ((q 103), .inl (K 0, 40, .inl (fun _ => 0)))] _ _ _
            refine v_if_eq B (tgt := 52) dX12_attribute_31 (by decide +kernel) (fun h => absurd h (by decide +kernel)) (fun _ => ?_)
            refine v_iload_n B dX12_attribute_34 rfl rfl ?_
            refine v_bipush B (v := 8) dX12_attribute_35 (by decide +kernel) ?_
            refine v_callSi B (n := 2) (As := [.int rg, .int 8]) (rest := []) (wc := []) (wr := [(h, .inr (12, fsM q 0 0 0 0 0)), ((q 100), .inl (K 0, 2, .inl (gl [0, 0]))), ((q 101), .inl (K 0, 40, .inl (fun _ => 0))), ((q 102), .inl (K 0, 40, .inl (fun _ => 0))), ((q 103), .inl (K 0, 40, .inl (fun _ => 0)))]) (m_in_F2 l D K rg 8 (rg_nlt f_rg (by decide +kernel)) (rg_ge f_rg (by decide +kernel))) gd_y_attribute_m_in_F2_413 rfl rfl rfl (by decide +kernel) ⟨by decide +kernel, by decide +kernel⟩ (sp_pl [] [0, 1, 2, 3, 4] rfl rfl rfl rfl rfl) rfl rfl (Nat.le_of_ble_eq_true rfl) dX12_attribute_37 ⟨by decide +kernel, by decide +kernel⟩ (fun r_54 u_52 hp_53 => ?_)
            subst hp_53
            show V _ _ _ _ _ _ _ _ _ _ _ _ _ _ (0, 0) [(h, .inr (12, fsM q 0 0 0 0 0)), ((q 100), .inl (K 0, 2, .inl (gl [0, 0]))), ((q 101), .inl (K 0, 40, .inl (fun _ => 0))), ((q 102), .inl (K 0, 40, .inl (fun _ => 0))), ((q 103), .inl (K 0, 40, .inl (fun _ => 0)))] _ _ [.int 0]
            show V _ _ _ _ _ _ _ _ _ _ _ _ _ _ (0, 0) [(h, .inr (12, fsM q 0 0 0 0 0)), ((q 100), .inl (K 0, 2, .inl (gl [0, 0]))), ((q 101), .inl (K 0, 40, .inl (fun _ => 0))), ((q 102), .inl (K 0, 40, .inl (fun _ => 0))), ((q 103), .inl (K 0, 40, .inl (fun _ => 0)))] _ _ _
            refine v_if_eq B (tgt := 52) dX12_attribute_40 (by decide +kernel) (fun _ => ?_) (fun h => absurd (by decide +kernel) h)
            refine v_iconst B (v := (-1)) dX12_attribute_52 (by decide +kernel) ?_
            refine v_forget (wc := []) (wr := []) (sp_pl [] [] rfl rfl rfl rfl rfl) ?_
            exact v_iret B hr hlk () (by simp [an_attribute, e_ty, (rg_ngt (Int32.not_le.mp f_ty) (by decide +kernel) : ¬ 65535 < ty), e_rg, (rg_gt f_rg (by decide +kernel) : 7 < rg)]) rfl (by decide +kernel) (by decide +kernel) dX12_attribute_53
          · skip
            refine v_aload_n B dX12_attribute_0 rfl rfl ?_
            refine v_iconst B (v := 0) dX12_attribute_1 (by decide +kernel) ?_
            refine v_put B (C := RX12) (T := TX12) (N := 123) (ci := 12) (k0 := 0) hi_y_attribute_X12 rfl rfl 0 (by decide +kernel) tyX12 tyX12_ok nmX12 (List.mem_of_getElem? (i := 1) rfl) rfl (ty := .int) (tyX12_ok 0 (by decide +kernel)) rfl rfl (Nat.le_of_ble_eq_true rfl) (w' := [(h, .inr (12, fsM q 0 0 0 0 0)), ((q 100), .inl (K 0, 2, .inl (gl [0, 0]))), ((q 101), .inl (K 0, 40, .inl (fun _ => 0))), ((q 102), .inl (K 0, 40, .inl (fun _ => 0))), ((q 103), .inl (K 0, 40, .inl (fun _ => 0)))]) rfl dX12_attribute_2 ?_
            refine v_iload_n B dX12_attribute_5 rfl rfl ?_
            refine v_iconst B (v := 2) dX12_attribute_6 (by decide +kernel) ?_
            refine v_callSi B (n := 2) (As := [.int 0, .int 2]) (rest := []) (wc := []) (wr := [(h, .inr (12, fsM q 0 0 0 0 0)), ((q 100), .inl (K 0, 2, .inl (gl [0, 0]))), ((q 101), .inl (K 0, 40, .inl (fun _ => 0))), ((q 102), .inl (K 0, 40, .inl (fun _ => 0))), ((q 103), .inl (K 0, 40, .inl (fun _ => 0)))]) (m_in_T l D K 0 2 (by decide +kernel) (by decide +kernel)) gd_y_attribute_m_in_T_413 rfl rfl rfl (by decide +kernel) ⟨by decide +kernel, by decide +kernel⟩ (sp_pl [] [0, 1, 2, 3, 4] rfl rfl rfl rfl rfl) rfl rfl (Nat.le_of_ble_eq_true rfl) dX12_attribute_7 ⟨by decide +kernel, by decide +kernel⟩ (fun r_57 u_55 hp_56 => ?_)
            subst hp_56
            show V _ _ _ _ _ _ _ _ _ _ _ _ _ _ (0, 0) [(h, .inr (12, fsM q 0 0 0 0 0)), ((q 100), .inl (K 0, 2, .inl (gl [0, 0]))), ((q 101), .inl (K 0, 40, .inl (fun _ => 0))), ((q 102), .inl (K 0, 40, .inl (fun _ => 0))), ((q 103), .inl (K 0, 40, .inl (fun _ => 0)))] _ _ [.int 1]
            show V _ _ _ _ _ _ _ _ _ _ _ _ _ _ (0, 0) [(h, .inr (12, fsM q 0 0 0 0 0)), ((q 100), .inl (K 0, 2, .inl (gl [0, 0]))), ((q 101), .inl (K 0, 40, .inl (fun _ => 0))), ((q 102), .inl (K 0, 40, .inl (fun _ => 0))), ((q 103), .inl (K 0, 40, .inl (fun _ => 0)))] _ _ _
            refine v_if_eq B (tgt := 52) dX12_attribute_10 (by decide +kernel) (fun h => absurd h (by decide +kernel)) (fun _ => ?_)
            refine v_aload_n B dX12_attribute_13 rfl rfl ?_
            refine v_get B (C := RX12) (T := TX12) (N := 123) (ci := 12) (k0 := 0) hi_y_attribute_X12 rfl rfl 100 (by decide +kernel) (List.mem_of_getElem? (i := 6) rfl) rfl dX12_attribute_14 ?_
            refine v_iload_n B dX12_attribute_17 rfl rfl ?_
            refine v_iald B (k0 := 1) (t0 := 0) (v := 0) rfl rfl (vpi (by decide +kernel)) rfl dX12_attribute_18 ?_
            refine v_bipush B (v := 20) dX12_attribute_19 (by decide +kernel) ?_
            refine v_icmp_eq B (tgt := 52) dX12_attribute_21 (by decide +kernel) (fun h => absurd h (by decide +kernel)) (fun _ => ?_)
            refine v_iload_n B dX12_attribute_24 rfl rfl ?_
            refine v_ldcw B (v := 65536) (List.mem_of_getElem? (i := 7) rfl) dX12_attribute_25 ?_
            refine v_callSi B (n := 2) (As := [.int ty, .int 65536]) (rest := []) (wc := []) (wr := [(h, .inr (12, fsM q 0 0 0 0 0)), ((q 100), .inl (K 0, 2, .inl (gl [0, 0]))), ((q 101), .inl (K 0, 40, .inl (fun _ => 0))), ((q 102), .inl (K 0, 40, .inl (fun _ => 0))), ((q 103), .inl (K 0, 40, .inl (fun _ => 0)))]) (m_in_T l D K ty 65536 e_ty f_ty) gd_y_attribute_m_in_T_413 rfl rfl rfl (by decide +kernel) ⟨by decide +kernel, by decide +kernel⟩ (sp_pl [] [0, 1, 2, 3, 4] rfl rfl rfl rfl rfl) rfl rfl (Nat.le_of_ble_eq_true rfl) dX12_attribute_28 ⟨by decide +kernel, by decide +kernel⟩ (fun r_60 u_58 hp_59 => ?_)
            subst hp_59
            show V _ _ _ _ _ _ _ _ _ _ _ _ _ _ (0, 0) [(h, .inr (12, fsM q 0 0 0 0 0)), ((q 100), .inl (K 0, 2, .inl (gl [0, 0]))), ((q 101), .inl (K 0, 40, .inl (fun _ => 0))), ((q 102), .inl (K 0, 40, .inl (fun _ => 0))), ((q 103), .inl (K 0, 40, .inl (fun _ => 0)))] _ _ [.int 1]
            show V _ _ _ _ _ _ _ _ _ _ _ _ _ _ (0, 0) [(h, .inr (12, fsM q 0 0 0 0 0)), ((q 100), .inl (K 0, 2, .inl (gl [0, 0]))), ((q 101), .inl (K 0, 40, .inl (fun _ => 0))), ((q 102), .inl (K 0, 40, .inl (fun _ => 0))), ((q 103), .inl (K 0, 40, .inl (fun _ => 0)))] _ _ _
            refine v_if_eq B (tgt := 52) dX12_attribute_31 (by decide +kernel) (fun h => absurd h (by decide +kernel)) (fun _ => ?_)
            refine v_iload_n B dX12_attribute_34 rfl rfl ?_
            refine v_bipush B (v := 8) dX12_attribute_35 (by decide +kernel) ?_
            refine v_callSi B (n := 2) (As := [.int rg, .int 8]) (rest := []) (wc := []) (wr := [(h, .inr (12, fsM q 0 0 0 0 0)), ((q 100), .inl (K 0, 2, .inl (gl [0, 0]))), ((q 101), .inl (K 0, 40, .inl (fun _ => 0))), ((q 102), .inl (K 0, 40, .inl (fun _ => 0))), ((q 103), .inl (K 0, 40, .inl (fun _ => 0)))]) (m_in_T l D K rg 8 e_rg f_rg) gd_y_attribute_m_in_T_413 rfl rfl rfl (by decide +kernel) ⟨by decide +kernel, by decide +kernel⟩ (sp_pl [] [0, 1, 2, 3, 4] rfl rfl rfl rfl rfl) rfl rfl (Nat.le_of_ble_eq_true rfl) dX12_attribute_37 ⟨by decide +kernel, by decide +kernel⟩ (fun r_63 u_61 hp_62 => ?_)
            subst hp_62
            show V _ _ _ _ _ _ _ _ _ _ _ _ _ _ (0, 0) [(h, .inr (12, fsM q 0 0 0 0 0)), ((q 100), .inl (K 0, 2, .inl (gl [0, 0]))), ((q 101), .inl (K 0, 40, .inl (fun _ => 0))), ((q 102), .inl (K 0, 40, .inl (fun _ => 0))), ((q 103), .inl (K 0, 40, .inl (fun _ => 0)))] _ _ [.int 1]
            show V _ _ _ _ _ _ _ _ _ _ _ _ _ _ (0, 0) [(h, .inr (12, fsM q 0 0 0 0 0)), ((q 100), .inl (K 0, 2, .inl (gl [0, 0]))), ((q 101), .inl (K 0, 40, .inl (fun _ => 0))), ((q 102), .inl (K 0, 40, .inl (fun _ => 0))), ((q 103), .inl (K 0, 40, .inl (fun _ => 0)))] _ _ _
            refine v_if_eq B (tgt := 52) dX12_attribute_40 (by decide +kernel) (fun h => absurd h (by decide +kernel)) (fun _ => ?_)
            refine v_aload_n B dX12_attribute_43 rfl rfl ?_
            refine v_get B (C := RX12) (T := TX12) (N := 123) (ci := 12) (k0 := 0) hi_y_attribute_X12 rfl rfl 2 (by decide +kernel) (List.mem_of_getElem? (i := 8) rfl) rfl dX12_attribute_44 ?_
            refine v_bipush B (v := 40) dX12_attribute_47 (by decide +kernel) ?_
            refine v_icmp_le B (tgt := 54) dX12_attribute_49 (by decide +kernel) (fun _ => ?_) (fun h => absurd (by decide +kernel) h)
            refine v_aload_n B dX12_attribute_54 rfl rfl ?_
            refine v_get B (C := RX12) (T := TX12) (N := 123) (ci := 12) (k0 := 0) hi_y_attribute_X12 rfl rfl 100 (by decide +kernel) (List.mem_of_getElem? (i := 6) rfl) rfl dX12_attribute_55 ?_
            refine v_iload_n B dX12_attribute_58 rfl rfl ?_
            refine v_dup2 B dX12_attribute_59 rfl rfl ?_
            refine v_iald B (k0 := 1) (t0 := 0) (v := 0) rfl rfl (vpi (by decide +kernel)) rfl dX12_attribute_60 ?_
            refine v_iconst B (v := 1) dX12_attribute_61 (by decide +kernel) ?_
            refine v_iadd B (v := 1) dX12_attribute_62 (by decide +kernel) ?_
            refine v_iastL B (k0 := 1) (t0 := 0) (k := 0) (y := 1) (w' := [(h, .inr (12, fsM q 0 0 0 0 0)), ((q 100), .inl (K 0, 2, .inl (gl [1, 0]))), ((q 101), .inl (K 0, 40, .inl (fun _ => 0))), ((q 102), .inl (K 0, 40, .inl (fun _ => 0))), ((q 103), .inl (K 0, 40, .inl (fun _ => 0)))]) rfl rfl (vpi (by decide +kernel)) (by decide +kernel) (Nat.le_of_ble_eq_true rfl) rfl rfl dX12_attribute_63 ?_
            refine v_aload_n B dX12_attribute_64 rfl rfl ?_
            refine v_get B (C := RX12) (T := TX12) (N := 123) (ci := 12) (k0 := 0) hi_y_attribute_X12 rfl rfl 100 (by decide +kernel) (List.mem_of_getElem? (i := 6) rfl) rfl dX12_attribute_65 ?_
            refine v_iload_n B dX12_attribute_68 rfl rfl ?_
            refine v_iald B (k0 := 1) (t0 := 0) (v := 1) rfl rfl (vpi (by decide +kernel)) rfl dX12_attribute_69 ?_
            refine v_istore B (lv' := [(4, .int 1), (0, .ref h), (1, .int 0), (2, .int ty), (3, .int rg)]) dX12_attribute_70 (by decide +kernel) rfl ?_
            refine v_aload_n B dX12_attribute_72 rfl rfl ?_
            refine v_get B (C := RX12) (T := TX12) (N := 123) (ci := 12) (k0 := 0) hi_y_attribute_X12 rfl rfl 101 (by decide +kernel) (List.mem_of_getElem? (i := 9) rfl) rfl dX12_attribute_73 ?_
            refine v_aload_n B dX12_attribute_76 rfl rfl ?_
            refine v_iload_n B dX12_attribute_77 rfl rfl ?_
            refine v_iload B dX12_attribute_78 rfl ?_
            refine v_callVi B (b := h) (n := 2) (As := [.int 0, .int 1]) (rest := [.ref (q 101)]) (wc := [(h, .inr (12, fsM q 0 0 0 0 0))]) (wr := [((q 100), .inl (K 0, 2, .inl (gl [1, 0]))), ((q 101), .inl (K 0, 40, .inl (fun _ => 0))), ((q 102), .inl (K 0, 40, .inl (fun _ => 0))), ((q 103), .inl (K 0, 40, .inl (fun _ => 0)))]) (m_row_0 l D K h q fa sa) gd_y_attribute_m_row_0_547 rfl rfl rfl (by decide +kernel) ⟨by decide +kernel, by decide +kernel⟩ 0 rfl rfl rfl (sp_pl [0] [1, 2, 3, 4] rfl rfl rfl rfl rfl) rfl rfl (Nat.le_of_ble_eq_true rfl) dX12_attribute_80 ⟨by decide +kernel, by decide +kernel⟩ (fun r_66 u_64 hp_65 => ?_)
            subst hp_65
            show V _ _ _ _ _ _ _ _ _ _ _ _ _ _ (0, 0) [((q 100), .inl (K 0, 2, .inl (gl [1, 0]))), ((q 101), .inl (K 0, 40, .inl (fun _ => 0))), ((q 102), .inl (K 0, 40, .inl (fun _ => 0))), ((q 103), .inl (K 0, 40, .inl (fun _ => 0))), (h, .inr (12, fsM q 0 0 0 0 0))] _ _ [.int 0, .ref (q 101)]
            show V _ _ _ _ _ _ _ _ _ _ _ _ _ _ (0, 0) [((q 100), .inl (K 0, 2, .inl (gl [1, 0]))), ((q 101), .inl (K 0, 40, .inl (fun _ => 0))), ((q 102), .inl (K 0, 40, .inl (fun _ => 0))), ((q 103), .inl (K 0, 40, .inl (fun _ => 0))), (h, .inr (12, fsM q 0 0 0 0 0))] _ _ _
            refine v_iload_n B dX12_attribute_83 rfl rfl ?_
            refine v_iast B (k0 := 1) (t0 := 0) (w' := [((q 100), .inl (K 0, 2, .inl (gl [1, 0]))), ((q 101), .inl (K 0, 40, .inl (upd (fun _ => 0) (0 : Int32).toNatClampNeg ty))), ((q 102), .inl (K 0, 40, .inl (fun _ => 0))), ((q 103), .inl (K 0, 40, .inl (fun _ => 0))), (h, .inr (12, fsM q 0 0 0 0 0))]) rfl rfl (vpi (by decide +kernel)) rfl dX12_attribute_84 ?_
            refine v_aload_n B dX12_attribute_85 rfl rfl ?_
            refine v_get B (C := RX12) (T := TX12) (N := 123) (ci := 12) (k0 := 4) hi_y_attribute_X12 rfl rfl 102 (by decide +kernel) (List.mem_of_getElem? (i := 14) rfl) rfl dX12_attribute_86 ?_
            refine v_aload_n B dX12_attribute_89 rfl rfl ?_
            refine v_iload_n B dX12_attribute_90 rfl rfl ?_
            refine v_iload B dX12_attribute_91 rfl ?_
            refine v_callVi B (b := h) (n := 2) (As := [.int 0, .int 1]) (rest := [.ref (q 102)]) (wc := [(h, .inr (12, fsM q 0 0 0 0 0))]) (wr := [((q 100), .inl (K 0, 2, .inl (gl [1, 0]))), ((q 101), .inl (K 0, 40, .inl (upd (fun _ => 0) (0 : Int32).toNatClampNeg ty))), ((q 102), .inl (K 0, 40, .inl (fun _ => 0))), ((q 103), .inl (K 0, 40, .inl (fun _ => 0)))]) (m_row_0 l D K h q fa sa) gd_y_attribute_m_row_0_547 rfl rfl rfl (by decide +kernel) ⟨by decide +kernel, by decide +kernel⟩ 0 rfl rfl rfl (sp_pl [4] [0, 1, 2, 3] rfl rfl rfl rfl rfl) rfl rfl (Nat.le_of_ble_eq_true rfl) dX12_attribute_93 ⟨by decide +kernel, by decide +kernel⟩ (fun r_69 u_67 hp_68 => ?_)
            subst hp_68
            show V _ _ _ _ _ _ _ _ _ _ _ _ _ _ (0, 0) [((q 100), .inl (K 0, 2, .inl (gl [1, 0]))), ((q 101), .inl (K 0, 40, .inl (upd (fun _ => 0) (0 : Int32).toNatClampNeg ty))), ((q 102), .inl (K 0, 40, .inl (fun _ => 0))), ((q 103), .inl (K 0, 40, .inl (fun _ => 0))), (h, .inr (12, fsM q 0 0 0 0 0))] _ _ [.int 0, .ref (q 102)]
            show V _ _ _ _ _ _ _ _ _ _ _ _ _ _ (0, 0) [((q 100), .inl (K 0, 2, .inl (gl [1, 0]))), ((q 101), .inl (K 0, 40, .inl (upd (fun _ => 0) (0 : Int32).toNatClampNeg ty))), ((q 102), .inl (K 0, 40, .inl (fun _ => 0))), ((q 103), .inl (K 0, 40, .inl (fun _ => 0))), (h, .inr (12, fsM q 0 0 0 0 0))] _ _ _
            refine v_iload_n B dX12_attribute_96 rfl rfl ?_
            refine v_iast B (k0 := 2) (t0 := 0) (w' := [((q 100), .inl (K 0, 2, .inl (gl [1, 0]))), ((q 101), .inl (K 0, 40, .inl (upd (fun _ => 0) (0 : Int32).toNatClampNeg ty))), ((q 102), .inl (K 0, 40, .inl (upd (fun _ => 0) (0 : Int32).toNatClampNeg rg))), ((q 103), .inl (K 0, 40, .inl (fun _ => 0))), (h, .inr (12, fsM q 0 0 0 0 0))]) rfl rfl (vpi (by decide +kernel)) rfl dX12_attribute_97 ?_
            refine v_aload_n B dX12_attribute_98 rfl rfl ?_
            refine v_iload_n B dX12_attribute_99 rfl rfl ?_
            refine v_iload B dX12_attribute_100 rfl ?_
            refine v_callVv B (b := h) (n := 2) (As := [.int 0, .int 1]) (rest := []) (wc := [(h, .inr (12, fsM q 0 0 0 0 0)), ((q 103), .inl (K 0, 40, .inl (fun _ => 0)))]) (wr := [((q 100), .inl (K 0, 2, .inl (gl [1, 0]))), ((q 101), .inl (K 0, 40, .inl (upd (fun _ => 0) (0 : Int32).toNatClampNeg ty))), ((q 102), .inl (K 0, 40, .inl (upd (fun _ => 0) (0 : Int32).toNatClampNeg rg)))]) (m_becomes_0 l D K h q fa sa) gd_y_attribute_m_becomes_0_688 rfl rfl rfl (by decide +kernel) ⟨by decide +kernel, by decide +kernel⟩ 0 rfl rfl rfl (sp_pl [4, 3] [0, 1, 2] rfl rfl rfl rfl rfl) rfl rfl (Nat.le_of_ble_eq_true rfl) dX12_attribute_102 ⟨by decide +kernel, by decide +kernel⟩ (fun u_70 hp_71 => ?_)
            show V _ _ _ _ _ _ _ _ _ _ _ _ _ _ (0, 0) [((q 100), .inl (K 0, 2, .inl (gl [1, 0]))), ((q 101), .inl (K 0, 40, .inl (upd (fun _ => 0) (0 : Int32).toNatClampNeg ty))), ((q 102), .inl (K 0, 40, .inl (upd (fun _ => 0) (0 : Int32).toNatClampNeg rg)))] _ _ _
            refine v_iload B dX12_attribute_105 rfl ?_
            refine v_forget (wc := []) (wr := []) (sp_pl [] [] rfl rfl rfl rfl rfl) ?_
            exact v_iret B hr hlk () (by simp [an_attribute, e_ty, (rg_ngt (Int32.not_le.mp f_ty) (by decide +kernel) : ¬ 65535 < ty), e_rg, (rg_ngt (Int32.not_le.mp f_rg) (by decide +kernel) : ¬ 7 < rg)]) rfl (by decide +kernel) (by decide +kernel) dX12_attribute_107
  · skip
    by_cases h1 : d = 1
    · subst h1
      by_cases e_ty : ty < 0
      · skip
        by_cases e_rg : rg < 0
        · skip
          refine v_aload_n B dX12_attribute_0 rfl rfl ?_
          refine v_iconst B (v := 0) dX12_attribute_1 (by decide +kernel) ?_
          refine v_put B (C := RX12) (T := TX12) (N := 123) (ci := 12) (k0 := 0) hi_y_attribute_X12 rfl rfl 0 (by decide +kernel) tyX12 tyX12_ok nmX12 (List.mem_of_getElem? (i := 1) rfl) rfl (ty := .int) (tyX12_ok 0 (by decide +kernel)) rfl rfl (Nat.le_of_ble_eq_true rfl) (w' := [(h, .inr (12, fsM q 0 0 0 0 0)), ((q 100), .inl (K 0, 2, .inl (gl [0, 0]))), ((q 101), .inl (K 0, 40, .inl (fun _ => 0))), ((q 102), .inl (K 0, 40, .inl (fun _ => 0))), ((q 103), .inl (K 0, 40, .inl (fun _ => 0)))]) rfl dX12_attribute_2 ?_
          refine v_iload_n B dX12_attribute_5 rfl rfl ?_
          refine v_iconst B (v := 2) dX12_attribute_6 (by decide +kernel) ?_
          refine v_callSi B (n := 2) (As := [.int 1, .int 2]) (rest := []) (wc := []) (wr := [(h, .inr (12, fsM q 0 0 0 0 0)), ((q 100), .inl (K 0, 2, .inl (gl [0, 0]))), ((q 101), .inl (K 0, 40, .inl (fun _ => 0))), ((q 102), .inl (K 0, 40, .inl (fun _ => 0))), ((q 103), .inl (K 0, 40, .inl (fun _ => 0)))]) (m_in_T l D K 1 2 (by decide +kernel) (by decide +kernel)) gd_y_attribute_m_in_T_413 rfl rfl rfl (by decide +kernel) ⟨by decide +kernel, by decide +kernel⟩ (sp_pl [] [0, 1, 2, 3, 4] rfl rfl rfl rfl rfl) rfl rfl (Nat.le_of_ble_eq_true rfl) dX12_attribute_7 ⟨by decide +kernel, by decide +kernel⟩ (fun r_75 u_73 hp_74 => ?_)
          subst hp_74
          show V _ _ _ _ _ _ _ _ _ _ _ _ _ _ (0, 0) [(h, .inr (12, fsM q 0 0 0 0 0)), ((q 100), .inl (K 0, 2, .inl (gl [0, 0]))), ((q 101), .inl (K 0, 40, .inl (fun _ => 0))), ((q 102), .inl (K 0, 40, .inl (fun _ => 0))), ((q 103), .inl (K 0, 40, .inl (fun _ => 0)))] _ _ [.int 1]
          show V _ _ _ _ _ _ _ _ _ _ _ _ _ _ (0, 0) [(h, .inr (12, fsM q 0 0 0 0 0)), ((q 100), .inl (K 0, 2, .inl (gl [0, 0]))), ((q 101), .inl (K 0, 40, .inl (fun _ => 0))), ((q 102), .inl (K 0, 40, .inl (fun _ => 0))), ((q 103), .inl (K 0, 40, .inl (fun _ => 0)))] _ _ _
          refine v_if_eq B (tgt := 52) dX12_attribute_10 (by decide +kernel) (fun h => absurd h (by decide +kernel)) (fun _ => ?_)
          refine v_aload_n B dX12_attribute_13 rfl rfl ?_
          refine v_get B (C := RX12) (T := TX12) (N := 123) (ci := 12) (k0 := 0) hi_y_attribute_X12 rfl rfl 100 (by decide +kernel) (List.mem_of_getElem? (i := 6) rfl) rfl dX12_attribute_14 ?_
          refine v_iload_n B dX12_attribute_17 rfl rfl ?_
          refine v_iald B (k0 := 1) (t0 := 0) (v := 0) rfl rfl (vpi (by decide +kernel)) rfl dX12_attribute_18 ?_
          refine v_bipush B (v := 20) dX12_attribute_19 (by decide +kernel) ?_
          refine v_icmp_eq B (tgt := 52) dX12_attribute_21 (by decide +kernel) (fun h => absurd h (by decide +kernel)) (fun _ => ?_)
          refine v_iload_n B dX12_attribute_24 rfl rfl ?_
          refine v_ldcw B (v := 65536) (List.mem_of_getElem? (i := 7) rfl) dX12_attribute_25 ?_
          refine v_callSi B (n := 2) (As := [.int ty, .int 65536]) (rest := []) (wc := []) (wr := [(h, .inr (12, fsM q 0 0 0 0 0)), ((q 100), .inl (K 0, 2, .inl (gl [0, 0]))), ((q 101), .inl (K 0, 40, .inl (fun _ => 0))), ((q 102), .inl (K 0, 40, .inl (fun _ => 0))), ((q 103), .inl (K 0, 40, .inl (fun _ => 0)))]) (m_in_F1 l D K ty 65536 e_ty) gd_y_attribute_m_in_F1_413 rfl rfl rfl (by decide +kernel) ⟨by decide +kernel, by decide +kernel⟩ (sp_pl [] [0, 1, 2, 3, 4] rfl rfl rfl rfl rfl) rfl rfl (Nat.le_of_ble_eq_true rfl) dX12_attribute_28 ⟨by decide +kernel, by decide +kernel⟩ (fun r_78 u_76 hp_77 => ?_)
          subst hp_77
          show V _ _ _ _ _ _ _ _ _ _ _ _ _ _ (0, 0) [(h, .inr (12, fsM q 0 0 0 0 0)), ((q 100), .inl (K 0, 2, .inl (gl [0, 0]))), ((q 101), .inl (K 0, 40, .inl (fun _ => 0))), ((q 102), .inl (K 0, 40, .inl (fun _ => 0))), ((q 103), .inl (K 0, 40, .inl (fun _ => 0)))] _ _ [.int 0]
          show V _ _ _ _ _ _ _ _ _ _ _ _ _ _ (0, 0) [(h, .inr (12, fsM q 0 0 0 0 0)), ((q 100), .inl (K 0, 2, .inl (gl [0, 0]))), ((q 101), .inl (K 0, 40, .inl (fun _ => 0))), ((q 102), .inl (K 0, 40, .inl (fun _ => 0))), ((q 103), .inl (K 0, 40, .inl (fun _ => 0)))] _ _ _
          refine v_if_eq B (tgt := 52) dX12_attribute_31 (by decide +kernel) (fun _ => ?_) (fun h => absurd (by decide +kernel) h)
          refine v_iconst B (v := (-1)) dX12_attribute_52 (by decide +kernel) ?_
          refine v_forget (wc := []) (wr := []) (sp_pl [] [] rfl rfl rfl rfl rfl) ?_
          exact v_iret B hr hlk () (by simp [an_attribute, e_ty, e_rg]) rfl (by decide +kernel) (by decide +kernel) dX12_attribute_53
        · skip
          by_cases f_rg : 8 ≤ rg
          · skip
            refine v_aload_n B dX12_attribute_0 rfl rfl ?_
            refine v_iconst B (v := 0) dX12_attribute_1 (by decide +kernel) ?_
            refine v_put B (C := RX12) (T := TX12) (N := 123) (ci := 12) (k0 := 0) hi_y_attribute_X12 rfl rfl 0 (by decide +kernel) tyX12 tyX12_ok nmX12 (List.mem_of_getElem? (i := 1) rfl) rfl (ty := .int) (tyX12_ok 0 (by decide +kernel)) rfl rfl (Nat.le_of_ble_eq_true rfl) (w' := [(h, .inr (12, fsM q 0 0 0 0 0)), ((q 100), .inl (K 0, 2, .inl (gl [0, 0]))), ((q 101), .inl (K 0, 40, .inl (fun _ => 0))), ((q 102), .inl (K 0, 40, .inl (fun _ => 0))), ((q 103), .inl (K 0, 40, .inl (fun _ => 0)))]) rfl dX12_attribute_2 ?_
            refine v_iload_n B dX12_attribute_5 rfl rfl ?_
            refine v_iconst B (v := 2) dX12_attribute_6 (by decide +kernel) ?_
            refine v_callSi B (n := 2) (As := [.int 1, .int 2]) (rest := []) (wc := []) (wr := [(h, .inr (12, fsM q 0 0 0 0 0)), ((q 100), .inl (K 0, 2, .inl (gl [0, 0]))), ((q 101), .inl (K 0, 40, .inl (fun _ => 0))), ((q 102), .inl (K 0, 40, .inl (fun _ => 0))), ((q 103), .inl (K 0, 40, .inl (fun _ => 0)))]) (m_in_T l D K 1 2 (by decide +kernel) (by decide +kernel)) gd_y_attribute_m_in_T_413 rfl rfl rfl (by decide +kernel) ⟨by decide +kernel, by decide +kernel⟩ (sp_pl [] [0, 1, 2, 3, 4] rfl rfl rfl rfl rfl) rfl rfl (Nat.le_of_ble_eq_true rfl) dX12_attribute_7 ⟨by decide +kernel, by decide +kernel⟩ (fun r_81 u_79 hp_80 => ?_)
            subst hp_80
            show V _ _ _ _ _ _ _ _ _ _ _ _ _ _ (0, 0) [(h, .inr (12, fsM q 0 0 0 0 0)), ((q 100), .inl (K 0, 2, .inl (gl [0, 0]))), ((q 101), .inl (K 0, 40, .inl (fun _ => 0))), ((q 102), .inl (K 0, 40, .inl (fun _ => 0))), ((q 103), .inl (K 0, 40, .inl (fun _ => 0)))] _ _ [.int 1]
            show V _ _ _ _ _ _ _ _ _ _ _ _ _ _ (0, 0) [(h, .inr (12, fsM q 0 0 0 0 0)), ((q 100), .inl (K 0, 2, .inl (gl [0, 0]))), ((q 101), .inl (K 0, 40, .inl (fun _ => 0))), ((q 102), .inl (K 0, 40, .inl (fun _ => 0))), ((q 103), .inl (K 0, 40, .inl (fun _ => 0)))] _ _ _
            refine v_if_eq B (tgt := 52) dX12_attribute_10 (by decide +kernel) (fun h => absurd h (by decide +kernel)) (fun _ => ?_)
            refine v_aload_n B dX12_attribute_13 rfl rfl ?_
            refine v_get B (C := RX12) (T := TX12) (N := 123) (ci := 12) (k0 := 0) hi_y_attribute_X12 rfl rfl 100 (by decide +kernel) (List.mem_of_getElem? (i := 6) rfl) rfl dX12_attribute_14 ?_
            refine v_iload_n B dX12_attribute_17 rfl rfl ?_
            refine v_iald B (k0 := 1) (t0 := 0) (v := 0) rfl rfl (vpi (by decide +kernel)) rfl dX12_attribute_18 ?_
            refine v_bipush B (v := 20) dX12_attribute_19 (by decide +kernel) ?_
            refine v_icmp_eq B (tgt := 52) dX12_attribute_21 (by decide +kernel) (fun h => absurd h (by decide +kernel)) (fun _ => ?_)
            refine v_iload_n B dX12_attribute_24 rfl rfl ?_
            refine v_ldcw B (v := 65536) (List.mem_of_getElem? (i := 7) rfl) dX12_attribute_25 ?_
            refine v_callSi B (n := 2) (As := [.int ty, .int 65536]) (rest := []) (wc := []) (wr := [(h, .inr (12, fsM q 0 0 0 0 0)), ((q 100), .inl (K 0, 2, .inl (gl [0, 0]))), ((q 101), .inl (K 0, 40, .inl (fun _ => 0))), ((q 102), .inl (K 0, 40, .inl (fun _ => 0))), ((q 103), .inl (K 0, 40, .inl (fun _ => 0)))]) (m_in_F1 l D K ty 65536 e_ty) gd_y_attribute_m_in_F1_413 rfl rfl rfl (by decide +kernel) ⟨by decide +kernel, by decide +kernel⟩ (sp_pl [] [0, 1, 2, 3, 4] rfl rfl rfl rfl rfl) rfl rfl (Nat.le_of_ble_eq_true rfl) dX12_attribute_28 ⟨by decide +kernel, by decide +kernel⟩ (fun r_84 u_82 hp_83 => ?_)
            subst hp_83
            show V _ _ _ _ _ _ _ _ _ _ _ _ _ _ (0, 0) [(h, .inr (12, fsM q 0 0 0 0 0)), ((q 100), .inl (K 0, 2, .inl (gl [0, 0]))), ((q 101), .inl (K 0, 40, .inl (fun _ => 0))), ((q 102), .inl (K 0, 40, .inl (fun _ => 0))), ((q 103), .inl (K 0, 40, .inl (fun _ => 0)))] _ _ [.int 0]
            show V _ _ _ _ _ _ _ _ _ _ _ _ _ _ (0, 0) [(h, .inr (12, fsM q 0 0 0 0 0)), ((q 100), .inl (K 0, 2, .inl (gl [0, 0]))), ((q 101), .inl (K 0, 40, .inl (fun _ => 0))), ((q 102), .inl (K 0, 40, .inl (fun _ => 0))), ((q 103), .inl (K 0, 40, .inl (fun _ => 0)))] _ _ _
            refine v_if_eq B (tgt := 52) dX12_attribute_31 (by decide +kernel) (fun _ => ?_) (fun h => absurd (by decide +kernel) h)
            refine v_iconst B (v := (-1)) dX12_attribute_52 (by decide +kernel) ?_
            refine v_forget (wc := []) (wr := []) (sp_pl [] [] rfl rfl rfl rfl rfl) ?_
            exact v_iret B hr hlk () (by simp [an_attribute, e_ty, e_rg, (rg_gt f_rg (by decide +kernel) : 7 < rg)]) rfl (by decide +kernel) (by decide +kernel) dX12_attribute_53
          · skip
            refine v_aload_n B dX12_attribute_0 rfl rfl ?_
            refine v_iconst B (v := 0) dX12_attribute_1 (by decide +kernel) ?_
            refine v_put B (C := RX12) (T := TX12) (N := 123) (ci := 12) (k0 := 0) hi_y_attribute_X12 rfl rfl 0 (by decide +kernel) tyX12 tyX12_ok nmX12 (List.mem_of_getElem? (i := 1) rfl) rfl (ty := .int) (tyX12_ok 0 (by decide +kernel)) rfl rfl (Nat.le_of_ble_eq_true rfl) (w' := [(h, .inr (12, fsM q 0 0 0 0 0)), ((q 100), .inl (K 0, 2, .inl (gl [0, 0]))), ((q 101), .inl (K 0, 40, .inl (fun _ => 0))), ((q 102), .inl (K 0, 40, .inl (fun _ => 0))), ((q 103), .inl (K 0, 40, .inl (fun _ => 0)))]) rfl dX12_attribute_2 ?_
            refine v_iload_n B dX12_attribute_5 rfl rfl ?_
            refine v_iconst B (v := 2) dX12_attribute_6 (by decide +kernel) ?_
            refine v_callSi B (n := 2) (As := [.int 1, .int 2]) (rest := []) (wc := []) (wr := [(h, .inr (12, fsM q 0 0 0 0 0)), ((q 100), .inl (K 0, 2, .inl (gl [0, 0]))), ((q 101), .inl (K 0, 40, .inl (fun _ => 0))), ((q 102), .inl (K 0, 40, .inl (fun _ => 0))), ((q 103), .inl (K 0, 40, .inl (fun _ => 0)))]) (m_in_T l D K 1 2 (by decide +kernel) (by decide +kernel)) gd_y_attribute_m_in_T_413 rfl rfl rfl (by decide +kernel) ⟨by decide +kernel, by decide +kernel⟩ (sp_pl [] [0, 1, 2, 3, 4] rfl rfl rfl rfl rfl) rfl rfl (Nat.le_of_ble_eq_true rfl) dX12_attribute_7 ⟨by decide +kernel, by decide +kernel⟩ (fun r_87 u_85 hp_86 => ?_)
            subst hp_86
            show V _ _ _ _ _ _ _ _ _ _ _ _ _ _ (0, 0) [(h, .inr (12, fsM q 0 0 0 0 0)), ((q 100), .inl (K 0, 2, .inl (gl [0, 0]))), ((q 101), .inl (K 0, 40, .inl (fun _ => 0))), ((q 102), .inl (K 0, 40, .inl (fun _ => 0))), ((q 103), .inl (K 0, 40, .inl (fun _ => 0)))] _ _ [.int 1]
            show V _ _ _ _ _ _ _ _ _ _ _ _ _ _ (0, 0) [(h, .inr (12, fsM q 0 0 0 0 0)), ((q 100), .inl (K 0, 2, .inl (gl [0, 0]))), ((q 101), .inl (K 0, 40, .inl (fun _ => 0))), ((q 102), .inl (K 0, 40, .inl (fun _ => 0))), ((q 103), .inl (K 0, 40, .inl (fun _ => 0)))] _ _ _
            refine v_if_eq B (tgt := 52) dX12_attribute_10 (by decide +kernel) (fun h => absurd h (by decide +kernel)) (fun _ => ?_)
            refine v_aload_n B dX12_attribute_13 rfl rfl ?_
            refine v_get B (C := RX12) (T := TX12) (N := 123) (ci := 12) (k0 := 0) hi_y_attribute_X12 rfl rfl 100 (by decide +kernel) (List.mem_of_getElem? (i := 6) rfl) rfl dX12_attribute_14 ?_
            refine v_iload_n B dX12_attribute_17 rfl rfl ?_
            refine v_iald B (k0 := 1) (t0 := 0) (v := 0) rfl rfl (vpi (by decide +kernel)) rfl dX12_attribute_18 ?_
            refine v_bipush B (v := 20) dX12_attribute_19 (by decide +kernel) ?_
            refine v_icmp_eq B (tgt := 52) dX12_attribute_21 (by decide +kernel) (fun h => absurd h (by decide +kernel)) (fun _ => ?_)
            refine v_iload_n B dX12_attribute_24 rfl rfl ?_
            refine v_ldcw B (v := 65536) (List.mem_of_getElem? (i := 7) rfl) dX12_attribute_25 ?_
            refine v_callSi B (n := 2) (As := [.int ty, .int 65536]) (rest := []) (wc := []) (wr := [(h, .inr (12, fsM q 0 0 0 0 0)), ((q 100), .inl (K 0, 2, .inl (gl [0, 0]))), ((q 101), .inl (K 0, 40, .inl (fun _ => 0))), ((q 102), .inl (K 0, 40, .inl (fun _ => 0))), ((q 103), .inl (K 0, 40, .inl (fun _ => 0)))]) (m_in_F1 l D K ty 65536 e_ty) gd_y_attribute_m_in_F1_413 rfl rfl rfl (by decide +kernel) ⟨by decide +kernel, by decide +kernel⟩ (sp_pl [] [0, 1, 2, 3, 4] rfl rfl rfl rfl rfl) rfl rfl (Nat.le_of_ble_eq_true rfl) dX12_attribute_28 ⟨by decide +kernel, by decide +kernel⟩ (fun r_90 u_88 hp_89 => ?_)
            subst hp_89
            show V _ _ _ _ _ _ _ _ _ _ _ _ _ _ (0, 0) [(h, .inr (12, fsM q 0 0 0 0 0)), ((q 100), .inl (K 0, 2, .inl (gl [0, 0]))), ((q 101), .inl (K 0, 40, .inl (fun _ => 0))), ((q 102), .inl (K 0, 40, .inl (fun _ => 0))), ((q 103), .inl (K 0, 40, .inl (fun _ => 0)))] _ _ [.int 0]
            show V _ _ _ _ _ _ _ _ _ _ _ _ _ _ (0, 0) [(h, .inr (12, fsM q 0 0 0 0 0)), ((q 100), .inl (K 0, 2, .inl (gl [0, 0]))), ((q 101), .inl (K 0, 40, .inl (fun _ => 0))), ((q 102), .inl (K 0, 40, .inl (fun _ => 0))), ((q 103), .inl (K 0, 40, .inl (fun _ => 0)))] _ _ _
            refine v_if_eq B (tgt := 52) dX12_attribute_31 (by decide +kernel) (fun _ => ?_) (fun h => absurd (by decide +kernel) h)
            refine v_iconst B (v := (-1)) dX12_attribute_52 (by decide +kernel) ?_
            refine v_forget (wc := []) (wr := []) (sp_pl [] [] rfl rfl rfl rfl rfl) ?_
            exact v_iret B hr hlk () (by simp [an_attribute, e_ty, e_rg, (rg_ngt (Int32.not_le.mp f_rg) (by decide +kernel) : ¬ 7 < rg)]) rfl (by decide +kernel) (by decide +kernel) dX12_attribute_53
      · skip
        by_cases f_ty : 65536 ≤ ty
        · skip
          by_cases e_rg : rg < 0
          · skip
            refine v_aload_n B dX12_attribute_0 rfl rfl ?_
            refine v_iconst B (v := 0) dX12_attribute_1 (by decide +kernel) ?_
            refine v_put B (C := RX12) (T := TX12) (N := 123) (ci := 12) (k0 := 0) hi_y_attribute_X12 rfl rfl 0 (by decide +kernel) tyX12 tyX12_ok nmX12 (List.mem_of_getElem? (i := 1) rfl) rfl (ty := .int) (tyX12_ok 0 (by decide +kernel)) rfl rfl (Nat.le_of_ble_eq_true rfl) (w' := [(h, .inr (12, fsM q 0 0 0 0 0)), ((q 100), .inl (K 0, 2, .inl (gl [0, 0]))), ((q 101), .inl (K 0, 40, .inl (fun _ => 0))), ((q 102), .inl (K 0, 40, .inl (fun _ => 0))), ((q 103), .inl (K 0, 40, .inl (fun _ => 0)))]) rfl dX12_attribute_2 ?_
            refine v_iload_n B dX12_attribute_5 rfl rfl ?_
            refine v_iconst B (v := 2) dX12_attribute_6 (by decide +kernel) ?_
            refine v_callSi B (n := 2) (As := [.int 1, .int 2]) (rest := []) (wc := []) (wr := [(h, .inr (12, fsM q 0 0 0 0 0)), ((q 100), .inl (K 0, 2, .inl (gl [0, 0]))), ((q 101), .inl (K 0, 40, .inl (fun _ => 0))), ((q 102), .inl (K 0, 40, .inl (fun _ => 0))), ((q 103), .inl (K 0, 40, .inl (fun _ => 0)))]) (m_in_T l D K 1 2 (by decide +kernel) (by decide +kernel)) gd_y_attribute_m_in_T_413 rfl rfl rfl (by decide +kernel) ⟨by decide +kernel, by decide +kernel⟩ (sp_pl [] [0, 1, 2, 3, 4] rfl rfl rfl rfl rfl) rfl rfl (Nat.le_of_ble_eq_true rfl) dX12_attribute_7 ⟨by decide +kernel, by decide +kernel⟩ (fun r_93 u_91 hp_92 => ?_)
            subst hp_92
            show V _ _ _ _ _ _ _ _ _ _ _ _ _ _ (0, 0) [(h, .inr (12, fsM q 0 0 0 0 0)), ((q 100), .inl (K 0, 2, .inl (gl [0, 0]))), ((q 101), .inl (K 0, 40, .inl (fun _ => 0))), ((q 102), .inl (K 0, 40, .inl (fun _ => 0))), ((q 103), .inl (K 0, 40, .inl (fun _ => 0)))] _ _ [.int 1]
            show V _ _ _ _ _ _ _ _ _ _ _ _ _ _ (0, 0) [(h, .inr (12, fsM q 0 0 0 0 0)), ((q 100), .inl (K 0, 2, .inl (gl [0, 0]))), ((q 101), .inl (K 0, 40, .inl (fun _ => 0))), ((q 102), .inl (K 0, 40, .inl (fun _ => 0))), ((q 103), .inl (K 0, 40, .inl (fun _ => 0)))] _ _ _
            refine v_if_eq B (tgt := 52) dX12_attribute_10 (by decide +kernel) (fun h => absurd h (by decide +kernel)) (fun _ => ?_)
            refine v_aload_n B dX12_attribute_13 rfl rfl ?_
            refine v_get B (C := RX12) (T := TX12) (N := 123) (ci := 12) (k0 := 0) hi_y_attribute_X12 rfl rfl 100 (by decide +kernel) (List.mem_of_getElem? (i := 6) rfl) rfl dX12_attribute_14 ?_
            refine v_iload_n B dX12_attribute_17 rfl rfl ?_
            refine v_iald B (k0 := 1) (t0 := 0) (v := 0) rfl rfl (vpi (by decide +kernel)) rfl dX12_attribute_18 ?_
            refine v_bipush B (v := 20) dX12_attribute_19 (by decide +kernel) ?_
            refine v_icmp_eq B (tgt := 52) dX12_attribute_21 (by decide +kernel) (fun h => absurd h (by decide +kernel)) (fun _ => ?_)
            refine v_iload_n B dX12_attribute_24 rfl rfl ?_
            refine v_ldcw B (v := 65536) (List.mem_of_getElem? (i := 7) rfl) dX12_attribute_25 ?_
            refine v_callSi B (n := 2) (As := [.int ty, .int 65536]) (rest := []) (wc := []) (wr := [(h, .inr (12, fsM q 0 0 0 0 0)), ((q 100), .inl (K 0, 2, .inl (gl [0, 0]))), ((q 101), .inl (K 0, 40, .inl (fun _ => 0))), ((q 102), .inl (K 0, 40, .inl (fun _ => 0))), ((q 103), .inl (K 0, 40, .inl (fun _ => 0)))]) (m_in_F2 l D K ty 65536 (rg_nlt f_ty (by decide +kernel)) (rg_ge f_ty (by decide +kernel))) gd_y_attribute_m_in_F2_413 rfl rfl rfl (by decide +kernel) ⟨by decide +kernel, by decide +kernel⟩ (sp_pl [] [0, 1, 2, 3, 4] rfl rfl rfl rfl rfl) rfl rfl (Nat.le_of_ble_eq_true rfl) dX12_attribute_28 ⟨by decide +kernel, by decide +kernel⟩ (fun r_96 u_94 hp_95 => ?_)
            subst hp_95
            show V _ _ _ _ _ _ _ _ _ _ _ _ _ _ (0, 0) [(h, .inr (12, fsM q 0 0 0 0 0)), ((q 100), .inl (K 0, 2, .inl (gl [0, 0]))), ((q 101), .inl (K 0, 40, .inl (fun _ => 0))), ((q 102), .inl (K 0, 40, .inl (fun _ => 0))), ((q 103), .inl (K 0, 40, .inl (fun _ => 0)))] _ _ [.int 0]
            show V _ _ _ _ _ _ _ _ _ _ _ _ _ _ (0, 0) [(h, .inr (12, fsM q 0 0 0 0 0)), ((q 100), .inl (K 0, 2, .inl (gl [0, 0]))), ((q 101), .inl (K 0, 40, .inl (fun _ => 0))), ((q 102), .inl (K 0, 40, .inl (fun _ => 0))), ((q 103), .inl (K 0, 40, .inl (fun _ => 0)))] _ _ _
            refine v_if_eq B (tgt := 52) dX12_attribute_31 (by decide +kernel) (fun _ => ?_) (fun h => absurd (by decide +kernel) h)
            refine v_iconst B (v := (-1)) dX12_attribute_52 (by decide +kernel) ?_
            refine v_forget (wc := []) (wr := []) (sp_pl [] [] rfl rfl rfl rfl rfl) ?_
            exact v_iret B hr hlk () (by simp [an_attribute, e_ty, (rg_gt f_ty (by decide +kernel) : 65535 < ty), e_rg]) rfl (by decide +kernel) (by decide +kernel) dX12_attribute_53
          · skip
            by_cases f_rg : 8 ≤ rg
            · skip
              refine v_aload_n B dX12_attribute_0 rfl rfl ?_
              refine v_iconst B (v := 0) dX12_attribute_1 (by decide +kernel) ?_
              refine v_put B (C := RX12) (T := TX12) (N := 123) (ci := 12) (k0 := 0) hi_y_attribute_X12 rfl rfl 0 (by decide +kernel) tyX12 tyX12_ok nmX12 (List.mem_of_getElem? (i := 1) rfl) rfl (ty := .int) (tyX12_ok 0 (by decide +kernel)) rfl rfl (Nat.le_of_ble_eq_true rfl) (w' := [(h, .inr (12, fsM q 0 0 0 0 0)), ((q 100), .inl (K 0, 2, .inl (gl [0, 0]))), ((q 101), .inl (K 0, 40, .inl (fun _ => 0))), ((q 102), .inl (K 0, 40, .inl (fun _ => 0))), ((q 103), .inl (K 0, 40, .inl (fun _ => 0)))]) rfl dX12_attribute_2 ?_
              refine v_iload_n B dX12_attribute_5 rfl rfl ?_
              refine v_iconst B (v := 2) dX12_attribute_6 (by decide +kernel) ?_
              refine v_callSi B (n := 2) (As := [.int 1, .int 2]) (rest := []) (wc := []) (wr := [(h, .inr (12, fsM q 0 0 0 0 0)), ((q 100), .inl (K 0, 2, .inl (gl [0, 0]))), ((q 101), .inl (K 0, 40, .inl (fun _ => 0))), ((q 102), .inl (K 0, 40, .inl (fun _ => 0))), ((q 103), .inl (K 0, 40, .inl (fun _ => 0)))]) (m_in_T l D K 1 2 (by decide +kernel) (by decide +kernel)) gd_y_attribute_m_in_T_413 rfl rfl rfl (by decide +kernel) ⟨by decide +kernel, by decide +kernel⟩ (sp_pl [] [0, 1, 2, 3, 4] rfl rfl rfl rfl rfl) rfl rfl (Nat.le_of_ble_eq_true rfl) dX12_attribute_7 ⟨by decide +kernel, by decide +kernel⟩ (fun r_99 u_97 hp_98 => ?_)
              subst hp_98
              show V _ _ _ _ _ _ _ _ _ _ _ _ _ _ (0, 0) [(h, .inr (12, fsM q 0 0 0 0 0)), ((q 100), .inl (K 0, 2, .inl (gl [0, 0]))), ((q 101), .inl (K 0, 40, .inl (fun _ => 0))), ((q 102), .inl (K 0, 40, .inl (fun _ => 0))), ((q 103), .inl (K 0, 40, .inl (fun _ => 0)))] _ _ [.int 1]
              show V _ _ _ _ _ _ _ _ _ _ _ _ _ _ (0, 0) [(h, .inr (12, fsM q 0 0 0 0 0)), ((q 100), .inl (K 0, 2, .inl (gl [0, 0]))), ((q 101), .inl (K 0, 40, .inl (fun _ => 0))), ((q 102), .inl (K 0, 40, .inl (fun _ => 0))), ((q 103), .inl (K 0, 40, .inl (fun _ => 0)))] _ _ _
              refine v_if_eq B (tgt := 52) dX12_attribute_10 (by decide +kernel) (fun h => absurd h (by decide +kernel)) (fun _ => ?_)
              refine v_aload_n B dX12_attribute_13 rfl rfl ?_
              refine v_get B (C := RX12) (T := TX12) (N := 123) (ci := 12) (k0 := 0) hi_y_attribute_X12 rfl rfl 100 (by decide +kernel) (List.mem_of_getElem? (i := 6) rfl) rfl dX12_attribute_14 ?_
              refine v_iload_n B dX12_attribute_17 rfl rfl ?_
              refine v_iald B (k0 := 1) (t0 := 0) (v := 0) rfl rfl (vpi (by decide +kernel)) rfl dX12_attribute_18 ?_
              refine v_bipush B (v := 20) dX12_attribute_19 (by decide +kernel) ?_
              refine v_icmp_eq B (tgt := 52) dX12_attribute_21 (by decide +kernel) (fun h => absurd h (by decide +kernel)) (fun _ => ?_)
              refine v_iload_n B dX12_attribute_24 rfl rfl ?_
              refine v_ldcw B (v := 65536) (List.mem_of_getElem? (i := 7) rfl) dX12_attribute_25 ?_
              refine v_callSi B (n := 2) (As := [.int ty, .int 65536]) (rest := []) (wc := []) (wr := [(h, .inr (12, fsM q 0 0 0 0 0)), ((q 100), .inl (K 0, 2, .inl (gl [0, 0]))), ((q 101), .inl (K 0, 40, .inl (fun _ => 0))), ((q 102), .inl (K 0, 40, .inl (fun _ => 0))), ((q 103), .inl (K 0, 40, .inl (fun _ => 0)))]) (m_in_F2 l D K ty 65536 (rg_nlt f_ty (by decide +kernel)) (rg_ge f_ty (by decide +kernel))) gd_y_attribute_m_in_F2_413 rfl rfl rfl (by decide +kernel) ⟨by decide +kernel, by decide +kernel⟩ (sp_pl [] [0, 1, 2, 3, 4] rfl rfl rfl rfl rfl) rfl rfl (Nat.le_of_ble_eq_true rfl) dX12_attribute_28 ⟨by decide +kernel, by decide +kernel⟩ (fun r_102 u_100 hp_101 => ?_)
              subst hp_101
              show V _ _ _ _ _ _ _ _ _ _ _ _ _ _ (0, 0) [(h, .inr (12, fsM q 0 0 0 0 0)), ((q 100), .inl (K 0, 2, .inl (gl [0, 0]))), ((q 101), .inl (K 0, 40, .inl (fun _ => 0))), ((q 102), .inl (K 0, 40, .inl (fun _ => 0))), ((q 103), .inl (K 0, 40, .inl (fun _ => 0)))] _ _ [.int 0]
              show V _ _ _ _ _ _ _ _ _ _ _ _ _ _ (0, 0) [(h, .inr (12, fsM q 0 0 0 0 0)), ((q 100), .inl (K 0, 2, .inl (gl [0, 0]))), ((q 101), .inl (K 0, 40, .inl (fun _ => 0))), ((q 102), .inl (K 0, 40, .inl (fun _ => 0))), ((q 103), .inl (K 0, 40, .inl (fun _ => 0)))] _ _ _
              refine v_if_eq B (tgt := 52) dX12_attribute_31 (by decide +kernel) (fun _ => ?_) (fun h => absurd (by decide +kernel) h)
              refine v_iconst B (v := (-1)) dX12_attribute_52 (by decide +kernel) ?_
              refine v_forget (wc := []) (wr := []) (sp_pl [] [] rfl rfl rfl rfl rfl) ?_
              exact v_iret B hr hlk () (by simp [an_attribute, e_ty, (rg_gt f_ty (by decide +kernel) : 65535 < ty), e_rg, (rg_gt f_rg (by decide +kernel) : 7 < rg)]) rfl (by decide +kernel) (by decide +kernel) dX12_attribute_53
            · skip
              refine v_aload_n B dX12_attribute_0 rfl rfl ?_
              refine v_iconst B (v := 0) dX12_attribute_1 (by decide +kernel) ?_
              refine v_put B (C := RX12) (T := TX12) (N := 123) (ci := 12) (k0 := 0) hi_y_attribute_X12 rfl rfl 0 (by decide +kernel) tyX12 tyX12_ok nmX12 (List.mem_of_getElem? (i := 1) rfl) rfl (ty := .int) (tyX12_ok 0 (by decide +kernel)) rfl rfl (Nat.le_of_ble_eq_true rfl) (w' := [(h, .inr (12, fsM q 0 0 0 0 0)), ((q 100), .inl (K 0, 2, .inl (gl [0, 0]))), ((q 101), .inl (K 0, 40, .inl (fun _ => 0))), ((q 102), .inl (K 0, 40, .inl (fun _ => 0))), ((q 103), .inl (K 0, 40, .inl (fun _ => 0)))]) rfl dX12_attribute_2 ?_
              refine v_iload_n B dX12_attribute_5 rfl rfl ?_
              refine v_iconst B (v := 2) dX12_attribute_6 (by decide +kernel) ?_
              refine v_callSi B (n := 2) (As := [.int 1, .int 2]) (rest := []) (wc := []) (wr := [(h, .inr (12, fsM q 0 0 0 0 0)), ((q 100), .inl (K 0, 2, .inl (gl [0, 0]))), ((q 101), .inl (K 0, 40, .inl (fun _ => 0))), ((q 102), .inl (K 0, 40, .inl (fun _ => 0))), ((q 103), .inl (K 0, 40, .inl (fun _ => 0)))]) (m_in_T l D K 1 2 (by decide +kernel) (by decide +kernel)) gd_y_attribute_m_in_T_413 rfl rfl rfl (by decide +kernel) ⟨by decide +kernel, by decide +kernel⟩ (sp_pl [] [0, 1, 2, 3, 4] rfl rfl rfl rfl rfl) rfl rfl (Nat.le_of_ble_eq_true rfl) dX12_attribute_7 ⟨by decide +kernel, by decide +kernel⟩ (fun r_105 u_103 hp_104 => ?_)
              subst hp_104
              show V _ _ _ _ _ _ _ _ _ _ _ _ _ _ (0, 0) [(h, .inr (12, fsM q 0 0 0 0 0)), ((q 100), .inl (K 0, 2, .inl (gl [0, 0]))), ((q 101), .inl (K 0, 40, .inl (fun _ => 0))), ((q 102), .inl (K 0, 40, .inl (fun _ => 0))), ((q 103), .inl (K 0, 40, .inl (fun _ => 0)))] _ _ [.int 1]
              show V _ _ _ _ _ _ _ _ _ _ _ _ _ _ (0, 0) [(h, .inr (12, fsM q 0 0 0 0 0)), ((q 100), .inl (K 0, 2, .inl (gl [0, 0]))), ((q 101), .inl (K 0, 40, .inl (fun _ => 0))), ((q 102), .inl (K 0, 40, .inl (fun _ => 0))), ((q 103), .inl (K 0, 40, .inl (fun _ => 0)))] _ _ _
              refine v_if_eq B (tgt := 52) dX12_attribute_10 (by decide +kernel) (fun h => absurd h (by decide +kernel)) (fun _ => ?_)
              refine v_aload_n B dX12_attribute_13 rfl rfl ?_
              refine v_get B (C := RX12) (T := TX12) (N := 123) (ci := 12) (k0 := 0) hi_y_attribute_X12 rfl rfl 100 (by decide +kernel) (List.mem_of_getElem? (i := 6) rfl) rfl dX12_attribute_14 ?_
              refine v_iload_n B dX12_attribute_17 rfl rfl ?_
              refine v_iald B (k0 := 1) (t0 := 0) (v := 0) rfl rfl (vpi (by decide +kernel)) rfl dX12_attribute_18 ?_
              refine v_bipush B (v := 20) dX12_attribute_19 (by decide +kernel) ?_
              refine v_icmp_eq B (tgt := 52) dX12_attribute_21 (by decide +kernel) (fun h => absurd h (by decide +kernel)) (fun _ => ?_)
              refine v_iload_n B dX12_attribute_24 rfl rfl ?_
              refine v_ldcw B (v := 65536) (List.mem_of_getElem? (i := 7) rfl) dX12_attribute_25 ?_
              refine v_callSi B (n := 2) (As := [.int ty, .int 65536]) (rest := []) (wc := []) (wr := [(h, .inr (12, fsM q 0 0 0 0 0)), ((q 100), .inl (K 0, 2, .inl (gl [0, 0]))), ((q 101), .inl (K 0, 40, .inl (fun _ => 0))), ((q 102), .inl (K 0, 40, .inl (fun _ => 0))), ((q 103), .inl (K 0, 40, .inl (fun _ => 0)))]) (m_in_F2 l D K ty 65536 (rg_nlt f_ty (by decide +kernel)) (rg_ge f_ty (by decide +kernel))) gd_y_attribute_m_in_F2_413 rfl rfl rfl (by decide +kernel) ⟨by decide +kernel, by decide +kernel⟩ (sp_pl [] [0, 1, 2, 3, 4] rfl rfl rfl rfl rfl) rfl rfl (Nat.le_of_ble_eq_true rfl) dX12_attribute_28 ⟨by decide +kernel, by decide +kernel⟩ (fun r_108 u_106 hp_107 => ?_)
              subst hp_107
              show V _ _ _ _ _ _ _ _ _ _ _ _ _ _ (0, 0) [(h, .inr (12, fsM q 0 0 0 0 0)), ((q 100), .inl (K 0, 2, .inl (gl [0, 0]))), ((q 101), .inl (K 0, 40, .inl (fun _ => 0))), ((q 102), .inl (K 0, 40, .inl (fun _ => 0))), ((q 103), .inl (K 0, 40, .inl (fun _ => 0)))] _ _ [.int 0]
              show V _ _ _ _ _ _ _ _ _ _ _ _ _ _ (0, 0) [(h, .inr (12, fsM q 0 0 0 0 0)), ((q 100), .inl (K 0, 2, .inl (gl [0, 0]))), ((q 101), .inl (K 0, 40, .inl (fun _ => 0))), ((q 102), .inl (K 0, 40, .inl (fun _ => 0))), ((q 103), .inl (K 0, 40, .inl (fun _ => 0)))] _ _ _
              refine v_if_eq B (tgt := 52) dX12_attribute_31 (by decide +kernel) (fun _ => ?_) (fun h => absurd (by decide +kernel) h)
              refine v_iconst B (v := (-1)) dX12_attribute_52 (by decide +kernel) ?_
              refine v_forget (wc := []) (wr := []) (sp_pl [] [] rfl rfl rfl rfl rfl) ?_
              exact v_iret B hr hlk () (by simp [an_attribute, e_ty, (rg_gt f_ty (by decide +kernel) : 65535 < ty), e_rg, (rg_ngt (Int32.not_le.mp f_rg) (by decide +kernel) : ¬ 7 < rg)]) rfl (by decide +kernel) (by decide +kernel) dX12_attribute_53
        · skip
          by_cases e_rg : rg < 0
          · skip
            refine v_aload_n B dX12_attribute_0 rfl rfl ?_
            refine v_iconst B (v := 0) dX12_attribute_1 (by decide +kernel) ?_
            refine v_put B (C := RX12) (T := TX12) (N := 123) (ci := 12) (k0 := 0) hi_y_attribute_X12 rfl rfl 0 (by decide +kernel) tyX12 tyX12_ok nmX12 (List.mem_of_getElem? (i := 1) rfl) rfl (ty := .int) (tyX12_ok 0 (by decide +kernel)) rfl rfl (Nat.le_of_ble_eq_true rfl) (w' := [(h, .inr (12, fsM q 0 0 0 0 0)), ((q 100), .inl (K 0, 2, .inl (gl [0, 0]))), ((q 101), .inl (K 0, 40, .inl (fun _ => 0))), ((q 102), .inl (K 0, 40, .inl (fun _ => 0))), ((q 103), .inl (K 0, 40, .inl (fun _ => 0)))]) rfl dX12_attribute_2 ?_
            refine v_iload_n B dX12_attribute_5 rfl rfl ?_
            refine v_iconst B (v := 2) dX12_attribute_6 (by decide +kernel) ?_
            refine v_callSi B (n := 2) (As := [.int 1, .int 2]) (rest := []) (wc := []) (wr := [(h, .inr (12, fsM q 0 0 0 0 0)), ((q 100), .inl (K 0, 2, .inl (gl [0, 0]))), ((q 101), .inl (K 0, 40, .inl (fun _ => 0))), ((q 102), .inl (K 0, 40, .inl (fun _ => 0))), ((q 103), .inl (K 0, 40, .inl (fun _ => 0)))]) (m_in_T l D K 1 2 (by decide +kernel) (by decide +kernel)) gd_y_attribute_m_in_T_413 rfl rfl rfl (by decide +kernel) ⟨by decide +kernel, by decide +kernel⟩ (sp_pl [] [0, 1, 2, 3, 4] rfl rfl rfl rfl rfl) rfl rfl (Nat.le_of_ble_eq_true rfl) dX12_attribute_7 ⟨by decide +kernel, by decide +kernel⟩ (fun r_111 u_109 hp_110 => ?_)
            subst hp_110
            show V _ _ _ _ _ _ _ _ _ _ _ _ _ _ (0, 0) [(h, .inr (12, fsM q 0 0 0 0 0)), ((q 100), .inl (K 0, 2, .inl (gl [0, 0]))), ((q 101), .inl (K 0, 40, .inl (fun _ => 0))), ((q 102), .inl (K 0, 40, .inl (fun _ => 0))), ((q 103), .inl (K 0, 40, .inl (fun _ => 0)))] _ _ [.int 1]
            show V _ _ _ _ _ _ _ _ _ _ _ _ _ _ (0, 0) [(h, .inr (12, fsM q 0 0 0 0 0)), ((q 100), .inl (K 0, 2, .inl (gl [0, 0]))), ((q 101), .inl (K 0, 40, .inl (fun _ => 0))), ((q 102), .inl (K 0, 40, .inl (fun _ => 0))), ((q 103), .inl (K 0, 40, .inl (fun _ => 0)))] _ _ _
            refine v_if_eq B (tgt := 52) dX12_attribute_10 (by decide +kernel) (fun h => absurd h (by decide +kernel)) (fun _ => ?_)
            refine v_aload_n B dX12_attribute_13 rfl rfl ?_
            refine v_get B (C := RX12) (T := TX12) (N := 123) (ci := 12) (k0 := 0) hi_y_attribute_X12 rfl rfl 100 (by decide +kernel) (List.mem_of_getElem? (i := 6) rfl) rfl dX12_attribute_14 ?_
            refine v_iload_n B dX12_attribute_17 rfl rfl ?_
            refine v_iald B (k0 := 1) (t0 := 0) (v := 0) rfl rfl (vpi (by decide +kernel)) rfl dX12_attribute_18 ?_
            refine v_bipush B (v := 20) dX12_attribute_19 (by decide +kernel) ?_
            refine v_icmp_eq B (tgt := 52) dX12_attribute_21 (by decide +kernel) (fun h => absurd h (by decide +kernel)) (fun _ => ?_)
            refine v_iload_n B dX12_attribute_24 rfl rfl ?_
            refine v_ldcw B (v := 65536) (List.mem_of_getElem? (i := 7) rfl) dX12_attribute_25 ?_
            refine v_callSi B (n := 2) (As := [.int ty, .int 65536]) (rest := []) (wc := []) (wr := [(h, .inr (12, fsM q 0 0 0 0 0)), ((q 100), .inl (K 0, 2, .inl (gl [0, 0]))), ((q 101), .inl (K 0, 40, .inl (fun _ => 0))), ((q 102), .inl (K 0, 40, .inl (fun _ => 0))), ((q 103), .inl (K 0, 40, .inl (fun _ => 0)))]) (m_in_T l D K ty 65536 e_ty f_ty) gd_y_attribute_m_in_T_413 rfl rfl rfl (by decide +kernel) ⟨by decide +kernel, by decide +kernel⟩ (sp_pl [] [0, 1, 2, 3, 4] rfl rfl rfl rfl rfl) rfl rfl (Nat.le_of_ble_eq_true rfl) dX12_attribute_28 ⟨by decide +kernel, by decide +kernel⟩ (fun r_114 u_112 hp_113 => ?_)
            subst hp_113
            show V _ _ _ _ _ _ _ _ _ _ _ _ _ _ (0, 0) [(h, .inr (12, fsM q 0 0 0 0 0)), ((q 100), .inl (K 0, 2, .inl (gl [0, 0]))), ((q 101), .inl (K 0, 40, .inl (fun _ => 0))), ((q 102), .inl (K 0, 40, .inl (fun _ => 0))), ((q 103), .inl (K 0, 40, .inl (fun _ => 0)))] _ _ [.int 1]
            show V _ _ _ _ _ _ _ _ _ _ _ _ _ _ (0, 0) [(h, .inr (12, fsM q 0 0 0 0 0)), ((q 100), .inl (K 0, 2, .inl (gl [0, 0]))), ((q 101), .inl (K 0, 40, .inl (fun _ => 0))), ((q 102), .inl (K 0, 40, .inl (fun _ => 0))), ((q 103), .inl (K 0, 40, .inl (fun _ => 0)))] _ _ _
            refine v_if_eq B (tgt := 52) dX12_attribute_31 (by decide +kernel) (fun h => absurd h (by decide +kernel)) (fun _ => ?_)
            refine v_iload_n B dX12_attribute_34 rfl rfl ?_
            refine v_bipush B (v := 8) dX12_attribute_35 (by decide +kernel) ?_
            refine v_callSi B (n := 2) (As := [.int rg, .int 8]) (rest := []) (wc := []) (wr := [(h, .inr (12, fsM q 0 0 0 0 0)), ((q 100), .inl (K 0, 2, .inl (gl [0, 0]))), ((q 101), .inl (K 0, 40, .inl (fun _ => 0))), ((q 102), .inl (K 0, 40, .inl (fun _ => 0))), ((q 103), .inl (K 0, 40, .inl (fun _ => 0)))]) (m_in_F1 l D K rg 8 e_rg) gd_y_attribute_m_in_F1_413 rfl rfl rfl (by decide +kernel) ⟨by decide +kernel, by decide +kernel⟩ (sp_pl [] [0, 1, 2, 3, 4] rfl rfl rfl rfl rfl) rfl rfl (Nat.le_of_ble_eq_true rfl) dX12_attribute_37 ⟨by decide +kernel, by decide +kernel⟩ (fun r_117 u_115 hp_116 => ?_)
            subst hp_116
            show V _ _ _ _ _ _ _ _ _ _ _ _ _ _ (0, 0) [(h, .inr (12, fsM q 0 0 0 0 0)), ((q 100), .inl (K 0, 2, .inl (gl [0, 0]))), ((q 101), .inl (K 0, 40, .inl (fun _ => 0))), ((q 102), .inl (K 0, 40, .inl (fun _ => 0))), ((q 103), .inl (K 0, 40, .inl (fun _ => 0)))] _ _ [.int 0]
            show V _ _ _ _ _ _ _ _ _ _ _ _ _ _ (0, 0) [(h, .inr (12, fsM q 0 0 0 0 0)), ((q 100), .inl (K 0, 2, .inl (gl [0, 0]))), ((q 101), .inl (K 0, 40, .inl (fun _ => 0))), ((q 102), .inl (K 0, 40, .inl (fun _ => 0))), ((q 103), .inl (K 0, 40, .inl (fun _ => 0)))] _ _ _
            refine v_if_eq B (tgt := 52) dX12_attribute_40 (by decide +kernel) (fun _ => ?_) (fun h => absurd (by decide +kernel) h)
            refine v_iconst B (v := (-1)) dX12_attribute_52 (by decide +kernel) ?_
            refine v_forget (wc := []) (wr := []) (sp_pl [] [] rfl rfl rfl rfl rfl) ?_
            exact v_iret B hr hlk () (by simp [an_attribute, e_ty, (rg_ngt (Int32.not_le.mp f_ty) (by decide +kernel) : ¬ 65535 < ty), e_rg]) rfl (by decide +kernel) (by decide +kernel) dX12_attribute_53
          · skip
            by_cases f_rg : 8 ≤ rg
            · skip
              refine v_aload_n B dX12_attribute_0 rfl rfl ?_
              refine v_iconst B (v := 0) dX12_attribute_1 (by decide +kernel) ?_
              refine v_put B (C := RX12) (T := TX12) (N := 123) (ci := 12) (k0 := 0) hi_y_attribute_X12 rfl rfl 0 (by decide +kernel) tyX12 tyX12_ok nmX12 (List.mem_of_getElem? (i := 1) rfl) rfl (ty := .int) (tyX12_ok 0 (by decide +kernel)) rfl rfl (Nat.le_of_ble_eq_true rfl) (w' := [(h, .inr (12, fsM q 0 0 0 0 0)), ((q 100), .inl (K 0, 2, .inl (gl [0, 0]))), ((q 101), .inl (K 0, 40, .inl (fun _ => 0))), ((q 102), .inl (K 0, 40, .inl (fun _ => 0))), ((q 103), .inl (K 0, 40, .inl (fun _ => 0)))]) rfl dX12_attribute_2 ?_
              refine v_iload_n B dX12_attribute_5 rfl rfl ?_
              refine v_iconst B (v := 2) dX12_attribute_6 (by decide +kernel) ?_
              refine v_callSi B (n := 2) (As := [.int 1, .int 2]) (rest := []) (wc := []) (wr := [(h, .inr (12, fsM q 0 0 0 0 0)), ((q 100), .inl (K 0, 2, .inl (gl [0, 0]))), ((q 101), .inl (K 0, 40, .inl (fun _ => 0))), ((q 102), .inl (K 0, 40, .inl (fun _ => 0))), ((q 103), .inl (K 0, 40, .inl (fun _ => 0)))]) (m_in_T l D K 1 2 (by decide +kernel) (by decide +kernel)) gd_y_attribute_m_in_T_413 rfl rfl rfl (by decide +kernel) ⟨by decide +kernel, by decide +kernel⟩ (sp_pl [] [0, 1, 2, 3, 4] rfl rfl rfl rfl rfl) rfl rfl (Nat.le_of_ble_eq_true rfl) dX12_attribute_7 ⟨by decide +kernel, by decide +kernel⟩ (fun r_120 u_118 hp_119 => ?_)
              subst hp_119
              show V _ _ _ _ _ _ _ _ _ _ _ _ _ _ (0, 0) [(h, .inr (12, fsM q 0 0 0 0 0)), ((q 100), .inl (K 0, 2, .inl (gl [0, 0]))), ((q 101), .inl (K 0, 40, .inl (fun _ => 0))), ((q 102), .inl (K 0, 40, .inl (fun _ => 0))), ((q 103), .inl (K 0, 40, .inl (fun _ => 0)))] _ _ [.int 1]
              show V _ _ _ _ _ _ _ _ _ _ _ _ _ _ (0, 0) [(h, .inr (12, fsM q 0 0 0 0 0)), ((q 100), .inl (K 0, 2, .inl (gl [0, 0]))), ((q 101), .inl (K 0, 40, .inl (fun _ => 0))), ((q 102), .inl (K 0, 40, .inl (fun _ => 0))), ((q 103), .inl (K 0, 40, .inl (fun _ => 0)))] _ _ _
              refine v_if_eq B (tgt := 52) dX12_attribute_10 (by decide +kernel) (fun h => absurd h (by decide +kernel)) (fun _ => ?_)
              refine v_aload_n B dX12_attribute_13 rfl rfl ?_
              refine v_get B (C := RX12) (T := TX12) (N := 123) (ci := 12) (k0 := 0) hi_y_attribute_X12 rfl rfl 100 (by decide +kernel) (List.mem_of_getElem? (i := 6) rfl) rfl dX12_attribute_14 ?_
              refine v_iload_n B dX12_attribute_17 rfl rfl ?_
              refine v_iald B (k0 := 1) (t0 := 0) (v := 0) rfl rfl (vpi (by decide +kernel)) rfl dX12_attribute_18 ?_
              refine v_bipush B (v := 20) dX12_attribute_19 (by decide +kernel) ?_
              refine v_icmp_eq B (tgt := 52) dX12_attribute_21 (by decide +kernel) (fun h => absurd h (by decide +kernel)) (fun _ => ?_)
              refine v_iload_n B dX12_attribute_24 rfl rfl ?_
              refine v_ldcw B (v := 65536) (List.mem_of_getElem? (i := 7) rfl) dX12_attribute_25 ?_
              refine v_callSi B (n := 2) (As := [.int ty, .int 65536]) (rest := []) (wc := []) (wr := [(h, .inr (12, fsM q 0 0 0 0 0)), ((q 100), .inl (K 0, 2, .inl (gl [0, 0]))), ((q 101), .inl (K 0, 40, .inl (fun _ => 0))), ((q 102), .inl (K 0, 40, .inl (fun _ => 0))), ((q 103), .inl (K 0, 40, .inl (fun _ => 0)))]) (m_in_T l D K ty 65536 e_ty f_ty) gd_y_attribute_m_in_T_413 rfl rfl rfl (by decide +kernel) ⟨by decide +kernel, by decide +kernel⟩ (sp_pl [] [0, 1, 2, 3, 4] rfl rfl rfl rfl rfl) rfl rfl (Nat.le_of_ble_eq_true rfl) dX12_attribute_28 ⟨by decide +kernel, by decide +kernel⟩ (fun r_123 u_121 hp_122 => ?_)
              subst hp_122
              show V _ _ _ _ _ _ _ _ _ _ _ _ _ _ (0, 0) [(h, .inr (12, fsM q 0 0 0 0 0)), ((q 100), .inl (K 0, 2, .inl (gl [0, 0]))), ((q 101), .inl (K 0, 40, .inl (fun _ => 0))), ((q 102), .inl (K 0, 40, .inl (fun _ => 0))), ((q 103), .inl (K 0, 40, .inl (fun _ => 0)))] _ _ [.int 1]
              show V _ _ _ _ _ _ _ _ _ _ _ _ _ _ (0, 0) [(h, .inr (12, fsM q 0 0 0 0 0)), ((q 100), .inl (K 0, 2, .inl (gl [0, 0]))), ((q 101), .inl (K 0, 40, .inl (fun _ => 0))), ((q 102), .inl (K 0, 40, .inl (fun _ => 0))), ((q 103), .inl (K 0, 40, .inl (fun _ => 0)))] _ _ _
              refine v_if_eq B (tgt := 52) dX12_attribute_31 (by decide +kernel) (fun h => absurd h (by decide +kernel)) (fun _ => ?_)
              refine v_iload_n B dX12_attribute_34 rfl rfl ?_
              refine v_bipush B (v := 8) dX12_attribute_35 (by decide +kernel) ?_
              refine v_callSi B (n := 2) (As := [.int rg, .int 8]) (rest := []) (wc := []) (wr := [(h, .inr (12, fsM q 0 0 0 0 0)), ((q 100), .inl (K 0, 2, .inl (gl [0, 0]))), ((q 101), .inl (K 0, 40, .inl (fun _ => 0))), ((q 102), .inl (K 0, 40, .inl (fun _ => 0))), ((q 103), .inl (K 0, 40, .inl (fun _ => 0)))]) (m_in_F2 l D K rg 8 (rg_nlt f_rg (by decide +kernel)) (rg_ge f_rg (by decide +kernel))) gd_y_attribute_m_in_F2_413 rfl rfl rfl (by decide +kernel) ⟨by decide +kernel, by decide +kernel⟩ (sp_pl [] [0, 1, 2, 3, 4] rfl rfl rfl rfl rfl) rfl rfl (Nat.le_of_ble_eq_true rfl) dX12_attribute_37 ⟨by decide +kernel, by decide +kernel⟩ (fun r_126 u_124 hp_125 => ?_)
              subst hp_125
              show V _ _ _ _ _ _ _ _ _ _ _ _ _ _ (0, 0) [(h, .inr (12, fsM q 0 0 0 0 0)), ((q 100), .inl (K 0, 2, .inl (gl [0, 0]))), ((q 101), .inl (K 0, 40, .inl (fun _ => 0))), ((q 102), .inl (K 0, 40, .inl (fun _ => 0))), ((q 103), .inl (K 0, 40, .inl (fun _ => 0)))] _ _ [.int 0]
              show V _ _ _ _ _ _ _ _ _ _ _ _ _ _ (0, 0) [(h, .inr (12, fsM q 0 0 0 0 0)), ((q 100), .inl (K 0, 2, .inl (gl [0, 0]))), ((q 101), .inl (K 0, 40, .inl (fun _ => 0))), ((q 102), .inl (K 0, 40, .inl (fun _ => 0))), ((q 103), .inl (K 0, 40, .inl (fun _ => 0)))] _ _ _
              refine v_if_eq B (tgt := 52) dX12_attribute_40 (by decide +kernel) (fun _ => ?_) (fun h => absurd (by decide +kernel) h)
              refine v_iconst B (v := (-1)) dX12_attribute_52 (by decide +kernel) ?_
              refine v_forget (wc := []) (wr := []) (sp_pl [] [] rfl rfl rfl rfl rfl) ?_
              exact v_iret B hr hlk () (by simp [an_attribute, e_ty, (rg_ngt (Int32.not_le.mp f_ty) (by decide +kernel) : ¬ 65535 < ty), e_rg, (rg_gt f_rg (by decide +kernel) : 7 < rg)]) rfl (by decide +kernel) (by decide +kernel) dX12_attribute_53
            · skip
              refine v_aload_n B dX12_attribute_0 rfl rfl ?_
              refine v_iconst B (v := 0) dX12_attribute_1 (by decide +kernel) ?_
              refine v_put B (C := RX12) (T := TX12) (N := 123) (ci := 12) (k0 := 0) hi_y_attribute_X12 rfl rfl 0 (by decide +kernel) tyX12 tyX12_ok nmX12 (List.mem_of_getElem? (i := 1) rfl) rfl (ty := .int) (tyX12_ok 0 (by decide +kernel)) rfl rfl (Nat.le_of_ble_eq_true rfl) (w' := [(h, .inr (12, fsM q 0 0 0 0 0)), ((q 100), .inl (K 0, 2, .inl (gl [0, 0]))), ((q 101), .inl (K 0, 40, .inl (fun _ => 0))), ((q 102), .inl (K 0, 40, .inl (fun _ => 0))), ((q 103), .inl (K 0, 40, .inl (fun _ => 0)))]) rfl dX12_attribute_2 ?_
              refine v_iload_n B dX12_attribute_5 rfl rfl ?_
              refine v_iconst B (v := 2) dX12_attribute_6 (by decide +kernel) ?_
              refine v_callSi B (n := 2) (As := [.int 1, .int 2]) (rest := []) (wc := []) (wr := [(h, .inr (12, fsM q 0 0 0 0 0)), ((q 100), .inl (K 0, 2, .inl (gl [0, 0]))), ((q 101), .inl (K 0, 40, .inl (fun _ => 0))), ((q 102), .inl (K 0, 40, .inl (fun _ => 0))), ((q 103), .inl (K 0, 40, .inl (fun _ => 0)))]) (m_in_T l D K 1 2 (by decide +kernel) (by decide +kernel)) gd_y_attribute_m_in_T_413 rfl rfl rfl (by decide +kernel) ⟨by decide +kernel, by decide +kernel⟩ (sp_pl [] [0, 1, 2, 3, 4] rfl rfl rfl rfl rfl) rfl rfl (Nat.le_of_ble_eq_true rfl) dX12_attribute_7 ⟨by decide +kernel, by decide +kernel⟩ (fun r_129 u_127 hp_128 => ?_)
              subst hp_128
              show V _ _ _ _ _ _ _ _ _ _ _ _ _ _ (0, 0) [(h, .inr (12, fsM q 0 0 0 0 0)), ((q 100), .inl (K 0, 2, .inl (gl [0, 0]))), ((q 101), .inl (K 0, 40, .inl (fun _ => 0))), ((q 102), .inl (K 0, 40, .inl (fun _ => 0))), ((q 103), .inl (K 0, 40, .inl (fun _ => 0)))] _ _ [.int 1]
              show V _ _ _ _ _ _ _ _ _ _ _ _ _ _ (0, 0) [(h, .inr (12, fsM q 0 0 0 0 0)), ((q 100), .inl (K 0, 2, .inl (gl [0, 0]))), ((q 101), .inl (K 0, 40, .inl (fun _ => 0))), ((q 102), .inl (K 0, 40, .inl (fun _ => 0))), ((q 103), .inl (K 0, 40, .inl (fun _ => 0)))] _ _ _
              refine v_if_eq B (tgt := 52) dX12_attribute_10 (by decide +kernel) (fun h => absurd h (by decide +kernel)) (fun _ => ?_)
              refine v_aload_n B dX12_attribute_13 rfl rfl ?_
              refine v_get B (C := RX12) (T := TX12) (N := 123) (ci := 12) (k0 := 0) hi_y_attribute_X12 rfl rfl 100 (by decide +kernel) (List.mem_of_getElem? (i := 6) rfl) rfl dX12_attribute_14 ?_
              refine v_iload_n B dX12_attribute_17 rfl rfl ?_
              refine v_iald B (k0 := 1) (t0 := 0) (v := 0) rfl rfl (vpi (by decide +kernel)) rfl dX12_attribute_18 ?_
              refine v_bipush B (v := 20) dX12_attribute_19 (by decide +kernel) ?_
              refine v_icmp_eq B (tgt := 52) dX12_attribute_21 (by decide +kernel) (fun h => absurd h (by decide +kernel)) (fun _ => ?_)
              refine v_iload_n B dX12_attribute_24 rfl rfl ?_
              refine v_ldcw B (v := 65536) (List.mem_of_getElem? (i := 7) rfl) dX12_attribute_25 ?_
              refine v_callSi B (n := 2) (As := [.int ty, .int 65536]) (rest := []) (wc := []) (wr := [(h, .inr (12, fsM q 0 0 0 0 0)), ((q 100), .inl (K 0, 2, .inl (gl [0, 0]))), ((q 101), .inl (K 0, 40, .inl (fun _ => 0))), ((q 102), .inl (K 0, 40, .inl (fun _ => 0))), ((q 103), .inl (K 0, 40, .inl (fun _ => 0)))]) (m_in_T l D K ty 65536 e_ty f_ty) gd_y_attribute_m_in_T_413 rfl rfl rfl (by decide +kernel) ⟨by decide +kernel, by decide +kernel⟩ (sp_pl [] [0, 1, 2, 3, 4] rfl rfl rfl rfl rfl) rfl rfl (Nat.le_of_ble_eq_true rfl) dX12_attribute_28 ⟨by decide +kernel, by decide +kernel⟩ (fun r_132 u_130 hp_131 => ?_)
              subst hp_131
              show V _ _ _ _ _ _ _ _ _ _ _ _ _ _ (0, 0) [(h, .inr (12, fsM q 0 0 0 0 0)), ((q 100), .inl (K 0, 2, .inl (gl [0, 0]))), ((q 101), .inl (K 0, 40, .inl (fun _ => 0))), ((q 102), .inl (K 0, 40, .inl (fun _ => 0))), ((q 103), .inl (K 0, 40, .inl (fun _ => 0)))] _ _ [.int 1]
              show V _ _ _ _ _ _ _ _ _ _ _ _ _ _ (0, 0) [(h, .inr (12, fsM q 0 0 0 0 0)), ((q 100), .inl (K 0, 2, .inl (gl [0, 0]))), ((q 101), .inl (K 0, 40, .inl (fun _ => 0))), ((q 102), .inl (K 0, 40, .inl (fun _ => 0))), ((q 103), .inl (K 0, 40, .inl (fun _ => 0)))] _ _ _
              refine v_if_eq B (tgt := 52) dX12_attribute_31 (by decide +kernel) (fun h => absurd h (by decide +kernel)) (fun _ => ?_)
              refine v_iload_n B dX12_attribute_34 rfl rfl ?_
              refine v_bipush B (v := 8) dX12_attribute_35 (by decide +kernel) ?_
              refine v_callSi B (n := 2) (As := [.int rg, .int 8]) (rest := []) (wc := []) (wr := [(h, .inr (12, fsM q 0 0 0 0 0)), ((q 100), .inl (K 0, 2, .inl (gl [0, 0]))), ((q 101), .inl (K 0, 40, .inl (fun _ => 0))), ((q 102), .inl (K 0, 40, .inl (fun _ => 0))), ((q 103), .inl (K 0, 40, .inl (fun _ => 0)))]) (m_in_T l D K rg 8 e_rg f_rg) gd_y_attribute_m_in_T_413 rfl rfl rfl (by decide +kernel) ⟨by decide +kernel, by decide +kernel⟩ (sp_pl [] [0, 1, 2, 3, 4] rfl rfl rfl rfl rfl) rfl rfl (Nat.le_of_ble_eq_true rfl) dX12_attribute_37 ⟨by decide +kernel, by decide +kernel⟩ (fun r_135 u_133 hp_134 => ?_)
              subst hp_134
              show V _ _ _ _ _ _ _ _ _ _ _ _ _ _ (0, 0) [(h, .inr (12, fsM q 0 0 0 0 0)), ((q 100), .inl (K 0, 2, .inl (gl [0, 0]))), ((q 101), .inl (K 0, 40, .inl (fun _ => 0))), ((q 102), .inl (K 0, 40, .inl (fun _ => 0))), ((q 103), .inl (K 0, 40, .inl (fun _ => 0)))] _ _ [.int 1]
              show V _ _ _ _ _ _ _ _ _ _ _ _ _ _ (0, 0) [(h, .inr (12, fsM q 0 0 0 0 0)), ((q 100), .inl (K 0, 2, .inl (gl [0, 0]))), ((q 101), .inl (K 0, 40, .inl (fun _ => 0))), ((q 102), .inl (K 0, 40, .inl (fun _ => 0))), ((q 103), .inl (K 0, 40, .inl (fun _ => 0)))] _ _ _
              refine v_if_eq B (tgt := 52) dX12_attribute_40 (by decide +kernel) (fun h => absurd h (by decide +kernel)) (fun _ => ?_)
              refine v_aload_n B dX12_attribute_43 rfl rfl ?_
              refine v_get B (C := RX12) (T := TX12) (N := 123) (ci := 12) (k0 := 0) hi_y_attribute_X12 rfl rfl 2 (by decide +kernel) (List.mem_of_getElem? (i := 8) rfl) rfl dX12_attribute_44 ?_
              refine v_bipush B (v := 40) dX12_attribute_47 (by decide +kernel) ?_
              refine v_icmp_le B (tgt := 54) dX12_attribute_49 (by decide +kernel) (fun _ => ?_) (fun h => absurd (by decide +kernel) h)
              refine v_aload_n B dX12_attribute_54 rfl rfl ?_
              refine v_get B (C := RX12) (T := TX12) (N := 123) (ci := 12) (k0 := 0) hi_y_attribute_X12 rfl rfl 100 (by decide +kernel) (List.mem_of_getElem? (i := 6) rfl) rfl dX12_attribute_55 ?_
              refine v_iload_n B dX12_attribute_58 rfl rfl ?_
              refine v_dup2 B dX12_attribute_59 rfl rfl ?_
              refine v_iald B (k0 := 1) (t0 := 0) (v := 0) rfl rfl (vpi (by decide +kernel)) rfl dX12_attribute_60 ?_
              refine v_iconst B (v := 1) dX12_attribute_61 (by decide +kernel) ?_
              refine v_iadd B (v := 1) dX12_attribute_62 (by decide +kernel) ?_
              refine v_iastL B (k0 := 1) (t0 := 0) (k := 1) (y := 1) (w' := [(h, .inr (12, fsM q 0 0 0 0 0)), ((q 100), .inl (K 0, 2, .inl (gl [0, 1]))), ((q 101), .inl (K 0, 40, .inl (fun _ => 0))), ((q 102), .inl (K 0, 40, .inl (fun _ => 0))), ((q 103), .inl (K 0, 40, .inl (fun _ => 0)))]) rfl rfl (vpi (by decide +kernel)) (by decide +kernel) (Nat.le_of_ble_eq_true rfl) rfl rfl dX12_attribute_63 ?_
              refine v_aload_n B dX12_attribute_64 rfl rfl ?_
              refine v_get B (C := RX12) (T := TX12) (N := 123) (ci := 12) (k0 := 0) hi_y_attribute_X12 rfl rfl 100 (by decide +kernel) (List.mem_of_getElem? (i := 6) rfl) rfl dX12_attribute_65 ?_
              refine v_iload_n B dX12_attribute_68 rfl rfl ?_
              refine v_iald B (k0 := 1) (t0 := 0) (v := 1) rfl rfl (vpi (by decide +kernel)) rfl dX12_attribute_69 ?_
              refine v_istore B (lv' := [(4, .int 1), (0, .ref h), (1, .int 1), (2, .int ty), (3, .int rg)]) dX12_attribute_70 (by decide +kernel) rfl ?_
              refine v_aload_n B dX12_attribute_72 rfl rfl ?_
              refine v_get B (C := RX12) (T := TX12) (N := 123) (ci := 12) (k0 := 0) hi_y_attribute_X12 rfl rfl 101 (by decide +kernel) (List.mem_of_getElem? (i := 9) rfl) rfl dX12_attribute_73 ?_
              refine v_aload_n B dX12_attribute_76 rfl rfl ?_
              refine v_iload_n B dX12_attribute_77 rfl rfl ?_
              refine v_iload B dX12_attribute_78 rfl ?_
              refine v_callVi B (b := h) (n := 2) (As := [.int 1, .int 1]) (rest := [.ref (q 101)]) (wc := [(h, .inr (12, fsM q 0 0 0 0 0))]) (wr := [((q 100), .inl (K 0, 2, .inl (gl [0, 1]))), ((q 101), .inl (K 0, 40, .inl (fun _ => 0))), ((q 102), .inl (K 0, 40, .inl (fun _ => 0))), ((q 103), .inl (K 0, 40, .inl (fun _ => 0)))]) (m_row_1 l D K h q fa sa) gd_y_attribute_m_row_1_547 rfl rfl rfl (by decide +kernel) ⟨by decide +kernel, by decide +kernel⟩ 0 rfl rfl rfl (sp_pl [0] [1, 2, 3, 4] rfl rfl rfl rfl rfl) rfl rfl (Nat.le_of_ble_eq_true rfl) dX12_attribute_80 ⟨by decide +kernel, by decide +kernel⟩ (fun r_138 u_136 hp_137 => ?_)
              subst hp_137
              show V _ _ _ _ _ _ _ _ _ _ _ _ _ _ (0, 0) [((q 100), .inl (K 0, 2, .inl (gl [0, 1]))), ((q 101), .inl (K 0, 40, .inl (fun _ => 0))), ((q 102), .inl (K 0, 40, .inl (fun _ => 0))), ((q 103), .inl (K 0, 40, .inl (fun _ => 0))), (h, .inr (12, fsM q 0 0 0 0 0))] _ _ [.int 20, .ref (q 101)]
              show V _ _ _ _ _ _ _ _ _ _ _ _ _ _ (0, 0) [((q 100), .inl (K 0, 2, .inl (gl [0, 1]))), ((q 101), .inl (K 0, 40, .inl (fun _ => 0))), ((q 102), .inl (K 0, 40, .inl (fun _ => 0))), ((q 103), .inl (K 0, 40, .inl (fun _ => 0))), (h, .inr (12, fsM q 0 0 0 0 0))] _ _ _
              refine v_iload_n B dX12_attribute_83 rfl rfl ?_
              refine v_iast B (k0 := 1) (t0 := 0) (w' := [((q 100), .inl (K 0, 2, .inl (gl [0, 1]))), ((q 101), .inl (K 0, 40, .inl (upd (fun _ => 0) (20 : Int32).toNatClampNeg ty))), ((q 102), .inl (K 0, 40, .inl (fun _ => 0))), ((q 103), .inl (K 0, 40, .inl (fun _ => 0))), (h, .inr (12, fsM q 0 0 0 0 0))]) rfl rfl (vpi (by decide +kernel)) rfl dX12_attribute_84 ?_
              refine v_aload_n B dX12_attribute_85 rfl rfl ?_
              refine v_get B (C := RX12) (T := TX12) (N := 123) (ci := 12) (k0 := 4) hi_y_attribute_X12 rfl rfl 102 (by decide +kernel) (List.mem_of_getElem? (i := 14) rfl) rfl dX12_attribute_86 ?_
              refine v_aload_n B dX12_attribute_89 rfl rfl ?_
              refine v_iload_n B dX12_attribute_90 rfl rfl ?_
              refine v_iload B dX12_attribute_91 rfl ?_
              refine v_callVi B (b := h) (n := 2) (As := [.int 1, .int 1]) (rest := [.ref (q 102)]) (wc := [(h, .inr (12, fsM q 0 0 0 0 0))]) (wr := [((q 100), .inl (K 0, 2, .inl (gl [0, 1]))), ((q 101), .inl (K 0, 40, .inl (upd (fun _ => 0) (20 : Int32).toNatClampNeg ty))), ((q 102), .inl (K 0, 40, .inl (fun _ => 0))), ((q 103), .inl (K 0, 40, .inl (fun _ => 0)))]) (m_row_1 l D K h q fa sa) gd_y_attribute_m_row_1_547 rfl rfl rfl (by decide +kernel) ⟨by decide +kernel, by decide +kernel⟩ 0 rfl rfl rfl (sp_pl [4] [0, 1, 2, 3] rfl rfl rfl rfl rfl) rfl rfl (Nat.le_of_ble_eq_true rfl) dX12_attribute_93 ⟨by decide +kernel, by decide +kernel⟩ (fun r_141 u_139 hp_140 => ?_)
              subst hp_140
              show V _ _ _ _ _ _ _ _ _ _ _ _ _ _ (0, 0) [((q 100), .inl (K 0, 2, .inl (gl [0, 1]))), ((q 101), .inl (K 0, 40, .inl (upd (fun _ => 0) (20 : Int32).toNatClampNeg ty))), ((q 102), .inl (K 0, 40, .inl (fun _ => 0))), ((q 103), .inl (K 0, 40, .inl (fun _ => 0))), (h, .inr (12, fsM q 0 0 0 0 0))] _ _ [.int 20, .ref (q 102)]
              show V _ _ _ _ _ _ _ _ _ _ _ _ _ _ (0, 0) [((q 100), .inl (K 0, 2, .inl (gl [0, 1]))), ((q 101), .inl (K 0, 40, .inl (upd (fun _ => 0) (20 : Int32).toNatClampNeg ty))), ((q 102), .inl (K 0, 40, .inl (fun _ => 0))), ((q 103), .inl (K 0, 40, .inl (fun _ => 0))), (h, .inr (12, fsM q 0 0 0 0 0))] _ _ _
              refine v_iload_n B dX12_attribute_96 rfl rfl ?_
              refine v_iast B (k0 := 2) (t0 := 0) (w' := [((q 100), .inl (K 0, 2, .inl (gl [0, 1]))), ((q 101), .inl (K 0, 40, .inl (upd (fun _ => 0) (20 : Int32).toNatClampNeg ty))), ((q 102), .inl (K 0, 40, .inl (upd (fun _ => 0) (20 : Int32).toNatClampNeg rg))), ((q 103), .inl (K 0, 40, .inl (fun _ => 0))), (h, .inr (12, fsM q 0 0 0 0 0))]) rfl rfl (vpi (by decide +kernel)) rfl dX12_attribute_97 ?_
              refine v_aload_n B dX12_attribute_98 rfl rfl ?_
              refine v_iload_n B dX12_attribute_99 rfl rfl ?_
              refine v_iload B dX12_attribute_100 rfl ?_
              refine v_callVv B (b := h) (n := 2) (As := [.int 1, .int 1]) (rest := []) (wc := [(h, .inr (12, fsM q 0 0 0 0 0)), ((q 103), .inl (K 0, 40, .inl (fun _ => 0)))]) (wr := [((q 100), .inl (K 0, 2, .inl (gl [0, 1]))), ((q 101), .inl (K 0, 40, .inl (upd (fun _ => 0) (20 : Int32).toNatClampNeg ty))), ((q 102), .inl (K 0, 40, .inl (upd (fun _ => 0) (20 : Int32).toNatClampNeg rg)))]) (m_becomes_1 l D K h q fa sa) gd_y_attribute_m_becomes_1_688 rfl rfl rfl (by decide +kernel) ⟨by decide +kernel, by decide +kernel⟩ 0 rfl rfl rfl (sp_pl [4, 3] [0, 1, 2] rfl rfl rfl rfl rfl) rfl rfl (Nat.le_of_ble_eq_true rfl) dX12_attribute_102 ⟨by decide +kernel, by decide +kernel⟩ (fun u_142 hp_143 => ?_)
              show V _ _ _ _ _ _ _ _ _ _ _ _ _ _ (0, 0) [((q 100), .inl (K 0, 2, .inl (gl [0, 1]))), ((q 101), .inl (K 0, 40, .inl (upd (fun _ => 0) (20 : Int32).toNatClampNeg ty))), ((q 102), .inl (K 0, 40, .inl (upd (fun _ => 0) (20 : Int32).toNatClampNeg rg)))] _ _ _
              refine v_iload B dX12_attribute_105 rfl ?_
              refine v_forget (wc := []) (wr := []) (sp_pl [] [] rfl rfl rfl rfl rfl) ?_
              exact v_iret B hr hlk () (by simp [an_attribute, e_ty, (rg_ngt (Int32.not_le.mp f_ty) (by decide +kernel) : ¬ 65535 < ty), e_rg, (rg_ngt (Int32.not_le.mp f_rg) (by decide +kernel) : ¬ 7 < rg)]) rfl (by decide +kernel) (by decide +kernel) dX12_attribute_107
    · skip
      by_cases e1 : d < 0
      · skip
        refine v_aload_n B dX12_attribute_0 rfl rfl ?_
        refine v_iconst B (v := 0) dX12_attribute_1 (by decide +kernel) ?_
        refine v_put B (C := RX12) (T := TX12) (N := 123) (ci := 12) (k0 := 0) hi_y_attribute_X12 rfl rfl 0 (by decide +kernel) tyX12 tyX12_ok nmX12 (List.mem_of_getElem? (i := 1) rfl) rfl (ty := .int) (tyX12_ok 0 (by decide +kernel)) rfl rfl (Nat.le_of_ble_eq_true rfl) (w' := [(h, .inr (12, fsM q 0 0 0 0 0)), ((q 100), .inl (K 0, 2, .inl (gl [0, 0]))), ((q 101), .inl (K 0, 40, .inl (fun _ => 0))), ((q 102), .inl (K 0, 40, .inl (fun _ => 0))), ((q 103), .inl (K 0, 40, .inl (fun _ => 0)))]) rfl dX12_attribute_2 ?_
        refine v_iload_n B dX12_attribute_5 rfl rfl ?_
        refine v_iconst B (v := 2) dX12_attribute_6 (by decide +kernel) ?_
        refine v_callSi B (n := 2) (As := [.int d, .int 2]) (rest := []) (wc := []) (wr := [(h, .inr (12, fsM q 0 0 0 0 0)), ((q 100), .inl (K 0, 2, .inl (gl [0, 0]))), ((q 101), .inl (K 0, 40, .inl (fun _ => 0))), ((q 102), .inl (K 0, 40, .inl (fun _ => 0))), ((q 103), .inl (K 0, 40, .inl (fun _ => 0)))]) (m_in_F1 l D K d 2 e1) gd_y_attribute_m_in_F1_413 rfl rfl rfl (by decide +kernel) ⟨by decide +kernel, by decide +kernel⟩ (sp_pl [] [0, 1, 2, 3, 4] rfl rfl rfl rfl rfl) rfl rfl (Nat.le_of_ble_eq_true rfl) dX12_attribute_7 ⟨by decide +kernel, by decide +kernel⟩ (fun r_147 u_145 hp_146 => ?_)
        subst hp_146
        show V _ _ _ _ _ _ _ _ _ _ _ _ _ _ (0, 0) [(h, .inr (12, fsM q 0 0 0 0 0)), ((q 100), .inl (K 0, 2, .inl (gl [0, 0]))), ((q 101), .inl (K 0, 40, .inl (fun _ => 0))), ((q 102), .inl (K 0, 40, .inl (fun _ => 0))), ((q 103), .inl (K 0, 40, .inl (fun _ => 0)))] _ _ [.int 0]
        show V _ _ _ _ _ _ _ _ _ _ _ _ _ _ (0, 0) [(h, .inr (12, fsM q 0 0 0 0 0)), ((q 100), .inl (K 0, 2, .inl (gl [0, 0]))), ((q 101), .inl (K 0, 40, .inl (fun _ => 0))), ((q 102), .inl (K 0, 40, .inl (fun _ => 0))), ((q 103), .inl (K 0, 40, .inl (fun _ => 0)))] _ _ _
        refine v_if_eq B (tgt := 52) dX12_attribute_10 (by decide +kernel) (fun _ => ?_) (fun h => absurd (by decide +kernel) h)
        refine v_iconst B (v := (-1)) dX12_attribute_52 (by decide +kernel) ?_
        refine v_forget (wc := []) (wr := []) (sp_pl [] [] rfl rfl rfl rfl rfl) ?_
        exact v_iret B hr hlk () (by simp [an_attribute, h0, h1]) rfl (by decide +kernel) (by decide +kernel) dX12_attribute_53
      · skip
        refine v_aload_n B dX12_attribute_0 rfl rfl ?_
        refine v_iconst B (v := 0) dX12_attribute_1 (by decide +kernel) ?_
        refine v_put B (C := RX12) (T := TX12) (N := 123) (ci := 12) (k0 := 0) hi_y_attribute_X12 rfl rfl 0 (by decide +kernel) tyX12 tyX12_ok nmX12 (List.mem_of_getElem? (i := 1) rfl) rfl (ty := .int) (tyX12_ok 0 (by decide +kernel)) rfl rfl (Nat.le_of_ble_eq_true rfl) (w' := [(h, .inr (12, fsM q 0 0 0 0 0)), ((q 100), .inl (K 0, 2, .inl (gl [0, 0]))), ((q 101), .inl (K 0, 40, .inl (fun _ => 0))), ((q 102), .inl (K 0, 40, .inl (fun _ => 0))), ((q 103), .inl (K 0, 40, .inl (fun _ => 0)))]) rfl dX12_attribute_2 ?_
        refine v_iload_n B dX12_attribute_5 rfl rfl ?_
        refine v_iconst B (v := 2) dX12_attribute_6 (by decide +kernel) ?_
        refine v_callSi B (n := 2) (As := [.int d, .int 2]) (rest := []) (wc := []) (wr := [(h, .inr (12, fsM q 0 0 0 0 0)), ((q 100), .inl (K 0, 2, .inl (gl [0, 0]))), ((q 101), .inl (K 0, 40, .inl (fun _ => 0))), ((q 102), .inl (K 0, 40, .inl (fun _ => 0))), ((q 103), .inl (K 0, 40, .inl (fun _ => 0)))]) (m_in_F2 l D K d 2 (rg_nlt (i_ge2 h0 h1 e1) (by decide +kernel)) (rg_ge (i_ge2 h0 h1 e1) (by decide +kernel))) gd_y_attribute_m_in_F2_413 rfl rfl rfl (by decide +kernel) ⟨by decide +kernel, by decide +kernel⟩ (sp_pl [] [0, 1, 2, 3, 4] rfl rfl rfl rfl rfl) rfl rfl (Nat.le_of_ble_eq_true rfl) dX12_attribute_7 ⟨by decide +kernel, by decide +kernel⟩ (fun r_150 u_148 hp_149 => ?_)
        subst hp_149
        show V _ _ _ _ _ _ _ _ _ _ _ _ _ _ (0, 0) [(h, .inr (12, fsM q 0 0 0 0 0)), ((q 100), .inl (K 0, 2, .inl (gl [0, 0]))), ((q 101), .inl (K 0, 40, .inl (fun _ => 0))), ((q 102), .inl (K 0, 40, .inl (fun _ => 0))), ((q 103), .inl (K 0, 40, .inl (fun _ => 0)))] _ _ [.int 0]
        show V _ _ _ _ _ _ _ _ _ _ _ _ _ _ (0, 0) [(h, .inr (12, fsM q 0 0 0 0 0)), ((q 100), .inl (K 0, 2, .inl (gl [0, 0]))), ((q 101), .inl (K 0, 40, .inl (fun _ => 0))), ((q 102), .inl (K 0, 40, .inl (fun _ => 0))), ((q 103), .inl (K 0, 40, .inl (fun _ => 0)))] _ _ _
        refine v_if_eq B (tgt := 52) dX12_attribute_10 (by decide +kernel) (fun _ => ?_) (fun h => absurd (by decide +kernel) h)
        refine v_iconst B (v := (-1)) dX12_attribute_52 (by decide +kernel) ?_
        refine v_forget (wc := []) (wr := []) (sp_pl [] [] rfl rfl rfl rfl rfl) ?_
        exact v_iret B hr hlk () (by simp [an_attribute, h0, h1]) rfl (by decide +kernel) (by decide +kernel) dX12_attribute_53
