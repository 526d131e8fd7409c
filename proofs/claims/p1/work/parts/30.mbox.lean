def wp_m_twice : List Cond := .code yX12_twice cX12_twice 1 (some .int) :: ([] ++ ([]))
set_option maxHeartbeats 4000000 in
set_option maxRecDepth 100000 in
/-- twice: some number -/
theorem m_twice (l : Launch) (D : va_G) (K : Nat → ClassId) (v : Int32) : MG l yX12_twice wp_m_twice ({ frames := 0, cells := 0, slots := 0, locals := 0 }) D (tysA K) [.int v] [] (Qi D (fun (_ : Int32) (_ : Unit) => True) (fun _ => [])) 0 0 := by
  refine mg_of (cc := cX12_twice) (maxL := 1) (ret := (some .int)) (by decide +kernel) rfl (Nat.le_of_ble_eq_true rfl) ?_
  intro p e s m below meth c A B hr hlk hnam
  show V _ _ _ _ _ _ _ _ _ _ _ _ _ _ _ _ [(0, .int v)] _ _
  refine v_iload_n B dX12_twice_0 rfl rfl ?_
  refine v_iconst B (v := 1) dX12_twice_1 (by decide +kernel) ?_
  refine v_ishl B (v := (v <<< ((1 : Int32) &&& 31))) dX12_twice_2 rfl ?_
  refine v_iload_n B dX12_twice_3 rfl rfl ?_
  refine v_bipush B (v := 7) dX12_twice_4 (by decide +kernel) ?_
  refine v_ishr B (v := (v >>> ((7 : Int32) &&& 31))) dX12_twice_6 rfl ?_
  refine v_sipush B (v := 283) dX12_twice_7 (by decide +kernel) ?_
  refine v_imul B (v := ((v >>> ((7 : Int32) &&& 31)) * 283)) dX12_twice_10 rfl ?_
  refine v_ixor B (v := ((v <<< ((1 : Int32) &&& 31)) ^^^ ((v >>> ((7 : Int32) &&& 31)) * 283))) dX12_twice_11 rfl ?_
  refine v_sipush B (v := 255) dX12_twice_12 (by decide +kernel) ?_
  refine v_iand B (v := (((v <<< ((1 : Int32) &&& 31)) ^^^ ((v >>> ((7 : Int32) &&& 31)) * 283)) &&& 255)) dX12_twice_15 rfl ?_
  exact v_iret B hr hlk () trivial rfl (by decide +kernel) (by decide +kernel) dX12_twice_16

def wp_m_times : List Cond := .code yX12_times cX12_times 5 (some .int) :: ([.methodLink RX12 14 yX12_twice, .static yX12_twice, .initialized RX12, .code yX12_twice cX12_twice 1 (some .int)] ++ ([]))
set_option maxRecDepth 100000 in
theorem gd_m_times_m_twice_14 : GoodIn wp_m_times (va_wsS RX12 14 yX12_twice wp_m_twice) := goodIn_app (goodIn_r _ [1, 2, 3] rfl rfl) (goodIn_ca (goodIn_r _ [4] rfl rfl) (goodIn_nil))
set_option maxHeartbeats 4000000 in
set_option maxRecDepth 100000 in
/-- times: some number -/
theorem m_times (l : Launch) (D : va_G) (K : Nat → ClassId) (a : Int32) (b : Int32) : MG l yX12_times wp_m_times ({ frames := 1, cells := 0, slots := 0, locals := 20 }) D (tysA K) [.int a, .int b] [] (Qi D (fun (_ : Int32) (_ : Unit) => True) (fun _ => [])) 0 0 := by
  refine mg_of (cc := cX12_times) (maxL := 5) (ret := (some .int)) (by decide +kernel) rfl (Nat.le_of_ble_eq_true rfl) ?_
  intro p e s m below meth c A B hr hlk hnam
  show V _ _ _ _ _ _ _ _ _ _ _ _ _ _ _ _ [(0, .int a), (1, .int b)] _ _
  refine v_iconst B (v := 0) dX12_times_0 (by decide +kernel) ?_
  refine v_istore_n B (lv' := [(2, .int 0), (0, .int a), (1, .int b)]) dX12_times_1 rfl (by decide +kernel) rfl ?_
  refine v_iload_n B dX12_times_2 rfl rfl ?_
  refine v_istore_n B (lv' := [(3, .int a), (2, .int 0), (0, .int a), (1, .int b)]) dX12_times_3 rfl (by decide +kernel) rfl ?_
  refine v_iconst B (v := 0) dX12_times_4 (by decide +kernel) ?_
  refine v_istore B (lv' := [(4, .int 0), (3, .int a), (2, .int 0), (0, .int a), (1, .int b)]) dX12_times_5 (by decide +kernel) rfl ?_
  refine v_nat (pc := 7) (α := Int32 × Int32) (fun i q => [(4, .int (nI i)), (3, .int q.2), (2, .int q.1), (0, .int a), (1, .int b)]) (fun _ _ => []) 8 ?_ ?_ 0 (0, a) (by decide +kernel)
  · intro i q hi ih
    obtain ⟨x, y⟩ := q
    show V _ _ _ _ _ _ _ _ _ _ _ _ _ _ _ _ [(4, .int (nI i)), (3, .int y), (2, .int x), (0, .int a), (1, .int b)] _ _
    refine v_iload B dX12_times_7 rfl ?_
    refine v_bipush B (v := 8) dX12_times_9 (by decide +kernel) ?_
    refine v_icmp_ge B (tgt := 39) dX12_times_11 (by decide +kernel) (fun h => absurd h (nI_lt_not hi (by decide +kernel))) (fun _ => ?_)
    refine v_iload_n B dX12_times_14 rfl rfl ?_
    refine v_iload B dX12_times_15 rfl ?_
    refine v_ishr B (v := (b >>> (((nI i) : Int32) &&& 31))) dX12_times_17 rfl ?_
    refine v_iconst B (v := 1) dX12_times_18 (by decide +kernel) ?_
    refine v_iand B (v := ((b >>> (((nI i) : Int32) &&& 31)) &&& 1)) dX12_times_19 rfl ?_
    refine v_iconst B (v := 1) dX12_times_20 (by decide +kernel) ?_
    refine v_icmp_ne B (tgt := 28) dX12_times_21 (by decide +kernel) (fun c_1 => ?_) (fun c_1 => ?_)
    · refine v_iload_n B dX12_times_28 rfl rfl ?_
      refine v_callSi B (n := 1) (As := [.int y]) (rest := []) (wc := []) (wr := []) (m_twice l D K y) gd_m_times_m_twice_14 rfl rfl rfl (by decide +kernel) ⟨by decide +kernel, by decide +kernel⟩ (sp_pl [] [] rfl rfl rfl rfl rfl) rfl rfl (Nat.le_of_ble_eq_true rfl) dX12_times_29 ⟨by decide +kernel, by decide +kernel⟩ (fun r_4 u_2 hp_3 => ?_)
      have B := B; show V _ _ _ _ _ _ _ _ _ _ _ _ _ _ (0, 0) [] _ _ _
      refine v_istore_n B (lv' := [(3, .int r_4), (4, .int (nI i)), (2, .int x), (0, .int a), (1, .int b)]) dX12_times_32 rfl (by decide +kernel) rfl ?_
      refine v_iinc B (k := 1) (v := (nI (i + 1))) (lv' := [(4, .int (nI (i + 1))), (3, .int r_4), (2, .int x), (0, .int a), (1, .int b)]) dX12_times_33 rfl (nI_1 i) (by decide +kernel) rfl ?_
      refine v_goto B (tgt := 7) dX12_times_36 (by decide +kernel) ?_
      refine v_lv [0, 1, 2, 3, 4] rfl ?_
      exact ih (x, r_4)
    · refine v_iload_n B dX12_times_24 rfl rfl ?_
      refine v_iload_n B dX12_times_25 rfl rfl ?_
      refine v_ixor B (v := (x ^^^ y)) dX12_times_26 rfl ?_
      refine v_istore_n B (lv' := [(2, .int (x ^^^ y)), (4, .int (nI i)), (3, .int y), (0, .int a), (1, .int b)]) dX12_times_27 rfl (by decide +kernel) rfl ?_
      refine v_iload_n B dX12_times_28 rfl rfl ?_
      refine v_callSi B (n := 1) (As := [.int y]) (rest := []) (wc := []) (wr := []) (m_twice l D K y) gd_m_times_m_twice_14 rfl rfl rfl (by decide +kernel) ⟨by decide +kernel, by decide +kernel⟩ (sp_pl [] [] rfl rfl rfl rfl rfl) rfl rfl (Nat.le_of_ble_eq_true rfl) dX12_times_29 ⟨by decide +kernel, by decide +kernel⟩ (fun r_7 u_5 hp_6 => ?_)
      have B := B; show V _ _ _ _ _ _ _ _ _ _ _ _ _ _ (0, 0) [] _ _ _
      refine v_istore_n B (lv' := [(3, .int r_7), (2, .int (x ^^^ y)), (4, .int (nI i)), (0, .int a), (1, .int b)]) dX12_times_32 rfl (by decide +kernel) rfl ?_
      refine v_iinc B (k := 2) (v := (nI (i + 1))) (lv' := [(4, .int (nI (i + 1))), (3, .int r_7), (2, .int (x ^^^ y)), (0, .int a), (1, .int b)]) dX12_times_33 rfl (nI_1 i) (by decide +kernel) rfl ?_
      refine v_goto B (tgt := 7) dX12_times_36 (by decide +kernel) ?_
      refine v_lv [0, 1, 2, 3, 4] rfl ?_
      exact ih ((x ^^^ y), r_7)
  · intro q
    show V _ _ _ _ _ _ _ _ _ _ _ _ _ _ _ _ [(4, .int 8), (3, .int q.2), (2, .int q.1), (0, .int a), (1, .int b)] _ _
    refine v_iload B dX12_times_7 rfl ?_
    refine v_bipush B (v := 8) dX12_times_9 (by decide +kernel) ?_
    refine v_icmp_ge B (tgt := 39) dX12_times_11 (by decide +kernel) (fun _ => ?_) (fun h => absurd (by decide +kernel) h)
    refine v_iload_n B dX12_times_39 rfl rfl ?_
    exact v_iret B hr hlk () trivial rfl (by decide +kernel) (by decide +kernel) dX12_times_40
