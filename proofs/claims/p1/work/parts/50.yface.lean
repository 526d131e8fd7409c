def wp_m_in_T : List Cond := .code yX12_in cX12_in 2 (some .boolean) :: ([] ++ ([]))
set_option maxHeartbeats 4000000 in
set_option maxRecDepth 100000 in
theorem m_in_T (l : Launch) (D : va_G) (K : Nat → ClassId) (v : Int32) (n : Int32) (h1 : ¬ v < 0) (h2 : ¬ n ≤ v) : MG l yX12_in wp_m_in_T ({ frames := 0, cells := 0, slots := 0, locals := 0 }) D (tysA K) [.int v, .int n] [] (Qi D (fun (r : Int32) (_ : Unit) => r = 1) (fun _ => [])) 0 0 := by
  refine mg_of (cc := cX12_in) (maxL := 2) (ret := (some .boolean)) (by decide +kernel) rfl (Nat.le_of_ble_eq_true rfl) ?_
  intro p e s m below meth c A B hr hlk hnam
  show V _ _ _ _ _ _ _ _ _ _ _ _ _ _ _ _ [(0, .int v), (1, .int n)] _ _
  refine v_iload_n B dX12_in_0 rfl rfl ?_
  refine v_if_lt B (tgt := 13) dX12_in_1 (by decide +kernel) (fun h => absurd h h1) (fun _ => ?_)
  refine v_iload_n B dX12_in_4 rfl rfl ?_
  refine v_iload_n B dX12_in_5 rfl rfl ?_
  refine v_icmp_ge B (tgt := 13) dX12_in_6 (by decide +kernel) (fun h => absurd h h2) (fun _ => ?_)
  refine v_iconst B (v := 1) dX12_in_9 (by decide +kernel) ?_
  refine v_goto B (tgt := 14) dX12_in_10 (by decide +kernel) ?_
  exact v_zret B hr hlk (by decide +kernel) () rfl rfl (by decide +kernel) (by decide +kernel) dX12_in_14

def wp_m_in_F1 : List Cond := .code yX12_in cX12_in 2 (some .boolean) :: ([] ++ ([]))
set_option maxHeartbeats 4000000 in
set_option maxRecDepth 100000 in
theorem m_in_F1 (l : Launch) (D : va_G) (K : Nat → ClassId) (v : Int32) (n : Int32) (h1 : v < 0) : MG l yX12_in wp_m_in_F1 ({ frames := 0, cells := 0, slots := 0, locals := 0 }) D (tysA K) [.int v, .int n] [] (Qi D (fun (r : Int32) (_ : Unit) => r = 0) (fun _ => [])) 0 0 := by
  refine mg_of (cc := cX12_in) (maxL := 2) (ret := (some .boolean)) (by decide +kernel) rfl (Nat.le_of_ble_eq_true rfl) ?_
  intro p e s m below meth c A B hr hlk hnam
  show V _ _ _ _ _ _ _ _ _ _ _ _ _ _ _ _ [(0, .int v), (1, .int n)] _ _
  refine v_iload_n B dX12_in_0 rfl rfl ?_
  refine v_if_lt B (tgt := 13) dX12_in_1 (by decide +kernel) (fun _ => ?_) (fun h => absurd h1 h)
  refine v_iconst B (v := 0) dX12_in_13 (by decide +kernel) ?_
  exact v_zret B hr hlk (by decide +kernel) () rfl rfl (by decide +kernel) (by decide +kernel) dX12_in_14

def wp_m_in_F2 : List Cond := .code yX12_in cX12_in 2 (some .boolean) :: ([] ++ ([]))
set_option maxHeartbeats 4000000 in
set_option maxRecDepth 100000 in
theorem m_in_F2 (l : Launch) (D : va_G) (K : Nat → ClassId) (v : Int32) (n : Int32) (h1 : ¬ v < 0) (h2 : n ≤ v) : MG l yX12_in wp_m_in_F2 ({ frames := 0, cells := 0, slots := 0, locals := 0 }) D (tysA K) [.int v, .int n] [] (Qi D (fun (r : Int32) (_ : Unit) => r = 0) (fun _ => [])) 0 0 := by
  refine mg_of (cc := cX12_in) (maxL := 2) (ret := (some .boolean)) (by decide +kernel) rfl (Nat.le_of_ble_eq_true rfl) ?_
  intro p e s m below meth c A B hr hlk hnam
  show V _ _ _ _ _ _ _ _ _ _ _ _ _ _ _ _ [(0, .int v), (1, .int n)] _ _
  refine v_iload_n B dX12_in_0 rfl rfl ?_
  refine v_if_lt B (tgt := 13) dX12_in_1 (by decide +kernel) (fun h => absurd h h1) (fun _ => ?_)
  refine v_iload_n B dX12_in_4 rfl rfl ?_
  refine v_iload_n B dX12_in_5 rfl rfl ?_
  refine v_icmp_ge B (tgt := 13) dX12_in_6 (by decide +kernel) (fun _ => ?_) (fun h => absurd h2 h)
  refine v_iconst B (v := 0) dX12_in_13 (by decide +kernel) ?_
  exact v_zret B hr hlk (by decide +kernel) () rfl rfl (by decide +kernel) (by decide +kernel) dX12_in_14

def wp_m_isLinked_0 : List Cond := .code yX12_isLinked cX12_isLinked 2 (some .boolean) :: ([.fieldLink RX12 45 "LowEnergyModel" "state" "[I"] ++ (wsX120 ++ ([])))
theorem hi_m_isLinked_0_X12 : ∀ x ∈ u_ws RX12 TX12 123, x ∈ wp_m_isLinked_0 := fun _ h => List.mem_cons_of_mem _ (List.mem_append_right _ (List.mem_append_left _ h))
set_option maxHeartbeats 4000000 in
set_option maxRecDepth 100000 in
theorem m_isLinked_0 (l : Launch) (D : va_G) (K : Nat → ClassId) (h : Nat) (q : Nat → Nat) (fa : Int64) (sa : Int64) : MG l yX12_isLinked wp_m_isLinked_0 ({ frames := 0, cells := 0, slots := 0, locals := 0 }) D (tysA K) [.ref h, .int 0] [(h, .inr (12, fsM q 0 0 0 0 0)), ((q 7), .inl (K 0, 2, .inl (gl [0, 0])))] (Qi D (fun (r : Int32) (_ : Unit) => r = 0) (fun _ => [(h, .inr (12, fsM q 0 0 0 0 0)), ((q 7), .inl (K 0, 2, .inl (gl [0, 0])))])) 0 0 := by
  refine mg_of (cc := cX12_isLinked) (maxL := 2) (ret := (some .boolean)) (by decide +kernel) rfl (Nat.le_of_ble_eq_true rfl) ?_
  intro p e s m below meth c A B hr hlk hnam
  show V _ _ _ _ _ _ _ _ _ _ _ _ _ _ _ _ [(0, .ref h), (1, .int 0)] _ _
  refine v_aload_n B dX12_isLinked_0 rfl rfl ?_
  refine v_get B (C := RX12) (T := TX12) (N := 123) (ci := 12) (k0 := 0) hi_m_isLinked_0_X12 rfl rfl 7 (by decide +kernel) (List.mem_of_getElem? (i := 1) rfl) rfl dX12_isLinked_1 ?_
  refine v_iload_n B dX12_isLinked_4 rfl rfl ?_
  refine v_iald B (k0 := 1) (t0 := 0) (v := 0) rfl rfl (vpi (by decide +kernel)) rfl dX12_isLinked_5 ?_
  refine v_iconst B (v := 4) dX12_isLinked_6 (by decide +kernel) ?_
  refine v_icmp_eq B (tgt := 20) dX12_isLinked_7 (by decide +kernel) (fun h => absurd h (by decide +kernel)) (fun _ => ?_)
  refine v_aload_n B dX12_isLinked_10 rfl rfl ?_
  refine v_get B (C := RX12) (T := TX12) (N := 123) (ci := 12) (k0 := 0) hi_m_isLinked_0_X12 rfl rfl 7 (by decide +kernel) (List.mem_of_getElem? (i := 1) rfl) rfl dX12_isLinked_11 ?_
  refine v_iload_n B dX12_isLinked_14 rfl rfl ?_
  refine v_iald B (k0 := 1) (t0 := 0) (v := 0) rfl rfl (vpi (by decide +kernel)) rfl dX12_isLinked_15 ?_
  refine v_iconst B (v := 5) dX12_isLinked_16 (by decide +kernel) ?_
  refine v_icmp_ne B (tgt := 24) dX12_isLinked_17 (by decide +kernel) (fun _ => ?_) (fun h => absurd h (by decide +kernel))
  refine v_iconst B (v := 0) dX12_isLinked_24 (by decide +kernel) ?_
  exact v_zret B hr hlk (by decide +kernel) () rfl rfl (by decide +kernel) (by decide +kernel) dX12_isLinked_25

def wp_m_isStandby_0 : List Cond := .code yX12_isStandby cX12_isStandby 2 (some .boolean) :: ([.methodLink RX12 413 yX12_in, .static yX12_in, .initialized RX12, .code yX12_in cX12_in 2 (some .boolean), .fieldLink RX12 45 "LowEnergyModel" "state" "[I"] ++ (wsX120 ++ ([])))
theorem hi_m_isStandby_0_X12 : ∀ x ∈ u_ws RX12 TX12 123, x ∈ wp_m_isStandby_0 := fun _ h => List.mem_cons_of_mem _ (List.mem_append_right _ (List.mem_append_left _ h))
set_option maxRecDepth 100000 in
theorem gd_m_isStandby_0_m_in_T_413 : GoodIn wp_m_isStandby_0 (va_wsS RX12 413 yX12_in wp_m_in_T) := goodIn_app (goodIn_r _ [1, 2, 3] rfl rfl) (goodIn_ca (goodIn_r _ [4] rfl rfl) (goodIn_nil))
set_option maxHeartbeats 4000000 in
set_option maxRecDepth 100000 in
theorem m_isStandby_0 (l : Launch) (D : va_G) (K : Nat → ClassId) (h : Nat) (q : Nat → Nat) (fa : Int64) (sa : Int64) : MG l yX12_isStandby wp_m_isStandby_0 ({ frames := 1, cells := 0, slots := 0, locals := 21 }) D (tysA K) [.ref h, .int 0] [(h, .inr (12, fsM q 0 0 0 0 0)), ((q 7), .inl (K 0, 2, .inl (gl [0, 0])))] (Qi D (fun (r : Int32) (_ : Unit) => r = 1) (fun _ => [(h, .inr (12, fsM q 0 0 0 0 0)), ((q 7), .inl (K 0, 2, .inl (gl [0, 0])))])) 0 0 := by
  refine mg_of (cc := cX12_isStandby) (maxL := 2) (ret := (some .boolean)) (by decide +kernel) rfl (Nat.le_of_ble_eq_true rfl) ?_
  intro p e s m below meth c A B hr hlk hnam
  show V _ _ _ _ _ _ _ _ _ _ _ _ _ _ _ _ [(0, .ref h), (1, .int 0)] _ _
  refine v_iload_n B dX12_isStandby_0 rfl rfl ?_
  refine v_iconst B (v := 2) dX12_isStandby_1 (by decide +kernel) ?_
  refine v_callSi B (n := 2) (As := [.int 0, .int 2]) (rest := []) (wc := []) (wr := [(h, .inr (12, fsM q 0 0 0 0 0)), ((q 7), .inl (K 0, 2, .inl (gl [0, 0])))]) (m_in_T l D K 0 2 (by decide +kernel) (by decide +kernel)) gd_m_isStandby_0_m_in_T_413 rfl rfl rfl (by decide +kernel) ⟨by decide +kernel, by decide +kernel⟩ (sp_pl [] [0, 1] rfl rfl rfl rfl rfl) rfl rfl (Nat.le_of_ble_eq_true rfl) dX12_isStandby_2 ⟨by decide +kernel, by decide +kernel⟩ (fun r_3 u_1 hp_2 => ?_)
  subst hp_2
  show V _ _ _ _ _ _ _ _ _ _ _ _ _ _ (0, 0) [(h, .inr (12, fsM q 0 0 0 0 0)), ((q 7), .inl (K 0, 2, .inl (gl [0, 0])))] _ _ [.int 1]
  show V _ _ _ _ _ _ _ _ _ _ _ _ _ _ (0, 0) [(h, .inr (12, fsM q 0 0 0 0 0)), ((q 7), .inl (K 0, 2, .inl (gl [0, 0])))] _ _ _
  refine v_if_eq B (tgt := 21) dX12_isStandby_5 (by decide +kernel) (fun h => absurd h (by decide +kernel)) (fun _ => ?_)
  refine v_aload_n B dX12_isStandby_8 rfl rfl ?_
  refine v_get B (C := RX12) (T := TX12) (N := 123) (ci := 12) (k0 := 0) hi_m_isStandby_0_X12 rfl rfl 7 (by decide +kernel) (List.mem_of_getElem? (i := 5) rfl) rfl dX12_isStandby_9 ?_
  refine v_iload_n B dX12_isStandby_12 rfl rfl ?_
  refine v_iald B (k0 := 1) (t0 := 0) (v := 0) rfl rfl (vpi (by decide +kernel)) rfl dX12_isStandby_13 ?_
  refine v_if_ne B (tgt := 21) dX12_isStandby_14 (by decide +kernel) (fun h => absurd (by decide +kernel) h) (fun _ => ?_)
  refine v_iconst B (v := 1) dX12_isStandby_17 (by decide +kernel) ?_
  refine v_goto B (tgt := 22) dX12_isStandby_18 (by decide +kernel) ?_
  exact v_zret B hr hlk (by decide +kernel) () rfl rfl (by decide +kernel) (by decide +kernel) dX12_isStandby_22

def wp_m_mayControl_0 : List Cond := .code yX12_mayControl cX12_mayControl 2 (some .boolean) :: ([.methodLink RX12 413 yX12_in, .static yX12_in, .initialized RX12, .code yX12_in cX12_in 2 (some .boolean), .methodLink RX12 662 yX12_isLinked, .instanceMethod yX12_isLinked, .selects RX12 yX12_isLinked yX12_isLinked, .code yX12_isLinked cX12_isLinked 2 (some .boolean), .fieldLink RX12 45 "LowEnergyModel" "state" "[I"] ++ (wsX120 ++ ([])))
theorem hi_m_mayControl_0_X12 : ∀ x ∈ u_ws RX12 TX12 123, x ∈ wp_m_mayControl_0 := fun _ h => List.mem_cons_of_mem _ (List.mem_append_right _ (List.mem_append_left _ h))
set_option maxRecDepth 100000 in
theorem gd_m_mayControl_0_m_in_T_413 : GoodIn wp_m_mayControl_0 (va_wsS RX12 413 yX12_in wp_m_in_T) := goodIn_app (goodIn_r _ [1, 2, 3] rfl rfl) (goodIn_ca (goodIn_r _ [4] rfl rfl) (goodIn_nil))
set_option maxRecDepth 100000 in
theorem gd_m_mayControl_0_m_isLinked_0_662 : GoodIn wp_m_mayControl_0 (wsV RX12 662 RX12 yX12_isLinked wp_m_isLinked_0) := goodIn_app (goodIn_r _ [5, 6, 7, 3] rfl rfl) (goodIn_ca (goodIn_r _ [8, 9] rfl rfl) (goodIn_app (goodIn_cls hi_m_mayControl_0_X12 gw_X12) (goodIn_nil)))
set_option maxHeartbeats 4000000 in
set_option maxRecDepth 100000 in
theorem m_mayControl_0 (l : Launch) (D : va_G) (K : Nat → ClassId) (h : Nat) (q : Nat → Nat) (fa : Int64) (sa : Int64) : MG l yX12_mayControl wp_m_mayControl_0 ({ frames := 1, cells := 0, slots := 0, locals := 21 }) D (tysA K) [.ref h, .int 0] [(h, .inr (12, fsM q 0 0 0 0 0)), ((q 7), .inl (K 0, 2, .inl (gl [0, 0])))] (Qi D (fun (r : Int32) (_ : Unit) => r = 0) (fun _ => [(h, .inr (12, fsM q 0 0 0 0 0)), ((q 7), .inl (K 0, 2, .inl (gl [0, 0])))])) 0 0 := by
  refine mg_of (cc := cX12_mayControl) (maxL := 2) (ret := (some .boolean)) (by decide +kernel) rfl (Nat.le_of_ble_eq_true rfl) ?_
  intro p e s m below meth c A B hr hlk hnam
  show V _ _ _ _ _ _ _ _ _ _ _ _ _ _ _ _ [(0, .ref h), (1, .int 0)] _ _
  refine v_iload_n B dX12_mayControl_0 rfl rfl ?_
  refine v_iconst B (v := 2) dX12_mayControl_1 (by decide +kernel) ?_
  refine v_callSi B (n := 2) (As := [.int 0, .int 2]) (rest := []) (wc := []) (wr := [(h, .inr (12, fsM q 0 0 0 0 0)), ((q 7), .inl (K 0, 2, .inl (gl [0, 0])))]) (m_in_T l D K 0 2 (by decide +kernel) (by decide +kernel)) gd_m_mayControl_0_m_in_T_413 rfl rfl rfl (by decide +kernel) ⟨by decide +kernel, by decide +kernel⟩ (sp_pl [] [0, 1] rfl rfl rfl rfl rfl) rfl rfl (Nat.le_of_ble_eq_true rfl) dX12_mayControl_2 ⟨by decide +kernel, by decide +kernel⟩ (fun r_3 u_1 hp_2 => ?_)
  subst hp_2
  show V _ _ _ _ _ _ _ _ _ _ _ _ _ _ (0, 0) [(h, .inr (12, fsM q 0 0 0 0 0)), ((q 7), .inl (K 0, 2, .inl (gl [0, 0])))] _ _ [.int 1]
  show V _ _ _ _ _ _ _ _ _ _ _ _ _ _ (0, 0) [(h, .inr (12, fsM q 0 0 0 0 0)), ((q 7), .inl (K 0, 2, .inl (gl [0, 0])))] _ _ _
  refine v_if_eq B (tgt := 39) dX12_mayControl_5 (by decide +kernel) (fun h => absurd h (by decide +kernel)) (fun _ => ?_)
  refine v_aload_n B dX12_mayControl_8 rfl rfl ?_
  refine v_iload_n B dX12_mayControl_9 rfl rfl ?_
  refine v_callVi B (b := h) (n := 1) (As := [.int 0]) (rest := []) (wc := [(h, .inr (12, fsM q 0 0 0 0 0)), ((q 7), .inl (K 0, 2, .inl (gl [0, 0])))]) (wr := []) (m_isLinked_0 l D K h q fa sa) gd_m_mayControl_0_m_isLinked_0_662 rfl rfl rfl (by decide +kernel) ⟨by decide +kernel, by decide +kernel⟩ 0 rfl rfl rfl (sp_pl [0, 1] [] rfl rfl rfl rfl rfl) rfl rfl (Nat.le_of_ble_eq_true rfl) dX12_mayControl_10 ⟨by decide +kernel, by decide +kernel⟩ (fun r_6 u_4 hp_5 => ?_)
  subst hp_5
  show V _ _ _ _ _ _ _ _ _ _ _ _ _ _ (0, 0) [(h, .inr (12, fsM q 0 0 0 0 0)), ((q 7), .inl (K 0, 2, .inl (gl [0, 0])))] _ _ [.int 0]
  show V _ _ _ _ _ _ _ _ _ _ _ _ _ _ (0, 0) [(h, .inr (12, fsM q 0 0 0 0 0)), ((q 7), .inl (K 0, 2, .inl (gl [0, 0])))] _ _ _
  refine v_if_eq B (tgt := 39) dX12_mayControl_13 (by decide +kernel) (fun _ => ?_) (fun h => absurd (by decide +kernel) h)
  refine v_iconst B (v := 0) dX12_mayControl_39 (by decide +kernel) ?_
  exact v_zret B hr hlk (by decide +kernel) () rfl rfl (by decide +kernel) (by decide +kernel) dX12_mayControl_40

def wp_m_isLinked_1 : List Cond := .code yX12_isLinked cX12_isLinked 2 (some .boolean) :: ([.fieldLink RX12 45 "LowEnergyModel" "state" "[I"] ++ (wsX120 ++ ([])))
theorem hi_m_isLinked_1_X12 : ∀ x ∈ u_ws RX12 TX12 123, x ∈ wp_m_isLinked_1 := fun _ h => List.mem_cons_of_mem _ (List.mem_append_right _ (List.mem_append_left _ h))
set_option maxHeartbeats 4000000 in
set_option maxRecDepth 100000 in
theorem m_isLinked_1 (l : Launch) (D : va_G) (K : Nat → ClassId) (h : Nat) (q : Nat → Nat) (fa : Int64) (sa : Int64) : MG l yX12_isLinked wp_m_isLinked_1 ({ frames := 0, cells := 0, slots := 0, locals := 0 }) D (tysA K) [.ref h, .int 1] [(h, .inr (12, fsM q 0 0 0 0 0)), ((q 7), .inl (K 0, 2, .inl (gl [0, 0])))] (Qi D (fun (r : Int32) (_ : Unit) => r = 0) (fun _ => [(h, .inr (12, fsM q 0 0 0 0 0)), ((q 7), .inl (K 0, 2, .inl (gl [0, 0])))])) 0 0 := by
  refine mg_of (cc := cX12_isLinked) (maxL := 2) (ret := (some .boolean)) (by decide +kernel) rfl (Nat.le_of_ble_eq_true rfl) ?_
  intro p e s m below meth c A B hr hlk hnam
  show V _ _ _ _ _ _ _ _ _ _ _ _ _ _ _ _ [(0, .ref h), (1, .int 1)] _ _
  refine v_aload_n B dX12_isLinked_0 rfl rfl ?_
  refine v_get B (C := RX12) (T := TX12) (N := 123) (ci := 12) (k0 := 0) hi_m_isLinked_1_X12 rfl rfl 7 (by decide +kernel) (List.mem_of_getElem? (i := 1) rfl) rfl dX12_isLinked_1 ?_
  refine v_iload_n B dX12_isLinked_4 rfl rfl ?_
  refine v_iald B (k0 := 1) (t0 := 0) (v := 0) rfl rfl (vpi (by decide +kernel)) rfl dX12_isLinked_5 ?_
  refine v_iconst B (v := 4) dX12_isLinked_6 (by decide +kernel) ?_
  refine v_icmp_eq B (tgt := 20) dX12_isLinked_7 (by decide +kernel) (fun h => absurd h (by decide +kernel)) (fun _ => ?_)
  refine v_aload_n B dX12_isLinked_10 rfl rfl ?_
  refine v_get B (C := RX12) (T := TX12) (N := 123) (ci := 12) (k0 := 0) hi_m_isLinked_1_X12 rfl rfl 7 (by decide +kernel) (List.mem_of_getElem? (i := 1) rfl) rfl dX12_isLinked_11 ?_
  refine v_iload_n B dX12_isLinked_14 rfl rfl ?_
  refine v_iald B (k0 := 1) (t0 := 0) (v := 0) rfl rfl (vpi (by decide +kernel)) rfl dX12_isLinked_15 ?_
  refine v_iconst B (v := 5) dX12_isLinked_16 (by decide +kernel) ?_
  refine v_icmp_ne B (tgt := 24) dX12_isLinked_17 (by decide +kernel) (fun _ => ?_) (fun h => absurd h (by decide +kernel))
  refine v_iconst B (v := 0) dX12_isLinked_24 (by decide +kernel) ?_
  exact v_zret B hr hlk (by decide +kernel) () rfl rfl (by decide +kernel) (by decide +kernel) dX12_isLinked_25

def wp_m_isStandby_1 : List Cond := .code yX12_isStandby cX12_isStandby 2 (some .boolean) :: ([.methodLink RX12 413 yX12_in, .static yX12_in, .initialized RX12, .code yX12_in cX12_in 2 (some .boolean), .fieldLink RX12 45 "LowEnergyModel" "state" "[I"] ++ (wsX120 ++ ([])))
theorem hi_m_isStandby_1_X12 : ∀ x ∈ u_ws RX12 TX12 123, x ∈ wp_m_isStandby_1 := fun _ h => List.mem_cons_of_mem _ (List.mem_append_right _ (List.mem_append_left _ h))
set_option maxRecDepth 100000 in
theorem gd_m_isStandby_1_m_in_T_413 : GoodIn wp_m_isStandby_1 (va_wsS RX12 413 yX12_in wp_m_in_T) := goodIn_app (goodIn_r _ [1, 2, 3] rfl rfl) (goodIn_ca (goodIn_r _ [4] rfl rfl) (goodIn_nil))
set_option maxHeartbeats 4000000 in
set_option maxRecDepth 100000 in
theorem m_isStandby_1 (l : Launch) (D : va_G) (K : Nat → ClassId) (h : Nat) (q : Nat → Nat) (fa : Int64) (sa : Int64) : MG l yX12_isStandby wp_m_isStandby_1 ({ frames := 1, cells := 0, slots := 0, locals := 21 }) D (tysA K) [.ref h, .int 1] [(h, .inr (12, fsM q 0 0 0 0 0)), ((q 7), .inl (K 0, 2, .inl (gl [0, 0])))] (Qi D (fun (r : Int32) (_ : Unit) => r = 1) (fun _ => [(h, .inr (12, fsM q 0 0 0 0 0)), ((q 7), .inl (K 0, 2, .inl (gl [0, 0])))])) 0 0 := by
  refine mg_of (cc := cX12_isStandby) (maxL := 2) (ret := (some .boolean)) (by decide +kernel) rfl (Nat.le_of_ble_eq_true rfl) ?_
  intro p e s m below meth c A B hr hlk hnam
  show V _ _ _ _ _ _ _ _ _ _ _ _ _ _ _ _ [(0, .ref h), (1, .int 1)] _ _
  refine v_iload_n B dX12_isStandby_0 rfl rfl ?_
  refine v_iconst B (v := 2) dX12_isStandby_1 (by decide +kernel) ?_
  refine v_callSi B (n := 2) (As := [.int 1, .int 2]) (rest := []) (wc := []) (wr := [(h, .inr (12, fsM q 0 0 0 0 0)), ((q 7), .inl (K 0, 2, .inl (gl [0, 0])))]) (m_in_T l D K 1 2 (by decide +kernel) (by decide +kernel)) gd_m_isStandby_1_m_in_T_413 rfl rfl rfl (by decide +kernel) ⟨by decide +kernel, by decide +kernel⟩ (sp_pl [] [0, 1] rfl rfl rfl rfl rfl) rfl rfl (Nat.le_of_ble_eq_true rfl) dX12_isStandby_2 ⟨by decide +kernel, by decide +kernel⟩ (fun r_3 u_1 hp_2 => ?_)
  subst hp_2
  show V _ _ _ _ _ _ _ _ _ _ _ _ _ _ (0, 0) [(h, .inr (12, fsM q 0 0 0 0 0)), ((q 7), .inl (K 0, 2, .inl (gl [0, 0])))] _ _ [.int 1]
  show V _ _ _ _ _ _ _ _ _ _ _ _ _ _ (0, 0) [(h, .inr (12, fsM q 0 0 0 0 0)), ((q 7), .inl (K 0, 2, .inl (gl [0, 0])))] _ _ _
  refine v_if_eq B (tgt := 21) dX12_isStandby_5 (by decide +kernel) (fun h => absurd h (by decide +kernel)) (fun _ => ?_)
  refine v_aload_n B dX12_isStandby_8 rfl rfl ?_
  refine v_get B (C := RX12) (T := TX12) (N := 123) (ci := 12) (k0 := 0) hi_m_isStandby_1_X12 rfl rfl 7 (by decide +kernel) (List.mem_of_getElem? (i := 5) rfl) rfl dX12_isStandby_9 ?_
  refine v_iload_n B dX12_isStandby_12 rfl rfl ?_
  refine v_iald B (k0 := 1) (t0 := 0) (v := 0) rfl rfl (vpi (by decide +kernel)) rfl dX12_isStandby_13 ?_
  refine v_if_ne B (tgt := 21) dX12_isStandby_14 (by decide +kernel) (fun h => absurd (by decide +kernel) h) (fun _ => ?_)
  refine v_iconst B (v := 1) dX12_isStandby_17 (by decide +kernel) ?_
  refine v_goto B (tgt := 22) dX12_isStandby_18 (by decide +kernel) ?_
  exact v_zret B hr hlk (by decide +kernel) () rfl rfl (by decide +kernel) (by decide +kernel) dX12_isStandby_22

def wp_m_mayControl_1 : List Cond := .code yX12_mayControl cX12_mayControl 2 (some .boolean) :: ([.methodLink RX12 413 yX12_in, .static yX12_in, .initialized RX12, .code yX12_in cX12_in 2 (some .boolean), .methodLink RX12 662 yX12_isLinked, .instanceMethod yX12_isLinked, .selects RX12 yX12_isLinked yX12_isLinked, .code yX12_isLinked cX12_isLinked 2 (some .boolean), .fieldLink RX12 45 "LowEnergyModel" "state" "[I"] ++ (wsX120 ++ ([])))
theorem hi_m_mayControl_1_X12 : ∀ x ∈ u_ws RX12 TX12 123, x ∈ wp_m_mayControl_1 := fun _ h => List.mem_cons_of_mem _ (List.mem_append_right _ (List.mem_append_left _ h))
set_option maxRecDepth 100000 in
theorem gd_m_mayControl_1_m_in_T_413 : GoodIn wp_m_mayControl_1 (va_wsS RX12 413 yX12_in wp_m_in_T) := goodIn_app (goodIn_r _ [1, 2, 3] rfl rfl) (goodIn_ca (goodIn_r _ [4] rfl rfl) (goodIn_nil))
set_option maxRecDepth 100000 in
theorem gd_m_mayControl_1_m_isLinked_1_662 : GoodIn wp_m_mayControl_1 (wsV RX12 662 RX12 yX12_isLinked wp_m_isLinked_1) := goodIn_app (goodIn_r _ [5, 6, 7, 3] rfl rfl) (goodIn_ca (goodIn_r _ [8, 9] rfl rfl) (goodIn_app (goodIn_cls hi_m_mayControl_1_X12 gw_X12) (goodIn_nil)))
set_option maxHeartbeats 4000000 in
set_option maxRecDepth 100000 in
theorem m_mayControl_1 (l : Launch) (D : va_G) (K : Nat → ClassId) (h : Nat) (q : Nat → Nat) (fa : Int64) (sa : Int64) : MG l yX12_mayControl wp_m_mayControl_1 ({ frames := 1, cells := 0, slots := 0, locals := 21 }) D (tysA K) [.ref h, .int 1] [(h, .inr (12, fsM q 0 0 0 0 0)), ((q 7), .inl (K 0, 2, .inl (gl [0, 0])))] (Qi D (fun (r : Int32) (_ : Unit) => r = 0) (fun _ => [(h, .inr (12, fsM q 0 0 0 0 0)), ((q 7), .inl (K 0, 2, .inl (gl [0, 0])))])) 0 0 := by
  refine mg_of (cc := cX12_mayControl) (maxL := 2) (ret := (some .boolean)) (by decide +kernel) rfl (Nat.le_of_ble_eq_true rfl) ?_
  intro p e s m below meth c A B hr hlk hnam
  show V _ _ _ _ _ _ _ _ _ _ _ _ _ _ _ _ [(0, .ref h), (1, .int 1)] _ _
  refine v_iload_n B dX12_mayControl_0 rfl rfl ?_
  refine v_iconst B (v := 2) dX12_mayControl_1 (by decide +kernel) ?_
  refine v_callSi B (n := 2) (As := [.int 1, .int 2]) (rest := []) (wc := []) (wr := [(h, .inr (12, fsM q 0 0 0 0 0)), ((q 7), .inl (K 0, 2, .inl (gl [0, 0])))]) (m_in_T l D K 1 2 (by decide +kernel) (by decide +kernel)) gd_m_mayControl_1_m_in_T_413 rfl rfl rfl (by decide +kernel) ⟨by decide +kernel, by decide +kernel⟩ (sp_pl [] [0, 1] rfl rfl rfl rfl rfl) rfl rfl (Nat.le_of_ble_eq_true rfl) dX12_mayControl_2 ⟨by decide +kernel, by decide +kernel⟩ (fun r_3 u_1 hp_2 => ?_)
  subst hp_2
  show V _ _ _ _ _ _ _ _ _ _ _ _ _ _ (0, 0) [(h, .inr (12, fsM q 0 0 0 0 0)), ((q 7), .inl (K 0, 2, .inl (gl [0, 0])))] _ _ [.int 1]
  show V _ _ _ _ _ _ _ _ _ _ _ _ _ _ (0, 0) [(h, .inr (12, fsM q 0 0 0 0 0)), ((q 7), .inl (K 0, 2, .inl (gl [0, 0])))] _ _ _
  refine v_if_eq B (tgt := 39) dX12_mayControl_5 (by decide +kernel) (fun h => absurd h (by decide +kernel)) (fun _ => ?_)
  refine v_aload_n B dX12_mayControl_8 rfl rfl ?_
  refine v_iload_n B dX12_mayControl_9 rfl rfl ?_
  refine v_callVi B (b := h) (n := 1) (As := [.int 1]) (rest := []) (wc := [(h, .inr (12, fsM q 0 0 0 0 0)), ((q 7), .inl (K 0, 2, .inl (gl [0, 0])))]) (wr := []) (m_isLinked_1 l D K h q fa sa) gd_m_mayControl_1_m_isLinked_1_662 rfl rfl rfl (by decide +kernel) ⟨by decide +kernel, by decide +kernel⟩ 0 rfl rfl rfl (sp_pl [0, 1] [] rfl rfl rfl rfl rfl) rfl rfl (Nat.le_of_ble_eq_true rfl) dX12_mayControl_10 ⟨by decide +kernel, by decide +kernel⟩ (fun r_6 u_4 hp_5 => ?_)
  subst hp_5
  show V _ _ _ _ _ _ _ _ _ _ _ _ _ _ (0, 0) [(h, .inr (12, fsM q 0 0 0 0 0)), ((q 7), .inl (K 0, 2, .inl (gl [0, 0])))] _ _ [.int 0]
  show V _ _ _ _ _ _ _ _ _ _ _ _ _ _ (0, 0) [(h, .inr (12, fsM q 0 0 0 0 0)), ((q 7), .inl (K 0, 2, .inl (gl [0, 0])))] _ _ _
  refine v_if_eq B (tgt := 39) dX12_mayControl_13 (by decide +kernel) (fun _ => ?_) (fun h => absurd (by decide +kernel) h)
  refine v_iconst B (v := 0) dX12_mayControl_39 (by decide +kernel) ?_
  exact v_zret B hr hlk (by decide +kernel) () rfl rfl (by decide +kernel) (by decide +kernel) dX12_mayControl_40

def wp_m_isStandby_n : List Cond := .code yX12_isStandby cX12_isStandby 2 (some .boolean) :: ([.methodLink RX12 413 yX12_in, .static yX12_in, .initialized RX12, .code yX12_in cX12_in 2 (some .boolean)] ++ ([]))
set_option maxRecDepth 100000 in
theorem gd_m_isStandby_n_m_in_F1_413 : GoodIn wp_m_isStandby_n (va_wsS RX12 413 yX12_in wp_m_in_F1) := goodIn_app (goodIn_r _ [1, 2, 3] rfl rfl) (goodIn_ca (goodIn_r _ [4] rfl rfl) (goodIn_nil))
set_option maxRecDepth 100000 in
theorem gd_m_isStandby_n_m_in_F2_413 : GoodIn wp_m_isStandby_n (va_wsS RX12 413 yX12_in wp_m_in_F2) := goodIn_app (goodIn_r _ [1, 2, 3] rfl rfl) (goodIn_ca (goodIn_r _ [4] rfl rfl) (goodIn_nil))
set_option maxHeartbeats 4000000 in
set_option maxRecDepth 100000 in
theorem m_isStandby_n (l : Launch) (D : va_G) (K : Nat → ClassId) (h : Nat) (q : Nat → Nat) (fa : Int64) (sa : Int64) (d : Int32) (h0 : ¬ d = 0) (h1 : ¬ d = 1) : MG l yX12_isStandby wp_m_isStandby_n ({ frames := 1, cells := 0, slots := 0, locals := 21 }) D (tysA K) [.ref h, .int d] [(h, .inr (12, fsM q 0 0 0 0 0))] (Qi D (fun (r : Int32) (_ : Unit) => r = 0) (fun _ => [(h, .inr (12, fsM q 0 0 0 0 0))])) 0 0 := by
  refine mg_of (cc := cX12_isStandby) (maxL := 2) (ret := (some .boolean)) (by decide +kernel) rfl (Nat.le_of_ble_eq_true rfl) ?_
  intro p e s m below meth c A B hr hlk hnam
  show V _ _ _ _ _ _ _ _ _ _ _ _ _ _ _ _ [(0, .ref h), (1, .int d)] _ _
  by_cases e1 : d < 0
  · skip
    refine v_iload_n B dX12_isStandby_0 rfl rfl ?_
    refine v_iconst B (v := 2) dX12_isStandby_1 (by decide +kernel) ?_
    refine v_callSi B (n := 2) (As := [.int d, .int 2]) (rest := []) (wc := []) (wr := [(h, .inr (12, fsM q 0 0 0 0 0))]) (m_in_F1 l D K d 2 e1) gd_m_isStandby_n_m_in_F1_413 rfl rfl rfl (by decide +kernel) ⟨by decide +kernel, by decide +kernel⟩ (sp_pl [] [0] rfl rfl rfl rfl rfl) rfl rfl (Nat.le_of_ble_eq_true rfl) dX12_isStandby_2 ⟨by decide +kernel, by decide +kernel⟩ (fun r_3 u_1 hp_2 => ?_)
    subst hp_2
    show V _ _ _ _ _ _ _ _ _ _ _ _ _ _ (0, 0) [(h, .inr (12, fsM q 0 0 0 0 0))] _ _ [.int 0]
    show V _ _ _ _ _ _ _ _ _ _ _ _ _ _ (0, 0) [(h, .inr (12, fsM q 0 0 0 0 0))] _ _ _
    refine v_if_eq B (tgt := 21) dX12_isStandby_5 (by decide +kernel) (fun _ => ?_) (fun h => absurd (by decide +kernel) h)
    refine v_iconst B (v := 0) dX12_isStandby_21 (by decide +kernel) ?_
    exact v_zret B hr hlk (by decide +kernel) () rfl rfl (by decide +kernel) (by decide +kernel) dX12_isStandby_22
  · skip
    refine v_iload_n B dX12_isStandby_0 rfl rfl ?_
    refine v_iconst B (v := 2) dX12_isStandby_1 (by decide +kernel) ?_
    refine v_callSi B (n := 2) (As := [.int d, .int 2]) (rest := []) (wc := []) (wr := [(h, .inr (12, fsM q 0 0 0 0 0))]) (m_in_F2 l D K d 2 (rg_nlt (i_ge2 h0 h1 e1) (by decide +kernel)) (rg_ge (i_ge2 h0 h1 e1) (by decide +kernel))) gd_m_isStandby_n_m_in_F2_413 rfl rfl rfl (by decide +kernel) ⟨by decide +kernel, by decide +kernel⟩ (sp_pl [] [0] rfl rfl rfl rfl rfl) rfl rfl (Nat.le_of_ble_eq_true rfl) dX12_isStandby_2 ⟨by decide +kernel, by decide +kernel⟩ (fun r_6 u_4 hp_5 => ?_)
    subst hp_5
    show V _ _ _ _ _ _ _ _ _ _ _ _ _ _ (0, 0) [(h, .inr (12, fsM q 0 0 0 0 0))] _ _ [.int 0]
    show V _ _ _ _ _ _ _ _ _ _ _ _ _ _ (0, 0) [(h, .inr (12, fsM q 0 0 0 0 0))] _ _ _
    refine v_if_eq B (tgt := 21) dX12_isStandby_5 (by decide +kernel) (fun _ => ?_) (fun h => absurd (by decide +kernel) h)
    refine v_iconst B (v := 0) dX12_isStandby_21 (by decide +kernel) ?_
    exact v_zret B hr hlk (by decide +kernel) () rfl rfl (by decide +kernel) (by decide +kernel) dX12_isStandby_22

def wp_m_mayControl_n : List Cond := .code yX12_mayControl cX12_mayControl 2 (some .boolean) :: ([.methodLink RX12 413 yX12_in, .static yX12_in, .initialized RX12, .code yX12_in cX12_in 2 (some .boolean)] ++ ([]))
set_option maxRecDepth 100000 in
theorem gd_m_mayControl_n_m_in_F1_413 : GoodIn wp_m_mayControl_n (va_wsS RX12 413 yX12_in wp_m_in_F1) := goodIn_app (goodIn_r _ [1, 2, 3] rfl rfl) (goodIn_ca (goodIn_r _ [4] rfl rfl) (goodIn_nil))
set_option maxRecDepth 100000 in
theorem gd_m_mayControl_n_m_in_F2_413 : GoodIn wp_m_mayControl_n (va_wsS RX12 413 yX12_in wp_m_in_F2) := goodIn_app (goodIn_r _ [1, 2, 3] rfl rfl) (goodIn_ca (goodIn_r _ [4] rfl rfl) (goodIn_nil))
set_option maxHeartbeats 4000000 in
set_option maxRecDepth 100000 in
theorem m_mayControl_n (l : Launch) (D : va_G) (K : Nat → ClassId) (h : Nat) (q : Nat → Nat) (fa : Int64) (sa : Int64) (d : Int32) (h0 : ¬ d = 0) (h1 : ¬ d = 1) : MG l yX12_mayControl wp_m_mayControl_n ({ frames := 1, cells := 0, slots := 0, locals := 21 }) D (tysA K) [.ref h, .int d] [(h, .inr (12, fsM q 0 0 0 0 0))] (Qi D (fun (r : Int32) (_ : Unit) => r = 0) (fun _ => [(h, .inr (12, fsM q 0 0 0 0 0))])) 0 0 := by
  refine mg_of (cc := cX12_mayControl) (maxL := 2) (ret := (some .boolean)) (by decide +kernel) rfl (Nat.le_of_ble_eq_true rfl) ?_
  intro p e s m below meth c A B hr hlk hnam
  show V _ _ _ _ _ _ _ _ _ _ _ _ _ _ _ _ [(0, .ref h), (1, .int d)] _ _
  by_cases e1 : d < 0
  · skip
    refine v_iload_n B dX12_mayControl_0 rfl rfl ?_
    refine v_iconst B (v := 2) dX12_mayControl_1 (by decide +kernel) ?_
    refine v_callSi B (n := 2) (As := [.int d, .int 2]) (rest := []) (wc := []) (wr := [(h, .inr (12, fsM q 0 0 0 0 0))]) (m_in_F1 l D K d 2 e1) gd_m_mayControl_n_m_in_F1_413 rfl rfl rfl (by decide +kernel) ⟨by decide +kernel, by decide +kernel⟩ (sp_pl [] [0] rfl rfl rfl rfl rfl) rfl rfl (Nat.le_of_ble_eq_true rfl) dX12_mayControl_2 ⟨by decide +kernel, by decide +kernel⟩ (fun r_3 u_1 hp_2 => ?_)
    subst hp_2
    show V _ _ _ _ _ _ _ _ _ _ _ _ _ _ (0, 0) [(h, .inr (12, fsM q 0 0 0 0 0))] _ _ [.int 0]
    show V _ _ _ _ _ _ _ _ _ _ _ _ _ _ (0, 0) [(h, .inr (12, fsM q 0 0 0 0 0))] _ _ _
    refine v_if_eq B (tgt := 39) dX12_mayControl_5 (by decide +kernel) (fun _ => ?_) (fun h => absurd (by decide +kernel) h)
    refine v_iconst B (v := 0) dX12_mayControl_39 (by decide +kernel) ?_
    exact v_zret B hr hlk (by decide +kernel) () rfl rfl (by decide +kernel) (by decide +kernel) dX12_mayControl_40
  · skip
    refine v_iload_n B dX12_mayControl_0 rfl rfl ?_
    refine v_iconst B (v := 2) dX12_mayControl_1 (by decide +kernel) ?_
    refine v_callSi B (n := 2) (As := [.int d, .int 2]) (rest := []) (wc := []) (wr := [(h, .inr (12, fsM q 0 0 0 0 0))]) (m_in_F2 l D K d 2 (rg_nlt (i_ge2 h0 h1 e1) (by decide +kernel)) (rg_ge (i_ge2 h0 h1 e1) (by decide +kernel))) gd_m_mayControl_n_m_in_F2_413 rfl rfl rfl (by decide +kernel) ⟨by decide +kernel, by decide +kernel⟩ (sp_pl [] [0] rfl rfl rfl rfl rfl) rfl rfl (Nat.le_of_ble_eq_true rfl) dX12_mayControl_2 ⟨by decide +kernel, by decide +kernel⟩ (fun r_6 u_4 hp_5 => ?_)
    subst hp_5
    show V _ _ _ _ _ _ _ _ _ _ _ _ _ _ (0, 0) [(h, .inr (12, fsM q 0 0 0 0 0))] _ _ [.int 0]
    show V _ _ _ _ _ _ _ _ _ _ _ _ _ _ (0, 0) [(h, .inr (12, fsM q 0 0 0 0 0))] _ _ _
    refine v_if_eq B (tgt := 39) dX12_mayControl_5 (by decide +kernel) (fun _ => ?_) (fun h => absurd (by decide +kernel) h)
    refine v_iconst B (v := 0) dX12_mayControl_39 (by decide +kernel) ?_
    exact v_zret B hr hlk (by decide +kernel) () rfl rfl (by decide +kernel) (by decide +kernel) dX12_mayControl_40

def wp_y_seed : List Cond := .code yX12_seed cX12_seed 3 (some .boolean) :: ([.fieldLink RX12 1 "LowEnergyModel" "thrown" "I", .methodLink RX12 413 yX12_in, .static yX12_in, .initialized RX12, .code yX12_in cX12_in 2 (some .boolean), .fieldLink RX12 48 "LowEnergyModel" "x" "[I"] ++ (wsX120 ++ ([])))
theorem hi_y_seed_X12 : ∀ x ∈ u_ws RX12 TX12 123, x ∈ wp_y_seed := fun _ h => List.mem_cons_of_mem _ (List.mem_append_right _ (List.mem_append_left _ h))
set_option maxRecDepth 100000 in
theorem gd_y_seed_m_in_T_413 : GoodIn wp_y_seed (va_wsS RX12 413 yX12_in wp_m_in_T) := goodIn_app (goodIn_r _ [2, 3, 4] rfl rfl) (goodIn_ca (goodIn_r _ [5] rfl rfl) (goodIn_nil))
set_option maxRecDepth 100000 in
theorem gd_y_seed_m_in_F1_413 : GoodIn wp_y_seed (va_wsS RX12 413 yX12_in wp_m_in_F1) := goodIn_app (goodIn_r _ [2, 3, 4] rfl rfl) (goodIn_ca (goodIn_r _ [5] rfl rfl) (goodIn_nil))
set_option maxRecDepth 100000 in
theorem gd_y_seed_m_in_F2_413 : GoodIn wp_y_seed (va_wsS RX12 413 yX12_in wp_m_in_F2) := goodIn_app (goodIn_r _ [2, 3, 4] rfl rfl) (goodIn_ca (goodIn_r _ [5] rfl rfl) (goodIn_nil))
set_option maxHeartbeats 4000000 in
set_option maxRecDepth 100000 in
theorem y_seed (l : Launch) (D : va_G) (K : Nat → ClassId) (h : Nat) (q : Nat → Nat) (fa : Int64) (sa : Int64) (d : Int32) (x : Int32) : MG l yX12_seed wp_y_seed ({ frames := 1, cells := 0, slots := 0, locals := 21 }) D (tysA K) [.ref h, .int d, .int x] [(h, .inr (12, fsM q 0 0 0 0 0)), ((q 8), .inl (K 0, 2, .inl (gl [0, 1])))] (Qi D (fun (r : Int32) (_ : Unit) => r = an_seed d x) (fun _ => [])) 0 0 := by
  refine mg_of (cc := cX12_seed) (maxL := 3) (ret := (some .boolean)) (by decide +kernel) rfl (Nat.le_of_ble_eq_true rfl) ?_
  intro p e s m below meth c A B hr hlk hnam
  show V _ _ _ _ _ _ _ _ _ _ _ _ _ _ _ _ [(0, .ref h), (1, .int d), (2, .int x)] _ _
  by_cases h0 : d = 0
  · subst h0
    refine v_aload_n B dX12_seed_0 rfl rfl ?_
    refine v_iconst B (v := 0) dX12_seed_1 (by decide +kernel) ?_
    refine v_put B (C := RX12) (T := TX12) (N := 123) (ci := 12) (k0 := 0) hi_y_seed_X12 rfl rfl 0 (by decide +kernel) tyX12 tyX12_ok nmX12 (List.mem_of_getElem? (i := 1) rfl) rfl (ty := .int) (tyX12_ok 0 (by decide +kernel)) rfl rfl (Nat.le_of_ble_eq_true rfl) (w' := [(h, .inr (12, fsM q 0 0 0 0 0)), ((q 8), .inl (K 0, 2, .inl (gl [0, 1])))]) rfl dX12_seed_2 ?_
    refine v_iload_n B dX12_seed_5 rfl rfl ?_
    refine v_iconst B (v := 2) dX12_seed_6 (by decide +kernel) ?_
    refine v_callSi B (n := 2) (As := [.int 0, .int 2]) (rest := []) (wc := []) (wr := [(h, .inr (12, fsM q 0 0 0 0 0)), ((q 8), .inl (K 0, 2, .inl (gl [0, 1])))]) (m_in_T l D K 0 2 (by decide +kernel) (by decide +kernel)) gd_y_seed_m_in_T_413 rfl rfl rfl (by decide +kernel) ⟨by decide +kernel, by decide +kernel⟩ (sp_pl [] [0, 1] rfl rfl rfl rfl rfl) rfl rfl (Nat.le_of_ble_eq_true rfl) dX12_seed_7 ⟨by decide +kernel, by decide +kernel⟩ (fun r_3 u_1 hp_2 => ?_)
    subst hp_2
    show V _ _ _ _ _ _ _ _ _ _ _ _ _ _ (0, 0) [(h, .inr (12, fsM q 0 0 0 0 0)), ((q 8), .inl (K 0, 2, .inl (gl [0, 1])))] _ _ [.int 1]
    show V _ _ _ _ _ _ _ _ _ _ _ _ _ _ (0, 0) [(h, .inr (12, fsM q 0 0 0 0 0)), ((q 8), .inl (K 0, 2, .inl (gl [0, 1])))] _ _ _
    refine v_if_ne B (tgt := 15) dX12_seed_10 (by decide +kernel) (fun _ => ?_) (fun h => absurd h (by decide +kernel))
    refine v_aload_n B dX12_seed_15 rfl rfl ?_
    refine v_get B (C := RX12) (T := TX12) (N := 123) (ci := 12) (k0 := 0) hi_y_seed_X12 rfl rfl 8 (by decide +kernel) (List.mem_of_getElem? (i := 6) rfl) rfl dX12_seed_16 ?_
    refine v_iload_n B dX12_seed_19 rfl rfl ?_
    refine v_iload_n B dX12_seed_20 rfl rfl ?_
    refine v_iastL B (k0 := 1) (t0 := 0) (k := 0) (y := x) (w' := [(h, .inr (12, fsM q 0 0 0 0 0)), ((q 8), .inl (K 0, 2, .inl (gl [x, 1])))]) rfl rfl (vpi (by decide +kernel)) (by decide +kernel) (Nat.le_of_ble_eq_true rfl) rfl rfl dX12_seed_21 ?_
    refine v_iconst B (v := 1) dX12_seed_22 (by decide +kernel) ?_
    refine v_forget (wc := []) (wr := []) (sp_pl [] [] rfl rfl rfl rfl rfl) ?_
    exact v_zret B hr hlk (by decide +kernel) () (by simp [an_seed]) rfl (by decide +kernel) (by decide +kernel) dX12_seed_23
  · skip
    by_cases h1 : d = 1
    · subst h1
      refine v_aload_n B dX12_seed_0 rfl rfl ?_
      refine v_iconst B (v := 0) dX12_seed_1 (by decide +kernel) ?_
      refine v_put B (C := RX12) (T := TX12) (N := 123) (ci := 12) (k0 := 0) hi_y_seed_X12 rfl rfl 0 (by decide +kernel) tyX12 tyX12_ok nmX12 (List.mem_of_getElem? (i := 1) rfl) rfl (ty := .int) (tyX12_ok 0 (by decide +kernel)) rfl rfl (Nat.le_of_ble_eq_true rfl) (w' := [(h, .inr (12, fsM q 0 0 0 0 0)), ((q 8), .inl (K 0, 2, .inl (gl [0, 1])))]) rfl dX12_seed_2 ?_
      refine v_iload_n B dX12_seed_5 rfl rfl ?_
      refine v_iconst B (v := 2) dX12_seed_6 (by decide +kernel) ?_
      refine v_callSi B (n := 2) (As := [.int 1, .int 2]) (rest := []) (wc := []) (wr := [(h, .inr (12, fsM q 0 0 0 0 0)), ((q 8), .inl (K 0, 2, .inl (gl [0, 1])))]) (m_in_T l D K 1 2 (by decide +kernel) (by decide +kernel)) gd_y_seed_m_in_T_413 rfl rfl rfl (by decide +kernel) ⟨by decide +kernel, by decide +kernel⟩ (sp_pl [] [0, 1] rfl rfl rfl rfl rfl) rfl rfl (Nat.le_of_ble_eq_true rfl) dX12_seed_7 ⟨by decide +kernel, by decide +kernel⟩ (fun r_6 u_4 hp_5 => ?_)
      subst hp_5
      show V _ _ _ _ _ _ _ _ _ _ _ _ _ _ (0, 0) [(h, .inr (12, fsM q 0 0 0 0 0)), ((q 8), .inl (K 0, 2, .inl (gl [0, 1])))] _ _ [.int 1]
      show V _ _ _ _ _ _ _ _ _ _ _ _ _ _ (0, 0) [(h, .inr (12, fsM q 0 0 0 0 0)), ((q 8), .inl (K 0, 2, .inl (gl [0, 1])))] _ _ _
      refine v_if_ne B (tgt := 15) dX12_seed_10 (by decide +kernel) (fun _ => ?_) (fun h => absurd h (by decide +kernel))
      refine v_aload_n B dX12_seed_15 rfl rfl ?_
      refine v_get B (C := RX12) (T := TX12) (N := 123) (ci := 12) (k0 := 0) hi_y_seed_X12 rfl rfl 8 (by decide +kernel) (List.mem_of_getElem? (i := 6) rfl) rfl dX12_seed_16 ?_
      refine v_iload_n B dX12_seed_19 rfl rfl ?_
      refine v_iload_n B dX12_seed_20 rfl rfl ?_
      refine v_iastL B (k0 := 1) (t0 := 0) (k := 1) (y := x) (w' := [(h, .inr (12, fsM q 0 0 0 0 0)), ((q 8), .inl (K 0, 2, .inl (gl [0, x])))]) rfl rfl (vpi (by decide +kernel)) (by decide +kernel) (Nat.le_of_ble_eq_true rfl) rfl rfl dX12_seed_21 ?_
      refine v_iconst B (v := 1) dX12_seed_22 (by decide +kernel) ?_
      refine v_forget (wc := []) (wr := []) (sp_pl [] [] rfl rfl rfl rfl rfl) ?_
      exact v_zret B hr hlk (by decide +kernel) () (by simp [an_seed]) rfl (by decide +kernel) (by decide +kernel) dX12_seed_23
    · skip
      by_cases e1 : d < 0
      · skip
        refine v_aload_n B dX12_seed_0 rfl rfl ?_
        refine v_iconst B (v := 0) dX12_seed_1 (by decide +kernel) ?_
        refine v_put B (C := RX12) (T := TX12) (N := 123) (ci := 12) (k0 := 0) hi_y_seed_X12 rfl rfl 0 (by decide +kernel) tyX12 tyX12_ok nmX12 (List.mem_of_getElem? (i := 1) rfl) rfl (ty := .int) (tyX12_ok 0 (by decide +kernel)) rfl rfl (Nat.le_of_ble_eq_true rfl) (w' := [(h, .inr (12, fsM q 0 0 0 0 0)), ((q 8), .inl (K 0, 2, .inl (gl [0, 1])))]) rfl dX12_seed_2 ?_
        refine v_iload_n B dX12_seed_5 rfl rfl ?_
        refine v_iconst B (v := 2) dX12_seed_6 (by decide +kernel) ?_
        refine v_callSi B (n := 2) (As := [.int d, .int 2]) (rest := []) (wc := []) (wr := [(h, .inr (12, fsM q 0 0 0 0 0)), ((q 8), .inl (K 0, 2, .inl (gl [0, 1])))]) (m_in_F1 l D K d 2 e1) gd_y_seed_m_in_F1_413 rfl rfl rfl (by decide +kernel) ⟨by decide +kernel, by decide +kernel⟩ (sp_pl [] [0, 1] rfl rfl rfl rfl rfl) rfl rfl (Nat.le_of_ble_eq_true rfl) dX12_seed_7 ⟨by decide +kernel, by decide +kernel⟩ (fun r_9 u_7 hp_8 => ?_)
        subst hp_8
        show V _ _ _ _ _ _ _ _ _ _ _ _ _ _ (0, 0) [(h, .inr (12, fsM q 0 0 0 0 0)), ((q 8), .inl (K 0, 2, .inl (gl [0, 1])))] _ _ [.int 0]
        show V _ _ _ _ _ _ _ _ _ _ _ _ _ _ (0, 0) [(h, .inr (12, fsM q 0 0 0 0 0)), ((q 8), .inl (K 0, 2, .inl (gl [0, 1])))] _ _ _
        refine v_if_ne B (tgt := 15) dX12_seed_10 (by decide +kernel) (fun h => absurd (by decide +kernel) h) (fun _ => ?_)
        refine v_iconst B (v := 0) dX12_seed_13 (by decide +kernel) ?_
        refine v_forget (wc := []) (wr := []) (sp_pl [] [] rfl rfl rfl rfl rfl) ?_
        exact v_zret B hr hlk (by decide +kernel) () (by simp [an_seed, h0, h1]) rfl (by decide +kernel) (by decide +kernel) dX12_seed_14
      · skip
        refine v_aload_n B dX12_seed_0 rfl rfl ?_
        refine v_iconst B (v := 0) dX12_seed_1 (by decide +kernel) ?_
        refine v_put B (C := RX12) (T := TX12) (N := 123) (ci := 12) (k0 := 0) hi_y_seed_X12 rfl rfl 0 (by decide +kernel) tyX12 tyX12_ok nmX12 (List.mem_of_getElem? (i := 1) rfl) rfl (ty := .int) (tyX12_ok 0 (by decide +kernel)) rfl rfl (Nat.le_of_ble_eq_true rfl) (w' := [(h, .inr (12, fsM q 0 0 0 0 0)), ((q 8), .inl (K 0, 2, .inl (gl [0, 1])))]) rfl dX12_seed_2 ?_
        refine v_iload_n B dX12_seed_5 rfl rfl ?_
        refine v_iconst B (v := 2) dX12_seed_6 (by decide +kernel) ?_
        refine v_callSi B (n := 2) (As := [.int d, .int 2]) (rest := []) (wc := []) (wr := [(h, .inr (12, fsM q 0 0 0 0 0)), ((q 8), .inl (K 0, 2, .inl (gl [0, 1])))]) (m_in_F2 l D K d 2 (rg_nlt (i_ge2 h0 h1 e1) (by decide +kernel)) (rg_ge (i_ge2 h0 h1 e1) (by decide +kernel))) gd_y_seed_m_in_F2_413 rfl rfl rfl (by decide +kernel) ⟨by decide +kernel, by decide +kernel⟩ (sp_pl [] [0, 1] rfl rfl rfl rfl rfl) rfl rfl (Nat.le_of_ble_eq_true rfl) dX12_seed_7 ⟨by decide +kernel, by decide +kernel⟩ (fun r_12 u_10 hp_11 => ?_)
        subst hp_11
        show V _ _ _ _ _ _ _ _ _ _ _ _ _ _ (0, 0) [(h, .inr (12, fsM q 0 0 0 0 0)), ((q 8), .inl (K 0, 2, .inl (gl [0, 1])))] _ _ [.int 0]
        show V _ _ _ _ _ _ _ _ _ _ _ _ _ _ (0, 0) [(h, .inr (12, fsM q 0 0 0 0 0)), ((q 8), .inl (K 0, 2, .inl (gl [0, 1])))] _ _ _
        refine v_if_ne B (tgt := 15) dX12_seed_10 (by decide +kernel) (fun h => absurd (by decide +kernel) h) (fun _ => ?_)
        refine v_iconst B (v := 0) dX12_seed_13 (by decide +kernel) ?_
        refine v_forget (wc := []) (wr := []) (sp_pl [] [] rfl rfl rfl rfl rfl) ?_
        exact v_zret B hr hlk (by decide +kernel) () (by simp [an_seed, h0, h1]) rfl (by decide +kernel) (by decide +kernel) dX12_seed_14

def wp_y_scan : List Cond := .code yX12_scan cX12_scan 2 (some .boolean) :: ([.fieldLink RX12 1 "LowEnergyModel" "thrown" "I", .methodLink RX12 678 yX12_isStandby, .instanceMethod yX12_isStandby, .selects RX12 yX12_isStandby yX12_isStandby, .initialized RX12, .code yX12_isStandby cX12_isStandby 2 (some .boolean), .methodLink RX12 413 yX12_in, .static yX12_in, .code yX12_in cX12_in 2 (some .boolean), .fieldLink RX12 45 "LowEnergyModel" "state" "[I"] ++ (wsX120 ++ ([])))
theorem hi_y_scan_X12 : ∀ x ∈ u_ws RX12 TX12 123, x ∈ wp_y_scan := fun _ h => List.mem_cons_of_mem _ (List.mem_append_right _ (List.mem_append_left _ h))
set_option maxRecDepth 100000 in
theorem gd_y_scan_m_isStandby_0_678 : GoodIn wp_y_scan (wsV RX12 678 RX12 yX12_isStandby wp_m_isStandby_0) := goodIn_app (goodIn_r _ [2, 3, 4, 5] rfl rfl) (goodIn_ca (goodIn_r _ [6, 7, 8, 5, 9, 10] rfl rfl) (goodIn_app (goodIn_cls hi_y_scan_X12 gw_X12) (goodIn_nil)))
set_option maxRecDepth 100000 in
theorem gd_y_scan_m_isStandby_1_678 : GoodIn wp_y_scan (wsV RX12 678 RX12 yX12_isStandby wp_m_isStandby_1) := goodIn_app (goodIn_r _ [2, 3, 4, 5] rfl rfl) (goodIn_ca (goodIn_r _ [6, 7, 8, 5, 9, 10] rfl rfl) (goodIn_app (goodIn_cls hi_y_scan_X12 gw_X12) (goodIn_nil)))
set_option maxRecDepth 100000 in
theorem gd_y_scan_m_isStandby_n_678 : GoodIn wp_y_scan (wsV RX12 678 RX12 yX12_isStandby wp_m_isStandby_n) := goodIn_app (goodIn_r _ [2, 3, 4, 5] rfl rfl) (goodIn_ca (goodIn_r _ [6, 7, 8, 5, 9] rfl rfl) (goodIn_nil))
set_option maxHeartbeats 4000000 in
set_option maxRecDepth 100000 in
theorem y_scan (l : Launch) (D : va_G) (K : Nat → ClassId) (h : Nat) (q : Nat → Nat) (fa : Int64) (sa : Int64) (d : Int32) : MG l yX12_scan wp_y_scan ({ frames := 2, cells := 0, slots := 0, locals := 42 }) D (tysA K) [.ref h, .int d] [(h, .inr (12, fsM q 0 0 0 0 0)), ((q 7), .inl (K 0, 2, .inl (gl [0, 0])))] (Qi D (fun (r : Int32) (_ : Unit) => r = an_scan d) (fun _ => [])) 0 0 := by
  refine mg_of (cc := cX12_scan) (maxL := 2) (ret := (some .boolean)) (by decide +kernel) rfl (Nat.le_of_ble_eq_true rfl) ?_
  intro p e s m below meth c A B hr hlk hnam
  show V _ _ _ _ _ _ _ _ _ _ _ _ _ _ _ _ [(0, .ref h), (1, .int d)] _ _
  by_cases h0 : d = 0
  · subst h0
    refine v_aload_n B dX12_scan_0 rfl rfl ?_
    refine v_iconst B (v := 0) dX12_scan_1 (by decide +kernel) ?_
    refine v_put B (C := RX12) (T := TX12) (N := 123) (ci := 12) (k0 := 0) hi_y_scan_X12 rfl rfl 0 (by decide +kernel) tyX12 tyX12_ok nmX12 (List.mem_of_getElem? (i := 1) rfl) rfl (ty := .int) (tyX12_ok 0 (by decide +kernel)) rfl rfl (Nat.le_of_ble_eq_true rfl) (w' := [(h, .inr (12, fsM q 0 0 0 0 0)), ((q 7), .inl (K 0, 2, .inl (gl [0, 0])))]) rfl dX12_scan_2 ?_
    refine v_aload_n B dX12_scan_5 rfl rfl ?_
    refine v_iload_n B dX12_scan_6 rfl rfl ?_
    refine v_callVi B (b := h) (n := 1) (As := [.int 0]) (rest := []) (wc := [(h, .inr (12, fsM q 0 0 0 0 0)), ((q 7), .inl (K 0, 2, .inl (gl [0, 0])))]) (wr := []) (m_isStandby_0 l D K h q fa sa) gd_y_scan_m_isStandby_0_678 rfl rfl rfl (by decide +kernel) ⟨by decide +kernel, by decide +kernel⟩ 0 rfl rfl rfl (sp_pl [0, 1] [] rfl rfl rfl rfl rfl) rfl rfl (Nat.le_of_ble_eq_true rfl) dX12_scan_7 ⟨by decide +kernel, by decide +kernel⟩ (fun r_3 u_1 hp_2 => ?_)
    subst hp_2
    show V _ _ _ _ _ _ _ _ _ _ _ _ _ _ (0, 0) [(h, .inr (12, fsM q 0 0 0 0 0)), ((q 7), .inl (K 0, 2, .inl (gl [0, 0])))] _ _ [.int 1]
    show V _ _ _ _ _ _ _ _ _ _ _ _ _ _ (0, 0) [(h, .inr (12, fsM q 0 0 0 0 0)), ((q 7), .inl (K 0, 2, .inl (gl [0, 0])))] _ _ _
    refine v_if_ne B (tgt := 15) dX12_scan_10 (by decide +kernel) (fun _ => ?_) (fun h => absurd h (by decide +kernel))
    refine v_aload_n B dX12_scan_15 rfl rfl ?_
    refine v_get B (C := RX12) (T := TX12) (N := 123) (ci := 12) (k0 := 0) hi_y_scan_X12 rfl rfl 7 (by decide +kernel) (List.mem_of_getElem? (i := 10) rfl) rfl dX12_scan_16 ?_
    refine v_iload_n B dX12_scan_19 rfl rfl ?_
    refine v_iconst B (v := 2) dX12_scan_20 (by decide +kernel) ?_
    refine v_iastL B (k0 := 1) (t0 := 0) (k := 0) (y := 2) (w' := [(h, .inr (12, fsM q 0 0 0 0 0)), ((q 7), .inl (K 0, 2, .inl (gl [2, 0])))]) rfl rfl (vpi (by decide +kernel)) (by decide +kernel) (Nat.le_of_ble_eq_true rfl) rfl rfl dX12_scan_21 ?_
    refine v_iconst B (v := 1) dX12_scan_22 (by decide +kernel) ?_
    refine v_forget (wc := []) (wr := []) (sp_pl [] [] rfl rfl rfl rfl rfl) ?_
    exact v_zret B hr hlk (by decide +kernel) () (by simp [an_scan]) rfl (by decide +kernel) (by decide +kernel) dX12_scan_23
  · skip
    by_cases h1 : d = 1
    · subst h1
      refine v_aload_n B dX12_scan_0 rfl rfl ?_
      refine v_iconst B (v := 0) dX12_scan_1 (by decide +kernel) ?_
      refine v_put B (C := RX12) (T := TX12) (N := 123) (ci := 12) (k0 := 0) hi_y_scan_X12 rfl rfl 0 (by decide +kernel) tyX12 tyX12_ok nmX12 (List.mem_of_getElem? (i := 1) rfl) rfl (ty := .int) (tyX12_ok 0 (by decide +kernel)) rfl rfl (Nat.le_of_ble_eq_true rfl) (w' := [(h, .inr (12, fsM q 0 0 0 0 0)), ((q 7), .inl (K 0, 2, .inl (gl [0, 0])))]) rfl dX12_scan_2 ?_
      refine v_aload_n B dX12_scan_5 rfl rfl ?_
      refine v_iload_n B dX12_scan_6 rfl rfl ?_
      refine v_callVi B (b := h) (n := 1) (As := [.int 1]) (rest := []) (wc := [(h, .inr (12, fsM q 0 0 0 0 0)), ((q 7), .inl (K 0, 2, .inl (gl [0, 0])))]) (wr := []) (m_isStandby_1 l D K h q fa sa) gd_y_scan_m_isStandby_1_678 rfl rfl rfl (by decide +kernel) ⟨by decide +kernel, by decide +kernel⟩ 0 rfl rfl rfl (sp_pl [0, 1] [] rfl rfl rfl rfl rfl) rfl rfl (Nat.le_of_ble_eq_true rfl) dX12_scan_7 ⟨by decide +kernel, by decide +kernel⟩ (fun r_6 u_4 hp_5 => ?_)
      subst hp_5
      show V _ _ _ _ _ _ _ _ _ _ _ _ _ _ (0, 0) [(h, .inr (12, fsM q 0 0 0 0 0)), ((q 7), .inl (K 0, 2, .inl (gl [0, 0])))] _ _ [.int 1]
      show V _ _ _ _ _ _ _ _ _ _ _ _ _ _ (0, 0) [(h, .inr (12, fsM q 0 0 0 0 0)), ((q 7), .inl (K 0, 2, .inl (gl [0, 0])))] _ _ _
      refine v_if_ne B (tgt := 15) dX12_scan_10 (by decide +kernel) (fun _ => ?_) (fun h => absurd h (by decide +kernel))
      refine v_aload_n B dX12_scan_15 rfl rfl ?_
      refine v_get B (C := RX12) (T := TX12) (N := 123) (ci := 12) (k0 := 0) hi_y_scan_X12 rfl rfl 7 (by decide +kernel) (List.mem_of_getElem? (i := 10) rfl) rfl dX12_scan_16 ?_
      refine v_iload_n B dX12_scan_19 rfl rfl ?_
      refine v_iconst B (v := 2) dX12_scan_20 (by decide +kernel) ?_
      refine v_iastL B (k0 := 1) (t0 := 0) (k := 1) (y := 2) (w' := [(h, .inr (12, fsM q 0 0 0 0 0)), ((q 7), .inl (K 0, 2, .inl (gl [0, 2])))]) rfl rfl (vpi (by decide +kernel)) (by decide +kernel) (Nat.le_of_ble_eq_true rfl) rfl rfl dX12_scan_21 ?_
      refine v_iconst B (v := 1) dX12_scan_22 (by decide +kernel) ?_
      refine v_forget (wc := []) (wr := []) (sp_pl [] [] rfl rfl rfl rfl rfl) ?_
      exact v_zret B hr hlk (by decide +kernel) () (by simp [an_scan]) rfl (by decide +kernel) (by decide +kernel) dX12_scan_23
    · skip
      by_cases e1 : d < 0
      · skip
        refine v_aload_n B dX12_scan_0 rfl rfl ?_
        refine v_iconst B (v := 0) dX12_scan_1 (by decide +kernel) ?_
        refine v_put B (C := RX12) (T := TX12) (N := 123) (ci := 12) (k0 := 0) hi_y_scan_X12 rfl rfl 0 (by decide +kernel) tyX12 tyX12_ok nmX12 (List.mem_of_getElem? (i := 1) rfl) rfl (ty := .int) (tyX12_ok 0 (by decide +kernel)) rfl rfl (Nat.le_of_ble_eq_true rfl) (w' := [(h, .inr (12, fsM q 0 0 0 0 0)), ((q 7), .inl (K 0, 2, .inl (gl [0, 0])))]) rfl dX12_scan_2 ?_
        refine v_aload_n B dX12_scan_5 rfl rfl ?_
        refine v_iload_n B dX12_scan_6 rfl rfl ?_
        refine v_callVi B (b := h) (n := 1) (As := [.int d]) (rest := []) (wc := [(h, .inr (12, fsM q 0 0 0 0 0))]) (wr := [((q 7), .inl (K 0, 2, .inl (gl [0, 0])))]) (m_isStandby_n l D K h q fa sa d h0 h1) gd_y_scan_m_isStandby_n_678 rfl rfl rfl (by decide +kernel) ⟨by decide +kernel, by decide +kernel⟩ 0 rfl rfl rfl (sp_pl [0] [1] rfl rfl rfl rfl rfl) rfl rfl (Nat.le_of_ble_eq_true rfl) dX12_scan_7 ⟨by decide +kernel, by decide +kernel⟩ (fun r_9 u_7 hp_8 => ?_)
        subst hp_8
        show V _ _ _ _ _ _ _ _ _ _ _ _ _ _ (0, 0) [((q 7), .inl (K 0, 2, .inl (gl [0, 0]))), (h, .inr (12, fsM q 0 0 0 0 0))] _ _ [.int 0]
        show V _ _ _ _ _ _ _ _ _ _ _ _ _ _ (0, 0) [((q 7), .inl (K 0, 2, .inl (gl [0, 0]))), (h, .inr (12, fsM q 0 0 0 0 0))] _ _ _
        refine v_if_ne B (tgt := 15) dX12_scan_10 (by decide +kernel) (fun h => absurd (by decide +kernel) h) (fun _ => ?_)
        refine v_iconst B (v := 0) dX12_scan_13 (by decide +kernel) ?_
        refine v_forget (wc := []) (wr := []) (sp_pl [] [] rfl rfl rfl rfl rfl) ?_
        exact v_zret B hr hlk (by decide +kernel) () (by simp [an_scan, h0, h1]) rfl (by decide +kernel) (by decide +kernel) dX12_scan_14
      · skip
        refine v_aload_n B dX12_scan_0 rfl rfl ?_
        refine v_iconst B (v := 0) dX12_scan_1 (by decide +kernel) ?_
        refine v_put B (C := RX12) (T := TX12) (N := 123) (ci := 12) (k0 := 0) hi_y_scan_X12 rfl rfl 0 (by decide +kernel) tyX12 tyX12_ok nmX12 (List.mem_of_getElem? (i := 1) rfl) rfl (ty := .int) (tyX12_ok 0 (by decide +kernel)) rfl rfl (Nat.le_of_ble_eq_true rfl) (w' := [(h, .inr (12, fsM q 0 0 0 0 0)), ((q 7), .inl (K 0, 2, .inl (gl [0, 0])))]) rfl dX12_scan_2 ?_
        refine v_aload_n B dX12_scan_5 rfl rfl ?_
        refine v_iload_n B dX12_scan_6 rfl rfl ?_
        refine v_callVi B (b := h) (n := 1) (As := [.int d]) (rest := []) (wc := [(h, .inr (12, fsM q 0 0 0 0 0))]) (wr := [((q 7), .inl (K 0, 2, .inl (gl [0, 0])))]) (m_isStandby_n l D K h q fa sa d h0 h1) gd_y_scan_m_isStandby_n_678 rfl rfl rfl (by decide +kernel) ⟨by decide +kernel, by decide +kernel⟩ 0 rfl rfl rfl (sp_pl [0] [1] rfl rfl rfl rfl rfl) rfl rfl (Nat.le_of_ble_eq_true rfl) dX12_scan_7 ⟨by decide +kernel, by decide +kernel⟩ (fun r_12 u_10 hp_11 => ?_)
        subst hp_11
        show V _ _ _ _ _ _ _ _ _ _ _ _ _ _ (0, 0) [((q 7), .inl (K 0, 2, .inl (gl [0, 0]))), (h, .inr (12, fsM q 0 0 0 0 0))] _ _ [.int 0]
        show V _ _ _ _ _ _ _ _ _ _ _ _ _ _ (0, 0) [((q 7), .inl (K 0, 2, .inl (gl [0, 0]))), (h, .inr (12, fsM q 0 0 0 0 0))] _ _ _
        refine v_if_ne B (tgt := 15) dX12_scan_10 (by decide +kernel) (fun h => absurd (by decide +kernel) h) (fun _ => ?_)
        refine v_iconst B (v := 0) dX12_scan_13 (by decide +kernel) ?_
        refine v_forget (wc := []) (wr := []) (sp_pl [] [] rfl rfl rfl rfl rfl) ?_
        exact v_zret B hr hlk (by decide +kernel) () (by simp [an_scan, h0, h1]) rfl (by decide +kernel) (by decide +kernel) dX12_scan_14

def wp_y_features : List Cond := .code yX12_features cX12_features 4 (some .boolean) :: ([.fieldLink RX12 1 "LowEnergyModel" "thrown" "I", .methodLink RX12 413 yX12_in, .static yX12_in, .initialized RX12, .code yX12_in cX12_in 2 (some .boolean), .fieldLink RX12 76 "LowEnergyModel" "features" "[J"] ++ (wsX120 ++ ([])))
theorem hi_y_features_X12 : ∀ x ∈ u_ws RX12 TX12 123, x ∈ wp_y_features := fun _ h => List.mem_cons_of_mem _ (List.mem_append_right _ (List.mem_append_left _ h))
set_option maxRecDepth 100000 in
theorem gd_y_features_m_in_T_413 : GoodIn wp_y_features (va_wsS RX12 413 yX12_in wp_m_in_T) := goodIn_app (goodIn_r _ [2, 3, 4] rfl rfl) (goodIn_ca (goodIn_r _ [5] rfl rfl) (goodIn_nil))
set_option maxRecDepth 100000 in
theorem gd_y_features_m_in_F1_413 : GoodIn wp_y_features (va_wsS RX12 413 yX12_in wp_m_in_F1) := goodIn_app (goodIn_r _ [2, 3, 4] rfl rfl) (goodIn_ca (goodIn_r _ [5] rfl rfl) (goodIn_nil))
set_option maxRecDepth 100000 in
theorem gd_y_features_m_in_F2_413 : GoodIn wp_y_features (va_wsS RX12 413 yX12_in wp_m_in_F2) := goodIn_app (goodIn_r _ [2, 3, 4] rfl rfl) (goodIn_ca (goodIn_r _ [5] rfl rfl) (goodIn_nil))
set_option maxHeartbeats 4000000 in
set_option maxRecDepth 100000 in
theorem y_features (l : Launch) (D : va_G) (K : Nat → ClassId) (h : Nat) (q : Nat → Nat) (fa : Int64) (sa : Int64) (d : Int32) (f : Int64) : MG l yX12_features wp_y_features ({ frames := 1, cells := 0, slots := 0, locals := 21 }) D (tysA K) [.ref h, .int d, .long f] [(h, .inr (12, fsM q 0 0 0 0 0)), ((q 17), .inl (K 1, 2, .inr (.inl (glL [0, 0]))))] (Qi D (fun (r : Int32) (_ : Unit) => r = an_features d f) (fun _ => [])) 0 0 := by
  refine mg_of (cc := cX12_features) (maxL := 4) (ret := (some .boolean)) (by decide +kernel) rfl (Nat.le_of_ble_eq_true rfl) ?_
  intro p e s m below meth c A B hr hlk hnam
  show V _ _ _ _ _ _ _ _ _ _ _ _ _ _ _ _ [(0, .ref h), (1, .int d), (2, .long f)] _ _
  by_cases h0 : d = 0
  · subst h0
    refine v_aload_n B dX12_features_0 rfl rfl ?_
    refine v_iconst B (v := 0) dX12_features_1 (by decide +kernel) ?_
    refine v_put B (C := RX12) (T := TX12) (N := 123) (ci := 12) (k0 := 0) hi_y_features_X12 rfl rfl 0 (by decide +kernel) tyX12 tyX12_ok nmX12 (List.mem_of_getElem? (i := 1) rfl) rfl (ty := .int) (tyX12_ok 0 (by decide +kernel)) rfl rfl (Nat.le_of_ble_eq_true rfl) (w' := [(h, .inr (12, fsM q 0 0 0 0 0)), ((q 17), .inl (K 1, 2, .inr (.inl (glL [0, 0]))))]) rfl dX12_features_2 ?_
    refine v_iload_n B dX12_features_5 rfl rfl ?_
    refine v_iconst B (v := 2) dX12_features_6 (by decide +kernel) ?_
    refine v_callSi B (n := 2) (As := [.int 0, .int 2]) (rest := []) (wc := []) (wr := [(h, .inr (12, fsM q 0 0 0 0 0)), ((q 17), .inl (K 1, 2, .inr (.inl (glL [0, 0]))))]) (m_in_T l D K 0 2 (by decide +kernel) (by decide +kernel)) gd_y_features_m_in_T_413 rfl rfl rfl (by decide +kernel) ⟨by decide +kernel, by decide +kernel⟩ (sp_pl [] [0, 1] rfl rfl rfl rfl rfl) rfl rfl (Nat.le_of_ble_eq_true rfl) dX12_features_7 ⟨by decide +kernel, by decide +kernel⟩ (fun r_3 u_1 hp_2 => ?_)
    subst hp_2
    show V _ _ _ _ _ _ _ _ _ _ _ _ _ _ (0, 0) [(h, .inr (12, fsM q 0 0 0 0 0)), ((q 17), .inl (K 1, 2, .inr (.inl (glL [0, 0]))))] _ _ [.int 1]
    show V _ _ _ _ _ _ _ _ _ _ _ _ _ _ (0, 0) [(h, .inr (12, fsM q 0 0 0 0 0)), ((q 17), .inl (K 1, 2, .inr (.inl (glL [0, 0]))))] _ _ _
    refine v_if_ne B (tgt := 15) dX12_features_10 (by decide +kernel) (fun _ => ?_) (fun h => absurd h (by decide +kernel))
    refine v_aload_n B dX12_features_15 rfl rfl ?_
    refine v_get B (C := RX12) (T := TX12) (N := 123) (ci := 12) (k0 := 0) hi_y_features_X12 rfl rfl 17 (by decide +kernel) (List.mem_of_getElem? (i := 6) rfl) rfl dX12_features_16 ?_
    refine v_iload_n B dX12_features_19 rfl rfl ?_
    refine v_lload_n B dX12_features_20 rfl rfl ?_
    refine v_lastL B (k0 := 1) (t0 := 1) (k := 0) (y := f) (w' := [(h, .inr (12, fsM q 0 0 0 0 0)), ((q 17), .inl (K 1, 2, .inr (.inl (glL [f, 0]))))]) rfl rfl (vpi (by decide +kernel)) (by decide +kernel) (Nat.le_of_ble_eq_true rfl) rfl rfl dX12_features_21 ?_
    refine v_iconst B (v := 1) dX12_features_22 (by decide +kernel) ?_
    refine v_forget (wc := []) (wr := []) (sp_pl [] [] rfl rfl rfl rfl rfl) ?_
    exact v_zret B hr hlk (by decide +kernel) () (by simp [an_features]) rfl (by decide +kernel) (by decide +kernel) dX12_features_23
  · skip
    by_cases h1 : d = 1
    · subst h1
      refine v_aload_n B dX12_features_0 rfl rfl ?_
      refine v_iconst B (v := 0) dX12_features_1 (by decide +kernel) ?_
      refine v_put B (C := RX12) (T := TX12) (N := 123) (ci := 12) (k0 := 0) hi_y_features_X12 rfl rfl 0 (by decide +kernel) tyX12 tyX12_ok nmX12 (List.mem_of_getElem? (i := 1) rfl) rfl (ty := .int) (tyX12_ok 0 (by decide +kernel)) rfl rfl (Nat.le_of_ble_eq_true rfl) (w' := [(h, .inr (12, fsM q 0 0 0 0 0)), ((q 17), .inl (K 1, 2, .inr (.inl (glL [0, 0]))))]) rfl dX12_features_2 ?_
      refine v_iload_n B dX12_features_5 rfl rfl ?_
      refine v_iconst B (v := 2) dX12_features_6 (by decide +kernel) ?_
      refine v_callSi B (n := 2) (As := [.int 1, .int 2]) (rest := []) (wc := []) (wr := [(h, .inr (12, fsM q 0 0 0 0 0)), ((q 17), .inl (K 1, 2, .inr (.inl (glL [0, 0]))))]) (m_in_T l D K 1 2 (by decide +kernel) (by decide +kernel)) gd_y_features_m_in_T_413 rfl rfl rfl (by decide +kernel) ⟨by decide +kernel, by decide +kernel⟩ (sp_pl [] [0, 1] rfl rfl rfl rfl rfl) rfl rfl (Nat.le_of_ble_eq_true rfl) dX12_features_7 ⟨by decide +kernel, by decide +kernel⟩ (fun r_6 u_4 hp_5 => ?_)
      subst hp_5
      show V _ _ _ _ _ _ _ _ _ _ _ _ _ _ (0, 0) [(h, .inr (12, fsM q 0 0 0 0 0)), ((q 17), .inl (K 1, 2, .inr (.inl (glL [0, 0]))))] _ _ [.int 1]
      show V _ _ _ _ _ _ _ _ _ _ _ _ _ _ (0, 0) [(h, .inr (12, fsM q 0 0 0 0 0)), ((q 17), .inl (K 1, 2, .inr (.inl (glL [0, 0]))))] _ _ _
      refine v_if_ne B (tgt := 15) dX12_features_10 (by decide +kernel) (fun _ => ?_) (fun h => absurd h (by decide +kernel))
      refine v_aload_n B dX12_features_15 rfl rfl ?_
      refine v_get B (C := RX12) (T := TX12) (N := 123) (ci := 12) (k0 := 0) hi_y_features_X12 rfl rfl 17 (by decide +kernel) (List.mem_of_getElem? (i := 6) rfl) rfl dX12_features_16 ?_
      refine v_iload_n B dX12_features_19 rfl rfl ?_
      refine v_lload_n B dX12_features_20 rfl rfl ?_
      refine v_lastL B (k0 := 1) (t0 := 1) (k := 1) (y := f) (w' := [(h, .inr (12, fsM q 0 0 0 0 0)), ((q 17), .inl (K 1, 2, .inr (.inl (glL [0, f]))))]) rfl rfl (vpi (by decide +kernel)) (by decide +kernel) (Nat.le_of_ble_eq_true rfl) rfl rfl dX12_features_21 ?_
      refine v_iconst B (v := 1) dX12_features_22 (by decide +kernel) ?_
      refine v_forget (wc := []) (wr := []) (sp_pl [] [] rfl rfl rfl rfl rfl) ?_
      exact v_zret B hr hlk (by decide +kernel) () (by simp [an_features]) rfl (by decide +kernel) (by decide +kernel) dX12_features_23
    · skip
      by_cases e1 : d < 0
      · skip
        refine v_aload_n B dX12_features_0 rfl rfl ?_
        refine v_iconst B (v := 0) dX12_features_1 (by decide +kernel) ?_
        refine v_put B (C := RX12) (T := TX12) (N := 123) (ci := 12) (k0 := 0) hi_y_features_X12 rfl rfl 0 (by decide +kernel) tyX12 tyX12_ok nmX12 (List.mem_of_getElem? (i := 1) rfl) rfl (ty := .int) (tyX12_ok 0 (by decide +kernel)) rfl rfl (Nat.le_of_ble_eq_true rfl) (w' := [(h, .inr (12, fsM q 0 0 0 0 0)), ((q 17), .inl (K 1, 2, .inr (.inl (glL [0, 0]))))]) rfl dX12_features_2 ?_
        refine v_iload_n B dX12_features_5 rfl rfl ?_
        refine v_iconst B (v := 2) dX12_features_6 (by decide +kernel) ?_
        refine v_callSi B (n := 2) (As := [.int d, .int 2]) (rest := []) (wc := []) (wr := [(h, .inr (12, fsM q 0 0 0 0 0)), ((q 17), .inl (K 1, 2, .inr (.inl (glL [0, 0]))))]) (m_in_F1 l D K d 2 e1) gd_y_features_m_in_F1_413 rfl rfl rfl (by decide +kernel) ⟨by decide +kernel, by decide +kernel⟩ (sp_pl [] [0, 1] rfl rfl rfl rfl rfl) rfl rfl (Nat.le_of_ble_eq_true rfl) dX12_features_7 ⟨by decide +kernel, by decide +kernel⟩ (fun r_9 u_7 hp_8 => ?_)
        subst hp_8
        show V _ _ _ _ _ _ _ _ _ _ _ _ _ _ (0, 0) [(h, .inr (12, fsM q 0 0 0 0 0)), ((q 17), .inl (K 1, 2, .inr (.inl (glL [0, 0]))))] _ _ [.int 0]
        show V _ _ _ _ _ _ _ _ _ _ _ _ _ _ (0, 0) [(h, .inr (12, fsM q 0 0 0 0 0)), ((q 17), .inl (K 1, 2, .inr (.inl (glL [0, 0]))))] _ _ _
        refine v_if_ne B (tgt := 15) dX12_features_10 (by decide +kernel) (fun h => absurd (by decide +kernel) h) (fun _ => ?_)
        refine v_iconst B (v := 0) dX12_features_13 (by decide +kernel) ?_
        refine v_forget (wc := []) (wr := []) (sp_pl [] [] rfl rfl rfl rfl rfl) ?_
        exact v_zret B hr hlk (by decide +kernel) () (by simp [an_features, h0, h1]) rfl (by decide +kernel) (by decide +kernel) dX12_features_14
      · skip
        refine v_aload_n B dX12_features_0 rfl rfl ?_
        refine v_iconst B (v := 0) dX12_features_1 (by decide +kernel) ?_
        refine v_put B (C := RX12) (T := TX12) (N := 123) (ci := 12) (k0 := 0) hi_y_features_X12 rfl rfl 0 (by decide +kernel) tyX12 tyX12_ok nmX12 (List.mem_of_getElem? (i := 1) rfl) rfl (ty := .int) (tyX12_ok 0 (by decide +kernel)) rfl rfl (Nat.le_of_ble_eq_true rfl) (w' := [(h, .inr (12, fsM q 0 0 0 0 0)), ((q 17), .inl (K 1, 2, .inr (.inl (glL [0, 0]))))]) rfl dX12_features_2 ?_
        refine v_iload_n B dX12_features_5 rfl rfl ?_
        refine v_iconst B (v := 2) dX12_features_6 (by decide +kernel) ?_
        refine v_callSi B (n := 2) (As := [.int d, .int 2]) (rest := []) (wc := []) (wr := [(h, .inr (12, fsM q 0 0 0 0 0)), ((q 17), .inl (K 1, 2, .inr (.inl (glL [0, 0]))))]) (m_in_F2 l D K d 2 (rg_nlt (i_ge2 h0 h1 e1) (by decide +kernel)) (rg_ge (i_ge2 h0 h1 e1) (by decide +kernel))) gd_y_features_m_in_F2_413 rfl rfl rfl (by decide +kernel) ⟨by decide +kernel, by decide +kernel⟩ (sp_pl [] [0, 1] rfl rfl rfl rfl rfl) rfl rfl (Nat.le_of_ble_eq_true rfl) dX12_features_7 ⟨by decide +kernel, by decide +kernel⟩ (fun r_12 u_10 hp_11 => ?_)
        subst hp_11
        show V _ _ _ _ _ _ _ _ _ _ _ _ _ _ (0, 0) [(h, .inr (12, fsM q 0 0 0 0 0)), ((q 17), .inl (K 1, 2, .inr (.inl (glL [0, 0]))))] _ _ [.int 0]
        show V _ _ _ _ _ _ _ _ _ _ _ _ _ _ (0, 0) [(h, .inr (12, fsM q 0 0 0 0 0)), ((q 17), .inl (K 1, 2, .inr (.inl (glL [0, 0]))))] _ _ _
        refine v_if_ne B (tgt := 15) dX12_features_10 (by decide +kernel) (fun h => absurd (by decide +kernel) h) (fun _ => ?_)
        refine v_iconst B (v := 0) dX12_features_13 (by decide +kernel) ?_
        refine v_forget (wc := []) (wr := []) (sp_pl [] [] rfl rfl rfl rfl rfl) ?_
        exact v_zret B hr hlk (by decide +kernel) () (by simp [an_features, h0, h1]) rfl (by decide +kernel) (by decide +kernel) dX12_features_14

def wp_y_mtu : List Cond := .code yX12_mtu cX12_mtu 3 (some .boolean) :: ([.fieldLink RX12 1 "LowEnergyModel" "thrown" "I", .methodLink RX12 413 yX12_in, .static yX12_in, .initialized RX12, .code yX12_in cX12_in 2 (some .boolean), .fieldLink RX12 335 "LowEnergyModel" "ownMtu" "[I"] ++ (wsX120 ++ ([])))
theorem hi_y_mtu_X12 : ∀ x ∈ u_ws RX12 TX12 123, x ∈ wp_y_mtu := fun _ h => List.mem_cons_of_mem _ (List.mem_append_right _ (List.mem_append_left _ h))
set_option maxRecDepth 100000 in
theorem gd_y_mtu_m_in_T_413 : GoodIn wp_y_mtu (va_wsS RX12 413 yX12_in wp_m_in_T) := goodIn_app (goodIn_r _ [2, 3, 4] rfl rfl) (goodIn_ca (goodIn_r _ [5] rfl rfl) (goodIn_nil))
set_option maxRecDepth 100000 in
theorem gd_y_mtu_m_in_F1_413 : GoodIn wp_y_mtu (va_wsS RX12 413 yX12_in wp_m_in_F1) := goodIn_app (goodIn_r _ [2, 3, 4] rfl rfl) (goodIn_ca (goodIn_r _ [5] rfl rfl) (goodIn_nil))
set_option maxRecDepth 100000 in
theorem gd_y_mtu_m_in_F2_413 : GoodIn wp_y_mtu (va_wsS RX12 413 yX12_in wp_m_in_F2) := goodIn_app (goodIn_r _ [2, 3, 4] rfl rfl) (goodIn_ca (goodIn_r _ [5] rfl rfl) (goodIn_nil))
set_option maxHeartbeats 4000000 in
set_option maxRecDepth 100000 in
theorem y_mtu (l : Launch) (D : va_G) (K : Nat → ClassId) (h : Nat) (q : Nat → Nat) (fa : Int64) (sa : Int64) (d : Int32) (mu : Int32) : MG l yX12_mtu wp_y_mtu ({ frames := 1, cells := 0, slots := 0, locals := 21 }) D (tysA K) [.ref h, .int d, .int mu] [(h, .inr (12, fsM q 0 0 0 0 0)), ((q 105), .inl (K 0, 2, .inl (gl [23, 23])))] (Qi D (fun (r : Int32) (_ : Unit) => r = an_mtu d mu) (fun _ => [])) 0 0 := by
  refine mg_of (cc := cX12_mtu) (maxL := 3) (ret := (some .boolean)) (by decide +kernel) rfl (Nat.le_of_ble_eq_true rfl) ?_
  intro p e s m below meth c A B hr hlk hnam
  show V _ _ _ _ _ _ _ _ _ _ _ _ _ _ _ _ [(0, .ref h), (1, .int d), (2, .int mu)] _ _
  by_cases h0 : d = 0
  · subst h0
    refine v_aload_n B dX12_mtu_0 rfl rfl ?_
    refine v_iconst B (v := 0) dX12_mtu_1 (by decide +kernel) ?_
    refine v_put B (C := RX12) (T := TX12) (N := 123) (ci := 12) (k0 := 0) hi_y_mtu_X12 rfl rfl 0 (by decide +kernel) tyX12 tyX12_ok nmX12 (List.mem_of_getElem? (i := 1) rfl) rfl (ty := .int) (tyX12_ok 0 (by decide +kernel)) rfl rfl (Nat.le_of_ble_eq_true rfl) (w' := [(h, .inr (12, fsM q 0 0 0 0 0)), ((q 105), .inl (K 0, 2, .inl (gl [23, 23])))]) rfl dX12_mtu_2 ?_
    refine v_iload_n B dX12_mtu_5 rfl rfl ?_
    refine v_iconst B (v := 2) dX12_mtu_6 (by decide +kernel) ?_
    refine v_callSi B (n := 2) (As := [.int 0, .int 2]) (rest := []) (wc := []) (wr := [(h, .inr (12, fsM q 0 0 0 0 0)), ((q 105), .inl (K 0, 2, .inl (gl [23, 23])))]) (m_in_T l D K 0 2 (by decide +kernel) (by decide +kernel)) gd_y_mtu_m_in_T_413 rfl rfl rfl (by decide +kernel) ⟨by decide +kernel, by decide +kernel⟩ (sp_pl [] [0, 1] rfl rfl rfl rfl rfl) rfl rfl (Nat.le_of_ble_eq_true rfl) dX12_mtu_7 ⟨by decide +kernel, by decide +kernel⟩ (fun r_3 u_1 hp_2 => ?_)
    subst hp_2
    show V _ _ _ _ _ _ _ _ _ _ _ _ _ _ (0, 0) [(h, .inr (12, fsM q 0 0 0 0 0)), ((q 105), .inl (K 0, 2, .inl (gl [23, 23])))] _ _ [.int 1]
    show V _ _ _ _ _ _ _ _ _ _ _ _ _ _ (0, 0) [(h, .inr (12, fsM q 0 0 0 0 0)), ((q 105), .inl (K 0, 2, .inl (gl [23, 23])))] _ _ _
    refine v_if_eq B (tgt := 25) dX12_mtu_10 (by decide +kernel) (fun h => absurd h (by decide +kernel)) (fun _ => ?_)
    refine v_iload_n B dX12_mtu_13 rfl rfl ?_
    refine v_bipush B (v := 23) dX12_mtu_14 (by decide +kernel) ?_
    refine v_icmp_lt B (tgt := 25) dX12_mtu_16 (by decide +kernel) (fun c_4 => ?_) (fun c_4 => ?_)
    · refine v_iconst B (v := 0) dX12_mtu_25 (by decide +kernel) ?_
      refine v_forget (wc := []) (wr := []) (sp_pl [] [] rfl rfl rfl rfl rfl) ?_
      exact v_zret B hr hlk (by decide +kernel) () (by simp [an_mtu, c_4]) rfl (by decide +kernel) (by decide +kernel) dX12_mtu_26
    · refine v_iload_n B dX12_mtu_19 rfl rfl ?_
      refine v_bipush B (v := 64) dX12_mtu_20 (by decide +kernel) ?_
      refine v_icmp_le B (tgt := 27) dX12_mtu_22 (by decide +kernel) (fun c_5 => ?_) (fun c_5 => ?_)
      · refine v_aload_n B dX12_mtu_27 rfl rfl ?_
        refine v_get B (C := RX12) (T := TX12) (N := 123) (ci := 12) (k0 := 0) hi_y_mtu_X12 rfl rfl 105 (by decide +kernel) (List.mem_of_getElem? (i := 6) rfl) rfl dX12_mtu_28 ?_
        refine v_iload_n B dX12_mtu_31 rfl rfl ?_
        refine v_iload_n B dX12_mtu_32 rfl rfl ?_
        refine v_iastL B (k0 := 1) (t0 := 0) (k := 0) (y := mu) (w' := [(h, .inr (12, fsM q 0 0 0 0 0)), ((q 105), .inl (K 0, 2, .inl (gl [mu, 23])))]) rfl rfl (vpi (by decide +kernel)) (by decide +kernel) (Nat.le_of_ble_eq_true rfl) rfl rfl dX12_mtu_33 ?_
        refine v_iconst B (v := 1) dX12_mtu_34 (by decide +kernel) ?_
        refine v_forget (wc := []) (wr := []) (sp_pl [] [] rfl rfl rfl rfl rfl) ?_
        exact v_zret B hr hlk (by decide +kernel) () (by simp [an_mtu, c_4, c_5]) rfl (by decide +kernel) (by decide +kernel) dX12_mtu_35
      · refine v_iconst B (v := 0) dX12_mtu_25 (by decide +kernel) ?_
        refine v_forget (wc := []) (wr := []) (sp_pl [] [] rfl rfl rfl rfl rfl) ?_
        exact v_zret B hr hlk (by decide +kernel) () (by simp [an_mtu, c_4, c_5]) rfl (by decide +kernel) (by decide +kernel) dX12_mtu_26
  · skip
    by_cases h1 : d = 1
    · subst h1
      refine v_aload_n B dX12_mtu_0 rfl rfl ?_
      refine v_iconst B (v := 0) dX12_mtu_1 (by decide +kernel) ?_
      refine v_put B (C := RX12) (T := TX12) (N := 123) (ci := 12) (k0 := 0) hi_y_mtu_X12 rfl rfl 0 (by decide +kernel) tyX12 tyX12_ok nmX12 (List.mem_of_getElem? (i := 1) rfl) rfl (ty := .int) (tyX12_ok 0 (by decide +kernel)) rfl rfl (Nat.le_of_ble_eq_true rfl) (w' := [(h, .inr (12, fsM q 0 0 0 0 0)), ((q 105), .inl (K 0, 2, .inl (gl [23, 23])))]) rfl dX12_mtu_2 ?_
      refine v_iload_n B dX12_mtu_5 rfl rfl ?_
      refine v_iconst B (v := 2) dX12_mtu_6 (by decide +kernel) ?_
      refine v_callSi B (n := 2) (As := [.int 1, .int 2]) (rest := []) (wc := []) (wr := [(h, .inr (12, fsM q 0 0 0 0 0)), ((q 105), .inl (K 0, 2, .inl (gl [23, 23])))]) (m_in_T l D K 1 2 (by decide +kernel) (by decide +kernel)) gd_y_mtu_m_in_T_413 rfl rfl rfl (by decide +kernel) ⟨by decide +kernel, by decide +kernel⟩ (sp_pl [] [0, 1] rfl rfl rfl rfl rfl) rfl rfl (Nat.le_of_ble_eq_true rfl) dX12_mtu_7 ⟨by decide +kernel, by decide +kernel⟩ (fun r_8 u_6 hp_7 => ?_)
      subst hp_7
      show V _ _ _ _ _ _ _ _ _ _ _ _ _ _ (0, 0) [(h, .inr (12, fsM q 0 0 0 0 0)), ((q 105), .inl (K 0, 2, .inl (gl [23, 23])))] _ _ [.int 1]
      show V _ _ _ _ _ _ _ _ _ _ _ _ _ _ (0, 0) [(h, .inr (12, fsM q 0 0 0 0 0)), ((q 105), .inl (K 0, 2, .inl (gl [23, 23])))] _ _ _
      refine v_if_eq B (tgt := 25) dX12_mtu_10 (by decide +kernel) (fun h => absurd h (by decide +kernel)) (fun _ => ?_)
      refine v_iload_n B dX12_mtu_13 rfl rfl ?_
      refine v_bipush B (v := 23) dX12_mtu_14 (by decide +kernel) ?_
      refine v_icmp_lt B (tgt := 25) dX12_mtu_16 (by decide +kernel) (fun c_9 => ?_) (fun c_9 => ?_)
      · refine v_iconst B (v := 0) dX12_mtu_25 (by decide +kernel) ?_
        refine v_forget (wc := []) (wr := []) (sp_pl [] [] rfl rfl rfl rfl rfl) ?_
        exact v_zret B hr hlk (by decide +kernel) () (by simp [an_mtu, c_9]) rfl (by decide +kernel) (by decide +kernel) dX12_mtu_26
      · refine v_iload_n B dX12_mtu_19 rfl rfl ?_
        refine v_bipush B (v := 64) dX12_mtu_20 (by decide +kernel) ?_
        refine v_icmp_le B (tgt := 27) dX12_mtu_22 (by decide +kernel) (fun c_10 => ?_) (fun c_10 => ?_)
        · refine v_aload_n B dX12_mtu_27 rfl rfl ?_
          refine v_get B (C := RX12) (T := TX12) (N := 123) (ci := 12) (k0 := 0) hi_y_mtu_X12 rfl rfl 105 (by decide +kernel) (List.mem_of_getElem? (i := 6) rfl) rfl dX12_mtu_28 ?_
          refine v_iload_n B dX12_mtu_31 rfl rfl ?_
          refine v_iload_n B dX12_mtu_32 rfl rfl ?_
          refine v_iastL B (k0 := 1) (t0 := 0) (k := 1) (y := mu) (w' := [(h, .inr (12, fsM q 0 0 0 0 0)), ((q 105), .inl (K 0, 2, .inl (gl [23, mu])))]) rfl rfl (vpi (by decide +kernel)) (by decide +kernel) (Nat.le_of_ble_eq_true rfl) rfl rfl dX12_mtu_33 ?_
          refine v_iconst B (v := 1) dX12_mtu_34 (by decide +kernel) ?_
          refine v_forget (wc := []) (wr := []) (sp_pl [] [] rfl rfl rfl rfl rfl) ?_
          exact v_zret B hr hlk (by decide +kernel) () (by simp [an_mtu, c_9, c_10]) rfl (by decide +kernel) (by decide +kernel) dX12_mtu_35
        · refine v_iconst B (v := 0) dX12_mtu_25 (by decide +kernel) ?_
          refine v_forget (wc := []) (wr := []) (sp_pl [] [] rfl rfl rfl rfl rfl) ?_
          exact v_zret B hr hlk (by decide +kernel) () (by simp [an_mtu, c_9, c_10]) rfl (by decide +kernel) (by decide +kernel) dX12_mtu_26
    · skip
      by_cases e1 : d < 0
      · skip
        refine v_aload_n B dX12_mtu_0 rfl rfl ?_
        refine v_iconst B (v := 0) dX12_mtu_1 (by decide +kernel) ?_
        refine v_put B (C := RX12) (T := TX12) (N := 123) (ci := 12) (k0 := 0) hi_y_mtu_X12 rfl rfl 0 (by decide +kernel) tyX12 tyX12_ok nmX12 (List.mem_of_getElem? (i := 1) rfl) rfl (ty := .int) (tyX12_ok 0 (by decide +kernel)) rfl rfl (Nat.le_of_ble_eq_true rfl) (w' := [(h, .inr (12, fsM q 0 0 0 0 0)), ((q 105), .inl (K 0, 2, .inl (gl [23, 23])))]) rfl dX12_mtu_2 ?_
        refine v_iload_n B dX12_mtu_5 rfl rfl ?_
        refine v_iconst B (v := 2) dX12_mtu_6 (by decide +kernel) ?_
        refine v_callSi B (n := 2) (As := [.int d, .int 2]) (rest := []) (wc := []) (wr := [(h, .inr (12, fsM q 0 0 0 0 0)), ((q 105), .inl (K 0, 2, .inl (gl [23, 23])))]) (m_in_F1 l D K d 2 e1) gd_y_mtu_m_in_F1_413 rfl rfl rfl (by decide +kernel) ⟨by decide +kernel, by decide +kernel⟩ (sp_pl [] [0, 1] rfl rfl rfl rfl rfl) rfl rfl (Nat.le_of_ble_eq_true rfl) dX12_mtu_7 ⟨by decide +kernel, by decide +kernel⟩ (fun r_13 u_11 hp_12 => ?_)
        subst hp_12
        show V _ _ _ _ _ _ _ _ _ _ _ _ _ _ (0, 0) [(h, .inr (12, fsM q 0 0 0 0 0)), ((q 105), .inl (K 0, 2, .inl (gl [23, 23])))] _ _ [.int 0]
        show V _ _ _ _ _ _ _ _ _ _ _ _ _ _ (0, 0) [(h, .inr (12, fsM q 0 0 0 0 0)), ((q 105), .inl (K 0, 2, .inl (gl [23, 23])))] _ _ _
        refine v_if_eq B (tgt := 25) dX12_mtu_10 (by decide +kernel) (fun _ => ?_) (fun h => absurd (by decide +kernel) h)
        refine v_iconst B (v := 0) dX12_mtu_25 (by decide +kernel) ?_
        refine v_forget (wc := []) (wr := []) (sp_pl [] [] rfl rfl rfl rfl rfl) ?_
        exact v_zret B hr hlk (by decide +kernel) () (by simp [an_mtu, h0, h1]) rfl (by decide +kernel) (by decide +kernel) dX12_mtu_26
      · skip
        refine v_aload_n B dX12_mtu_0 rfl rfl ?_
        refine v_iconst B (v := 0) dX12_mtu_1 (by decide +kernel) ?_
        refine v_put B (C := RX12) (T := TX12) (N := 123) (ci := 12) (k0 := 0) hi_y_mtu_X12 rfl rfl 0 (by decide +kernel) tyX12 tyX12_ok nmX12 (List.mem_of_getElem? (i := 1) rfl) rfl (ty := .int) (tyX12_ok 0 (by decide +kernel)) rfl rfl (Nat.le_of_ble_eq_true rfl) (w' := [(h, .inr (12, fsM q 0 0 0 0 0)), ((q 105), .inl (K 0, 2, .inl (gl [23, 23])))]) rfl dX12_mtu_2 ?_
        refine v_iload_n B dX12_mtu_5 rfl rfl ?_
        refine v_iconst B (v := 2) dX12_mtu_6 (by decide +kernel) ?_
        refine v_callSi B (n := 2) (As := [.int d, .int 2]) (rest := []) (wc := []) (wr := [(h, .inr (12, fsM q 0 0 0 0 0)), ((q 105), .inl (K 0, 2, .inl (gl [23, 23])))]) (m_in_F2 l D K d 2 (rg_nlt (i_ge2 h0 h1 e1) (by decide +kernel)) (rg_ge (i_ge2 h0 h1 e1) (by decide +kernel))) gd_y_mtu_m_in_F2_413 rfl rfl rfl (by decide +kernel) ⟨by decide +kernel, by decide +kernel⟩ (sp_pl [] [0, 1] rfl rfl rfl rfl rfl) rfl rfl (Nat.le_of_ble_eq_true rfl) dX12_mtu_7 ⟨by decide +kernel, by decide +kernel⟩ (fun r_16 u_14 hp_15 => ?_)
        subst hp_15
        show V _ _ _ _ _ _ _ _ _ _ _ _ _ _ (0, 0) [(h, .inr (12, fsM q 0 0 0 0 0)), ((q 105), .inl (K 0, 2, .inl (gl [23, 23])))] _ _ [.int 0]
        show V _ _ _ _ _ _ _ _ _ _ _ _ _ _ (0, 0) [(h, .inr (12, fsM q 0 0 0 0 0)), ((q 105), .inl (K 0, 2, .inl (gl [23, 23])))] _ _ _
        refine v_if_eq B (tgt := 25) dX12_mtu_10 (by decide +kernel) (fun _ => ?_) (fun h => absurd (by decide +kernel) h)
        refine v_iconst B (v := 0) dX12_mtu_25 (by decide +kernel) ?_
        refine v_forget (wc := []) (wr := []) (sp_pl [] [] rfl rfl rfl rfl rfl) ?_
        exact v_zret B hr hlk (by decide +kernel) () (by simp [an_mtu, h0, h1]) rfl (by decide +kernel) (by decide +kernel) dX12_mtu_26

def wp_y_stop : List Cond := .code yX12_stop cX12_stop 2 (some .boolean) :: ([.fieldLink RX12 1 "LowEnergyModel" "thrown" "I", .methodLink RX12 413 yX12_in, .static yX12_in, .initialized RX12, .code yX12_in cX12_in 2 (some .boolean), .fieldLink RX12 45 "LowEnergyModel" "state" "[I"] ++ (wsX120 ++ ([])))
theorem hi_y_stop_X12 : ∀ x ∈ u_ws RX12 TX12 123, x ∈ wp_y_stop := fun _ h => List.mem_cons_of_mem _ (List.mem_append_right _ (List.mem_append_left _ h))
set_option maxRecDepth 100000 in
theorem gd_y_stop_m_in_T_413 : GoodIn wp_y_stop (va_wsS RX12 413 yX12_in wp_m_in_T) := goodIn_app (goodIn_r _ [2, 3, 4] rfl rfl) (goodIn_ca (goodIn_r _ [5] rfl rfl) (goodIn_nil))
set_option maxRecDepth 100000 in
theorem gd_y_stop_m_in_F1_413 : GoodIn wp_y_stop (va_wsS RX12 413 yX12_in wp_m_in_F1) := goodIn_app (goodIn_r _ [2, 3, 4] rfl rfl) (goodIn_ca (goodIn_r _ [5] rfl rfl) (goodIn_nil))
set_option maxRecDepth 100000 in
theorem gd_y_stop_m_in_F2_413 : GoodIn wp_y_stop (va_wsS RX12 413 yX12_in wp_m_in_F2) := goodIn_app (goodIn_r _ [2, 3, 4] rfl rfl) (goodIn_ca (goodIn_r _ [5] rfl rfl) (goodIn_nil))
set_option maxHeartbeats 4000000 in
set_option maxRecDepth 100000 in
theorem y_stop (l : Launch) (D : va_G) (K : Nat → ClassId) (h : Nat) (q : Nat → Nat) (fa : Int64) (sa : Int64) (d : Int32) : MG l yX12_stop wp_y_stop ({ frames := 1, cells := 0, slots := 0, locals := 21 }) D (tysA K) [.ref h, .int d] [(h, .inr (12, fsM q 0 0 0 0 0)), ((q 7), .inl (K 0, 2, .inl (gl [0, 0])))] (Qi D (fun (r : Int32) (_ : Unit) => r = an_stop d) (fun _ => [])) 0 0 := by
  refine mg_of (cc := cX12_stop) (maxL := 2) (ret := (some .boolean)) (by decide +kernel) rfl (Nat.le_of_ble_eq_true rfl) ?_
  intro p e s m below meth c A B hr hlk hnam
  show V _ _ _ _ _ _ _ _ _ _ _ _ _ _ _ _ [(0, .ref h), (1, .int d)] _ _
  by_cases h0 : d = 0
  · subst h0
    refine v_aload_n B dX12_stop_0 rfl rfl ?_
    refine v_iconst B (v := 0) dX12_stop_1 (by decide +kernel) ?_
    refine v_put B (C := RX12) (T := TX12) (N := 123) (ci := 12) (k0 := 0) hi_y_stop_X12 rfl rfl 0 (by decide +kernel) tyX12 tyX12_ok nmX12 (List.mem_of_getElem? (i := 1) rfl) rfl (ty := .int) (tyX12_ok 0 (by decide +kernel)) rfl rfl (Nat.le_of_ble_eq_true rfl) (w' := [(h, .inr (12, fsM q 0 0 0 0 0)), ((q 7), .inl (K 0, 2, .inl (gl [0, 0])))]) rfl dX12_stop_2 ?_
    refine v_iload_n B dX12_stop_5 rfl rfl ?_
    refine v_iconst B (v := 2) dX12_stop_6 (by decide +kernel) ?_
    refine v_callSi B (n := 2) (As := [.int 0, .int 2]) (rest := []) (wc := []) (wr := [(h, .inr (12, fsM q 0 0 0 0 0)), ((q 7), .inl (K 0, 2, .inl (gl [0, 0])))]) (m_in_T l D K 0 2 (by decide +kernel) (by decide +kernel)) gd_y_stop_m_in_T_413 rfl rfl rfl (by decide +kernel) ⟨by decide +kernel, by decide +kernel⟩ (sp_pl [] [0, 1] rfl rfl rfl rfl rfl) rfl rfl (Nat.le_of_ble_eq_true rfl) dX12_stop_7 ⟨by decide +kernel, by decide +kernel⟩ (fun r_3 u_1 hp_2 => ?_)
    subst hp_2
    show V _ _ _ _ _ _ _ _ _ _ _ _ _ _ (0, 0) [(h, .inr (12, fsM q 0 0 0 0 0)), ((q 7), .inl (K 0, 2, .inl (gl [0, 0])))] _ _ [.int 1]
    show V _ _ _ _ _ _ _ _ _ _ _ _ _ _ (0, 0) [(h, .inr (12, fsM q 0 0 0 0 0)), ((q 7), .inl (K 0, 2, .inl (gl [0, 0])))] _ _ _
    refine v_if_eq B (tgt := 33) dX12_stop_10 (by decide +kernel) (fun h => absurd h (by decide +kernel)) (fun _ => ?_)
    refine v_aload_n B dX12_stop_13 rfl rfl ?_
    refine v_get B (C := RX12) (T := TX12) (N := 123) (ci := 12) (k0 := 0) hi_y_stop_X12 rfl rfl 7 (by decide +kernel) (List.mem_of_getElem? (i := 6) rfl) rfl dX12_stop_14 ?_
    refine v_iload_n B dX12_stop_17 rfl rfl ?_
    refine v_iald B (k0 := 1) (t0 := 0) (v := 0) rfl rfl (vpi (by decide +kernel)) rfl dX12_stop_18 ?_
    refine v_iconst B (v := 1) dX12_stop_19 (by decide +kernel) ?_
    refine v_icmp_lt B (tgt := 33) dX12_stop_20 (by decide +kernel) (fun _ => ?_) (fun h => absurd (by decide +kernel) h)
    refine v_iconst B (v := 0) dX12_stop_33 (by decide +kernel) ?_
    refine v_forget (wc := []) (wr := []) (sp_pl [] [] rfl rfl rfl rfl rfl) ?_
    exact v_zret B hr hlk (by decide +kernel) () rfl rfl (by decide +kernel) (by decide +kernel) dX12_stop_34
  · skip
    by_cases h1 : d = 1
    · subst h1
      refine v_aload_n B dX12_stop_0 rfl rfl ?_
      refine v_iconst B (v := 0) dX12_stop_1 (by decide +kernel) ?_
      refine v_put B (C := RX12) (T := TX12) (N := 123) (ci := 12) (k0 := 0) hi_y_stop_X12 rfl rfl 0 (by decide +kernel) tyX12 tyX12_ok nmX12 (List.mem_of_getElem? (i := 1) rfl) rfl (ty := .int) (tyX12_ok 0 (by decide +kernel)) rfl rfl (Nat.le_of_ble_eq_true rfl) (w' := [(h, .inr (12, fsM q 0 0 0 0 0)), ((q 7), .inl (K 0, 2, .inl (gl [0, 0])))]) rfl dX12_stop_2 ?_
      refine v_iload_n B dX12_stop_5 rfl rfl ?_
      refine v_iconst B (v := 2) dX12_stop_6 (by decide +kernel) ?_
      refine v_callSi B (n := 2) (As := [.int 1, .int 2]) (rest := []) (wc := []) (wr := [(h, .inr (12, fsM q 0 0 0 0 0)), ((q 7), .inl (K 0, 2, .inl (gl [0, 0])))]) (m_in_T l D K 1 2 (by decide +kernel) (by decide +kernel)) gd_y_stop_m_in_T_413 rfl rfl rfl (by decide +kernel) ⟨by decide +kernel, by decide +kernel⟩ (sp_pl [] [0, 1] rfl rfl rfl rfl rfl) rfl rfl (Nat.le_of_ble_eq_true rfl) dX12_stop_7 ⟨by decide +kernel, by decide +kernel⟩ (fun r_6 u_4 hp_5 => ?_)
      subst hp_5
      show V _ _ _ _ _ _ _ _ _ _ _ _ _ _ (0, 0) [(h, .inr (12, fsM q 0 0 0 0 0)), ((q 7), .inl (K 0, 2, .inl (gl [0, 0])))] _ _ [.int 1]
      show V _ _ _ _ _ _ _ _ _ _ _ _ _ _ (0, 0) [(h, .inr (12, fsM q 0 0 0 0 0)), ((q 7), .inl (K 0, 2, .inl (gl [0, 0])))] _ _ _
      refine v_if_eq B (tgt := 33) dX12_stop_10 (by decide +kernel) (fun h => absurd h (by decide +kernel)) (fun _ => ?_)
      refine v_aload_n B dX12_stop_13 rfl rfl ?_
      refine v_get B (C := RX12) (T := TX12) (N := 123) (ci := 12) (k0 := 0) hi_y_stop_X12 rfl rfl 7 (by decide +kernel) (List.mem_of_getElem? (i := 6) rfl) rfl dX12_stop_14 ?_
      refine v_iload_n B dX12_stop_17 rfl rfl ?_
      refine v_iald B (k0 := 1) (t0 := 0) (v := 0) rfl rfl (vpi (by decide +kernel)) rfl dX12_stop_18 ?_
      refine v_iconst B (v := 1) dX12_stop_19 (by decide +kernel) ?_
      refine v_icmp_lt B (tgt := 33) dX12_stop_20 (by decide +kernel) (fun _ => ?_) (fun h => absurd (by decide +kernel) h)
      refine v_iconst B (v := 0) dX12_stop_33 (by decide +kernel) ?_
      refine v_forget (wc := []) (wr := []) (sp_pl [] [] rfl rfl rfl rfl rfl) ?_
      exact v_zret B hr hlk (by decide +kernel) () rfl rfl (by decide +kernel) (by decide +kernel) dX12_stop_34
    · skip
      by_cases e1 : d < 0
      · skip
        refine v_aload_n B dX12_stop_0 rfl rfl ?_
        refine v_iconst B (v := 0) dX12_stop_1 (by decide +kernel) ?_
        refine v_put B (C := RX12) (T := TX12) (N := 123) (ci := 12) (k0 := 0) hi_y_stop_X12 rfl rfl 0 (by decide +kernel) tyX12 tyX12_ok nmX12 (List.mem_of_getElem? (i := 1) rfl) rfl (ty := .int) (tyX12_ok 0 (by decide +kernel)) rfl rfl (Nat.le_of_ble_eq_true rfl) (w' := [(h, .inr (12, fsM q 0 0 0 0 0)), ((q 7), .inl (K 0, 2, .inl (gl [0, 0])))]) rfl dX12_stop_2 ?_
        refine v_iload_n B dX12_stop_5 rfl rfl ?_
        refine v_iconst B (v := 2) dX12_stop_6 (by decide +kernel) ?_
        refine v_callSi B (n := 2) (As := [.int d, .int 2]) (rest := []) (wc := []) (wr := [(h, .inr (12, fsM q 0 0 0 0 0)), ((q 7), .inl (K 0, 2, .inl (gl [0, 0])))]) (m_in_F1 l D K d 2 e1) gd_y_stop_m_in_F1_413 rfl rfl rfl (by decide +kernel) ⟨by decide +kernel, by decide +kernel⟩ (sp_pl [] [0, 1] rfl rfl rfl rfl rfl) rfl rfl (Nat.le_of_ble_eq_true rfl) dX12_stop_7 ⟨by decide +kernel, by decide +kernel⟩ (fun r_9 u_7 hp_8 => ?_)
        subst hp_8
        show V _ _ _ _ _ _ _ _ _ _ _ _ _ _ (0, 0) [(h, .inr (12, fsM q 0 0 0 0 0)), ((q 7), .inl (K 0, 2, .inl (gl [0, 0])))] _ _ [.int 0]
        show V _ _ _ _ _ _ _ _ _ _ _ _ _ _ (0, 0) [(h, .inr (12, fsM q 0 0 0 0 0)), ((q 7), .inl (K 0, 2, .inl (gl [0, 0])))] _ _ _
        refine v_if_eq B (tgt := 33) dX12_stop_10 (by decide +kernel) (fun _ => ?_) (fun h => absurd (by decide +kernel) h)
        refine v_iconst B (v := 0) dX12_stop_33 (by decide +kernel) ?_
        refine v_forget (wc := []) (wr := []) (sp_pl [] [] rfl rfl rfl rfl rfl) ?_
        exact v_zret B hr hlk (by decide +kernel) () rfl rfl (by decide +kernel) (by decide +kernel) dX12_stop_34
      · skip
        refine v_aload_n B dX12_stop_0 rfl rfl ?_
        refine v_iconst B (v := 0) dX12_stop_1 (by decide +kernel) ?_
        refine v_put B (C := RX12) (T := TX12) (N := 123) (ci := 12) (k0 := 0) hi_y_stop_X12 rfl rfl 0 (by decide +kernel) tyX12 tyX12_ok nmX12 (List.mem_of_getElem? (i := 1) rfl) rfl (ty := .int) (tyX12_ok 0 (by decide +kernel)) rfl rfl (Nat.le_of_ble_eq_true rfl) (w' := [(h, .inr (12, fsM q 0 0 0 0 0)), ((q 7), .inl (K 0, 2, .inl (gl [0, 0])))]) rfl dX12_stop_2 ?_
        refine v_iload_n B dX12_stop_5 rfl rfl ?_
        refine v_iconst B (v := 2) dX12_stop_6 (by decide +kernel) ?_
        refine v_callSi B (n := 2) (As := [.int d, .int 2]) (rest := []) (wc := []) (wr := [(h, .inr (12, fsM q 0 0 0 0 0)), ((q 7), .inl (K 0, 2, .inl (gl [0, 0])))]) (m_in_F2 l D K d 2 (rg_nlt (i_ge2 h0 h1 e1) (by decide +kernel)) (rg_ge (i_ge2 h0 h1 e1) (by decide +kernel))) gd_y_stop_m_in_F2_413 rfl rfl rfl (by decide +kernel) ⟨by decide +kernel, by decide +kernel⟩ (sp_pl [] [0, 1] rfl rfl rfl rfl rfl) rfl rfl (Nat.le_of_ble_eq_true rfl) dX12_stop_7 ⟨by decide +kernel, by decide +kernel⟩ (fun r_12 u_10 hp_11 => ?_)
        subst hp_11
        show V _ _ _ _ _ _ _ _ _ _ _ _ _ _ (0, 0) [(h, .inr (12, fsM q 0 0 0 0 0)), ((q 7), .inl (K 0, 2, .inl (gl [0, 0])))] _ _ [.int 0]
        show V _ _ _ _ _ _ _ _ _ _ _ _ _ _ (0, 0) [(h, .inr (12, fsM q 0 0 0 0 0)), ((q 7), .inl (K 0, 2, .inl (gl [0, 0])))] _ _ _
        refine v_if_eq B (tgt := 33) dX12_stop_10 (by decide +kernel) (fun _ => ?_) (fun h => absurd (by decide +kernel) h)
        refine v_iconst B (v := 0) dX12_stop_33 (by decide +kernel) ?_
        refine v_forget (wc := []) (wr := []) (sp_pl [] [] rfl rfl rfl rfl rfl) ?_
        exact v_zret B hr hlk (by decide +kernel) () rfl rfl (by decide +kernel) (by decide +kernel) dX12_stop_34

def wp_y_control : List Cond := .code yX12_control cX12_control 3 (some .boolean) :: ([.fieldLink RX12 1 "LowEnergyModel" "thrown" "I", .methodLink RX12 683 yX12_mayControl, .instanceMethod yX12_mayControl, .selects RX12 yX12_mayControl yX12_mayControl, .initialized RX12, .code yX12_mayControl cX12_mayControl 2 (some .boolean), .methodLink RX12 413 yX12_in, .static yX12_in, .code yX12_in cX12_in 2 (some .boolean), .methodLink RX12 662 yX12_isLinked, .instanceMethod yX12_isLinked, .selects RX12 yX12_isLinked yX12_isLinked, .code yX12_isLinked cX12_isLinked 2 (some .boolean), .fieldLink RX12 45 "LowEnergyModel" "state" "[I"] ++ (wsX120 ++ ([])))
theorem hi_y_control_X12 : ∀ x ∈ u_ws RX12 TX12 123, x ∈ wp_y_control := fun _ h => List.mem_cons_of_mem _ (List.mem_append_right _ (List.mem_append_left _ h))
set_option maxRecDepth 100000 in
theorem gd_y_control_m_mayControl_0_683 : GoodIn wp_y_control (wsV RX12 683 RX12 yX12_mayControl wp_m_mayControl_0) := goodIn_app (goodIn_r _ [2, 3, 4, 5] rfl rfl) (goodIn_ca (goodIn_r _ [6, 7, 8, 5, 9, 10, 11, 12, 13, 14] rfl rfl) (goodIn_app (goodIn_cls hi_y_control_X12 gw_X12) (goodIn_nil)))
set_option maxRecDepth 100000 in
theorem gd_y_control_m_mayControl_1_683 : GoodIn wp_y_control (wsV RX12 683 RX12 yX12_mayControl wp_m_mayControl_1) := goodIn_app (goodIn_r _ [2, 3, 4, 5] rfl rfl) (goodIn_ca (goodIn_r _ [6, 7, 8, 5, 9, 10, 11, 12, 13, 14] rfl rfl) (goodIn_app (goodIn_cls hi_y_control_X12 gw_X12) (goodIn_nil)))
set_option maxRecDepth 100000 in
theorem gd_y_control_m_mayControl_n_683 : GoodIn wp_y_control (wsV RX12 683 RX12 yX12_mayControl wp_m_mayControl_n) := goodIn_app (goodIn_r _ [2, 3, 4, 5] rfl rfl) (goodIn_ca (goodIn_r _ [6, 7, 8, 5, 9] rfl rfl) (goodIn_nil))
set_option maxHeartbeats 4000000 in
set_option maxRecDepth 100000 in
theorem y_control (l : Launch) (D : va_G) (K : Nat → ClassId) (h : Nat) (q : Nat → Nat) (fa : Int64) (sa : Int64) (d : Int32) (w : Int32) : MG l yX12_control wp_y_control ({ frames := 2, cells := 0, slots := 0, locals := 42 }) D (tysA K) [.ref h, .int d, .int w] [(h, .inr (12, fsM q 0 0 0 0 0)), ((q 7), .inl (K 0, 2, .inl (gl [0, 0])))] (Qi D (fun (r : Int32) (_ : Unit) => r = an_control d w) (fun _ => [])) 0 0 := by
  refine mg_of (cc := cX12_control) (maxL := 3) (ret := (some .boolean)) (by decide +kernel) rfl (Nat.le_of_ble_eq_true rfl) ?_
  intro p e s m below meth c A B hr hlk hnam
  show V _ _ _ _ _ _ _ _ _ _ _ _ _ _ _ _ [(0, .ref h), (1, .int d), (2, .int w)] _ _
  by_cases h0 : d = 0
  · subst h0
    refine v_aload_n B dX12_control_0 rfl rfl ?_
    refine v_iconst B (v := 0) dX12_control_1 (by decide +kernel) ?_
    refine v_put B (C := RX12) (T := TX12) (N := 123) (ci := 12) (k0 := 0) hi_y_control_X12 rfl rfl 0 (by decide +kernel) tyX12 tyX12_ok nmX12 (List.mem_of_getElem? (i := 1) rfl) rfl (ty := .int) (tyX12_ok 0 (by decide +kernel)) rfl rfl (Nat.le_of_ble_eq_true rfl) (w' := [(h, .inr (12, fsM q 0 0 0 0 0)), ((q 7), .inl (K 0, 2, .inl (gl [0, 0])))]) rfl dX12_control_2 ?_
    refine v_aload_n B dX12_control_5 rfl rfl ?_
    refine v_iload_n B dX12_control_6 rfl rfl ?_
    refine v_callVi B (b := h) (n := 1) (As := [.int 0]) (rest := []) (wc := [(h, .inr (12, fsM q 0 0 0 0 0)), ((q 7), .inl (K 0, 2, .inl (gl [0, 0])))]) (wr := []) (m_mayControl_0 l D K h q fa sa) gd_y_control_m_mayControl_0_683 rfl rfl rfl (by decide +kernel) ⟨by decide +kernel, by decide +kernel⟩ 0 rfl rfl rfl (sp_pl [0, 1] [] rfl rfl rfl rfl rfl) rfl rfl (Nat.le_of_ble_eq_true rfl) dX12_control_7 ⟨by decide +kernel, by decide +kernel⟩ (fun r_3 u_1 hp_2 => ?_)
    subst hp_2
    show V _ _ _ _ _ _ _ _ _ _ _ _ _ _ (0, 0) [(h, .inr (12, fsM q 0 0 0 0 0)), ((q 7), .inl (K 0, 2, .inl (gl [0, 0])))] _ _ [.int 0]
    show V _ _ _ _ _ _ _ _ _ _ _ _ _ _ (0, 0) [(h, .inr (12, fsM q 0 0 0 0 0)), ((q 7), .inl (K 0, 2, .inl (gl [0, 0])))] _ _ _
    refine v_if_eq B (tgt := 34) dX12_control_10 (by decide +kernel) (fun _ => ?_) (fun h => absurd (by decide +kernel) h)
    refine v_iconst B (v := 0) dX12_control_34 (by decide +kernel) ?_
    refine v_forget (wc := []) (wr := []) (sp_pl [] [] rfl rfl rfl rfl rfl) ?_
    exact v_zret B hr hlk (by decide +kernel) () rfl rfl (by decide +kernel) (by decide +kernel) dX12_control_35
  · skip
    by_cases h1 : d = 1
    · subst h1
      refine v_aload_n B dX12_control_0 rfl rfl ?_
      refine v_iconst B (v := 0) dX12_control_1 (by decide +kernel) ?_
      refine v_put B (C := RX12) (T := TX12) (N := 123) (ci := 12) (k0 := 0) hi_y_control_X12 rfl rfl 0 (by decide +kernel) tyX12 tyX12_ok nmX12 (List.mem_of_getElem? (i := 1) rfl) rfl (ty := .int) (tyX12_ok 0 (by decide +kernel)) rfl rfl (Nat.le_of_ble_eq_true rfl) (w' := [(h, .inr (12, fsM q 0 0 0 0 0)), ((q 7), .inl (K 0, 2, .inl (gl [0, 0])))]) rfl dX12_control_2 ?_
      refine v_aload_n B dX12_control_5 rfl rfl ?_
      refine v_iload_n B dX12_control_6 rfl rfl ?_
      refine v_callVi B (b := h) (n := 1) (As := [.int 1]) (rest := []) (wc := [(h, .inr (12, fsM q 0 0 0 0 0)), ((q 7), .inl (K 0, 2, .inl (gl [0, 0])))]) (wr := []) (m_mayControl_1 l D K h q fa sa) gd_y_control_m_mayControl_1_683 rfl rfl rfl (by decide +kernel) ⟨by decide +kernel, by decide +kernel⟩ 0 rfl rfl rfl (sp_pl [0, 1] [] rfl rfl rfl rfl rfl) rfl rfl (Nat.le_of_ble_eq_true rfl) dX12_control_7 ⟨by decide +kernel, by decide +kernel⟩ (fun r_6 u_4 hp_5 => ?_)
      subst hp_5
      show V _ _ _ _ _ _ _ _ _ _ _ _ _ _ (0, 0) [(h, .inr (12, fsM q 0 0 0 0 0)), ((q 7), .inl (K 0, 2, .inl (gl [0, 0])))] _ _ [.int 0]
      show V _ _ _ _ _ _ _ _ _ _ _ _ _ _ (0, 0) [(h, .inr (12, fsM q 0 0 0 0 0)), ((q 7), .inl (K 0, 2, .inl (gl [0, 0])))] _ _ _
      refine v_if_eq B (tgt := 34) dX12_control_10 (by decide +kernel) (fun _ => ?_) (fun h => absurd (by decide +kernel) h)
      refine v_iconst B (v := 0) dX12_control_34 (by decide +kernel) ?_
      refine v_forget (wc := []) (wr := []) (sp_pl [] [] rfl rfl rfl rfl rfl) ?_
      exact v_zret B hr hlk (by decide +kernel) () rfl rfl (by decide +kernel) (by decide +kernel) dX12_control_35
    · skip
      by_cases e1 : d < 0
      · skip
        refine v_aload_n B dX12_control_0 rfl rfl ?_
        refine v_iconst B (v := 0) dX12_control_1 (by decide +kernel) ?_
        refine v_put B (C := RX12) (T := TX12) (N := 123) (ci := 12) (k0 := 0) hi_y_control_X12 rfl rfl 0 (by decide +kernel) tyX12 tyX12_ok nmX12 (List.mem_of_getElem? (i := 1) rfl) rfl (ty := .int) (tyX12_ok 0 (by decide +kernel)) rfl rfl (Nat.le_of_ble_eq_true rfl) (w' := [(h, .inr (12, fsM q 0 0 0 0 0)), ((q 7), .inl (K 0, 2, .inl (gl [0, 0])))]) rfl dX12_control_2 ?_
        refine v_aload_n B dX12_control_5 rfl rfl ?_
        refine v_iload_n B dX12_control_6 rfl rfl ?_
        refine v_callVi B (b := h) (n := 1) (As := [.int d]) (rest := []) (wc := [(h, .inr (12, fsM q 0 0 0 0 0))]) (wr := [((q 7), .inl (K 0, 2, .inl (gl [0, 0])))]) (m_mayControl_n l D K h q fa sa d h0 h1) gd_y_control_m_mayControl_n_683 rfl rfl rfl (by decide +kernel) ⟨by decide +kernel, by decide +kernel⟩ 0 rfl rfl rfl (sp_pl [0] [1] rfl rfl rfl rfl rfl) rfl rfl (Nat.le_of_ble_eq_true rfl) dX12_control_7 ⟨by decide +kernel, by decide +kernel⟩ (fun r_9 u_7 hp_8 => ?_)
        subst hp_8
        show V _ _ _ _ _ _ _ _ _ _ _ _ _ _ (0, 0) [((q 7), .inl (K 0, 2, .inl (gl [0, 0]))), (h, .inr (12, fsM q 0 0 0 0 0))] _ _ [.int 0]
        show V _ _ _ _ _ _ _ _ _ _ _ _ _ _ (0, 0) [((q 7), .inl (K 0, 2, .inl (gl [0, 0]))), (h, .inr (12, fsM q 0 0 0 0 0))] _ _ _
        refine v_if_eq B (tgt := 34) dX12_control_10 (by decide +kernel) (fun _ => ?_) (fun h => absurd (by decide +kernel) h)
        refine v_iconst B (v := 0) dX12_control_34 (by decide +kernel) ?_
        refine v_forget (wc := []) (wr := []) (sp_pl [] [] rfl rfl rfl rfl rfl) ?_
        exact v_zret B hr hlk (by decide +kernel) () rfl rfl (by decide +kernel) (by decide +kernel) dX12_control_35
      · skip
        refine v_aload_n B dX12_control_0 rfl rfl ?_
        refine v_iconst B (v := 0) dX12_control_1 (by decide +kernel) ?_
        refine v_put B (C := RX12) (T := TX12) (N := 123) (ci := 12) (k0 := 0) hi_y_control_X12 rfl rfl 0 (by decide +kernel) tyX12 tyX12_ok nmX12 (List.mem_of_getElem? (i := 1) rfl) rfl (ty := .int) (tyX12_ok 0 (by decide +kernel)) rfl rfl (Nat.le_of_ble_eq_true rfl) (w' := [(h, .inr (12, fsM q 0 0 0 0 0)), ((q 7), .inl (K 0, 2, .inl (gl [0, 0])))]) rfl dX12_control_2 ?_
        refine v_aload_n B dX12_control_5 rfl rfl ?_
        refine v_iload_n B dX12_control_6 rfl rfl ?_
        refine v_callVi B (b := h) (n := 1) (As := [.int d]) (rest := []) (wc := [(h, .inr (12, fsM q 0 0 0 0 0))]) (wr := [((q 7), .inl (K 0, 2, .inl (gl [0, 0])))]) (m_mayControl_n l D K h q fa sa d h0 h1) gd_y_control_m_mayControl_n_683 rfl rfl rfl (by decide +kernel) ⟨by decide +kernel, by decide +kernel⟩ 0 rfl rfl rfl (sp_pl [0] [1] rfl rfl rfl rfl rfl) rfl rfl (Nat.le_of_ble_eq_true rfl) dX12_control_7 ⟨by decide +kernel, by decide +kernel⟩ (fun r_12 u_10 hp_11 => ?_)
        subst hp_11
        show V _ _ _ _ _ _ _ _ _ _ _ _ _ _ (0, 0) [((q 7), .inl (K 0, 2, .inl (gl [0, 0]))), (h, .inr (12, fsM q 0 0 0 0 0))] _ _ [.int 0]
        show V _ _ _ _ _ _ _ _ _ _ _ _ _ _ (0, 0) [((q 7), .inl (K 0, 2, .inl (gl [0, 0]))), (h, .inr (12, fsM q 0 0 0 0 0))] _ _ _
        refine v_if_eq B (tgt := 34) dX12_control_10 (by decide +kernel) (fun _ => ?_) (fun h => absurd (by decide +kernel) h)
        refine v_iconst B (v := 0) dX12_control_34 (by decide +kernel) ?_
        refine v_forget (wc := []) (wr := []) (sp_pl [] [] rfl rfl rfl rfl rfl) ?_
        exact v_zret B hr hlk (by decide +kernel) () rfl rfl (by decide +kernel) (by decide +kernel) dX12_control_35

def wp_y_map : List Cond := .code yX12_map cX12_map 4 (some .boolean) :: ([.fieldLink RX12 1 "LowEnergyModel" "thrown" "I", .methodLink RX12 683 yX12_mayControl, .instanceMethod yX12_mayControl, .selects RX12 yX12_mayControl yX12_mayControl, .initialized RX12, .code yX12_mayControl cX12_mayControl 2 (some .boolean), .methodLink RX12 413 yX12_in, .static yX12_in, .code yX12_in cX12_in 2 (some .boolean), .methodLink RX12 662 yX12_isLinked, .instanceMethod yX12_isLinked, .selects RX12 yX12_isLinked yX12_isLinked, .code yX12_isLinked cX12_isLinked 2 (some .boolean), .fieldLink RX12 45 "LowEnergyModel" "state" "[I"] ++ (wsX120 ++ ([])))
theorem hi_y_map_X12 : ∀ x ∈ u_ws RX12 TX12 123, x ∈ wp_y_map := fun _ h => List.mem_cons_of_mem _ (List.mem_append_right _ (List.mem_append_left _ h))
set_option maxRecDepth 100000 in
theorem gd_y_map_m_mayControl_0_683 : GoodIn wp_y_map (wsV RX12 683 RX12 yX12_mayControl wp_m_mayControl_0) := goodIn_app (goodIn_r _ [2, 3, 4, 5] rfl rfl) (goodIn_ca (goodIn_r _ [6, 7, 8, 5, 9, 10, 11, 12, 13, 14] rfl rfl) (goodIn_app (goodIn_cls hi_y_map_X12 gw_X12) (goodIn_nil)))
set_option maxRecDepth 100000 in
theorem gd_y_map_m_mayControl_1_683 : GoodIn wp_y_map (wsV RX12 683 RX12 yX12_mayControl wp_m_mayControl_1) := goodIn_app (goodIn_r _ [2, 3, 4, 5] rfl rfl) (goodIn_ca (goodIn_r _ [6, 7, 8, 5, 9, 10, 11, 12, 13, 14] rfl rfl) (goodIn_app (goodIn_cls hi_y_map_X12 gw_X12) (goodIn_nil)))
set_option maxRecDepth 100000 in
theorem gd_y_map_m_mayControl_n_683 : GoodIn wp_y_map (wsV RX12 683 RX12 yX12_mayControl wp_m_mayControl_n) := goodIn_app (goodIn_r _ [2, 3, 4, 5] rfl rfl) (goodIn_ca (goodIn_r _ [6, 7, 8, 5, 9] rfl rfl) (goodIn_nil))
set_option maxHeartbeats 4000000 in
set_option maxRecDepth 100000 in
theorem y_map (l : Launch) (D : va_G) (K : Nat → ClassId) (h : Nat) (q : Nat → Nat) (fa : Int64) (sa : Int64) (d : Int32) (mp : Int64) : MG l yX12_map wp_y_map ({ frames := 2, cells := 0, slots := 0, locals := 42 }) D (tysA K) [.ref h, .int d, .long mp] [(h, .inr (12, fsM q 0 0 0 0 0)), ((q 7), .inl (K 0, 2, .inl (gl [0, 0])))] (Qi D (fun (r : Int32) (_ : Unit) => r = an_map d mp) (fun _ => [])) 0 0 := by
  refine mg_of (cc := cX12_map) (maxL := 4) (ret := (some .boolean)) (by decide +kernel) rfl (Nat.le_of_ble_eq_true rfl) ?_
  intro p e s m below meth c A B hr hlk hnam
  show V _ _ _ _ _ _ _ _ _ _ _ _ _ _ _ _ [(0, .ref h), (1, .int d), (2, .long mp)] _ _
  by_cases h0 : d = 0
  · subst h0
    refine v_aload_n B dX12_map_0 rfl rfl ?_
    refine v_iconst B (v := 0) dX12_map_1 (by decide +kernel) ?_
    refine v_put B (C := RX12) (T := TX12) (N := 123) (ci := 12) (k0 := 0) hi_y_map_X12 rfl rfl 0 (by decide +kernel) tyX12 tyX12_ok nmX12 (List.mem_of_getElem? (i := 1) rfl) rfl (ty := .int) (tyX12_ok 0 (by decide +kernel)) rfl rfl (Nat.le_of_ble_eq_true rfl) (w' := [(h, .inr (12, fsM q 0 0 0 0 0)), ((q 7), .inl (K 0, 2, .inl (gl [0, 0])))]) rfl dX12_map_2 ?_
    refine v_aload_n B dX12_map_5 rfl rfl ?_
    refine v_iload_n B dX12_map_6 rfl rfl ?_
    refine v_callVi B (b := h) (n := 1) (As := [.int 0]) (rest := []) (wc := [(h, .inr (12, fsM q 0 0 0 0 0)), ((q 7), .inl (K 0, 2, .inl (gl [0, 0])))]) (wr := []) (m_mayControl_0 l D K h q fa sa) gd_y_map_m_mayControl_0_683 rfl rfl rfl (by decide +kernel) ⟨by decide +kernel, by decide +kernel⟩ 0 rfl rfl rfl (sp_pl [0, 1] [] rfl rfl rfl rfl rfl) rfl rfl (Nat.le_of_ble_eq_true rfl) dX12_map_7 ⟨by decide +kernel, by decide +kernel⟩ (fun r_3 u_1 hp_2 => ?_)
    subst hp_2
    show V _ _ _ _ _ _ _ _ _ _ _ _ _ _ (0, 0) [(h, .inr (12, fsM q 0 0 0 0 0)), ((q 7), .inl (K 0, 2, .inl (gl [0, 0])))] _ _ [.int 0]
    show V _ _ _ _ _ _ _ _ _ _ _ _ _ _ (0, 0) [(h, .inr (12, fsM q 0 0 0 0 0)), ((q 7), .inl (K 0, 2, .inl (gl [0, 0])))] _ _ _
    refine v_if_eq B (tgt := 39) dX12_map_10 (by decide +kernel) (fun _ => ?_) (fun h => absurd (by decide +kernel) h)
    refine v_iconst B (v := 0) dX12_map_39 (by decide +kernel) ?_
    refine v_forget (wc := []) (wr := []) (sp_pl [] [] rfl rfl rfl rfl rfl) ?_
    exact v_zret B hr hlk (by decide +kernel) () rfl rfl (by decide +kernel) (by decide +kernel) dX12_map_40
  · skip
    by_cases h1 : d = 1
    · subst h1
      refine v_aload_n B dX12_map_0 rfl rfl ?_
      refine v_iconst B (v := 0) dX12_map_1 (by decide +kernel) ?_
      refine v_put B (C := RX12) (T := TX12) (N := 123) (ci := 12) (k0 := 0) hi_y_map_X12 rfl rfl 0 (by decide +kernel) tyX12 tyX12_ok nmX12 (List.mem_of_getElem? (i := 1) rfl) rfl (ty := .int) (tyX12_ok 0 (by decide +kernel)) rfl rfl (Nat.le_of_ble_eq_true rfl) (w' := [(h, .inr (12, fsM q 0 0 0 0 0)), ((q 7), .inl (K 0, 2, .inl (gl [0, 0])))]) rfl dX12_map_2 ?_
      refine v_aload_n B dX12_map_5 rfl rfl ?_
      refine v_iload_n B dX12_map_6 rfl rfl ?_
      refine v_callVi B (b := h) (n := 1) (As := [.int 1]) (rest := []) (wc := [(h, .inr (12, fsM q 0 0 0 0 0)), ((q 7), .inl (K 0, 2, .inl (gl [0, 0])))]) (wr := []) (m_mayControl_1 l D K h q fa sa) gd_y_map_m_mayControl_1_683 rfl rfl rfl (by decide +kernel) ⟨by decide +kernel, by decide +kernel⟩ 0 rfl rfl rfl (sp_pl [0, 1] [] rfl rfl rfl rfl rfl) rfl rfl (Nat.le_of_ble_eq_true rfl) dX12_map_7 ⟨by decide +kernel, by decide +kernel⟩ (fun r_6 u_4 hp_5 => ?_)
      subst hp_5
      show V _ _ _ _ _ _ _ _ _ _ _ _ _ _ (0, 0) [(h, .inr (12, fsM q 0 0 0 0 0)), ((q 7), .inl (K 0, 2, .inl (gl [0, 0])))] _ _ [.int 0]
      show V _ _ _ _ _ _ _ _ _ _ _ _ _ _ (0, 0) [(h, .inr (12, fsM q 0 0 0 0 0)), ((q 7), .inl (K 0, 2, .inl (gl [0, 0])))] _ _ _
      refine v_if_eq B (tgt := 39) dX12_map_10 (by decide +kernel) (fun _ => ?_) (fun h => absurd (by decide +kernel) h)
      refine v_iconst B (v := 0) dX12_map_39 (by decide +kernel) ?_
      refine v_forget (wc := []) (wr := []) (sp_pl [] [] rfl rfl rfl rfl rfl) ?_
      exact v_zret B hr hlk (by decide +kernel) () rfl rfl (by decide +kernel) (by decide +kernel) dX12_map_40
    · skip
      by_cases e1 : d < 0
      · skip
        refine v_aload_n B dX12_map_0 rfl rfl ?_
        refine v_iconst B (v := 0) dX12_map_1 (by decide +kernel) ?_
        refine v_put B (C := RX12) (T := TX12) (N := 123) (ci := 12) (k0 := 0) hi_y_map_X12 rfl rfl 0 (by decide +kernel) tyX12 tyX12_ok nmX12 (List.mem_of_getElem? (i := 1) rfl) rfl (ty := .int) (tyX12_ok 0 (by decide +kernel)) rfl rfl (Nat.le_of_ble_eq_true rfl) (w' := [(h, .inr (12, fsM q 0 0 0 0 0)), ((q 7), .inl (K 0, 2, .inl (gl [0, 0])))]) rfl dX12_map_2 ?_
        refine v_aload_n B dX12_map_5 rfl rfl ?_
        refine v_iload_n B dX12_map_6 rfl rfl ?_
        refine v_callVi B (b := h) (n := 1) (As := [.int d]) (rest := []) (wc := [(h, .inr (12, fsM q 0 0 0 0 0))]) (wr := [((q 7), .inl (K 0, 2, .inl (gl [0, 0])))]) (m_mayControl_n l D K h q fa sa d h0 h1) gd_y_map_m_mayControl_n_683 rfl rfl rfl (by decide +kernel) ⟨by decide +kernel, by decide +kernel⟩ 0 rfl rfl rfl (sp_pl [0] [1] rfl rfl rfl rfl rfl) rfl rfl (Nat.le_of_ble_eq_true rfl) dX12_map_7 ⟨by decide +kernel, by decide +kernel⟩ (fun r_9 u_7 hp_8 => ?_)
        subst hp_8
        show V _ _ _ _ _ _ _ _ _ _ _ _ _ _ (0, 0) [((q 7), .inl (K 0, 2, .inl (gl [0, 0]))), (h, .inr (12, fsM q 0 0 0 0 0))] _ _ [.int 0]
        show V _ _ _ _ _ _ _ _ _ _ _ _ _ _ (0, 0) [((q 7), .inl (K 0, 2, .inl (gl [0, 0]))), (h, .inr (12, fsM q 0 0 0 0 0))] _ _ _
        refine v_if_eq B (tgt := 39) dX12_map_10 (by decide +kernel) (fun _ => ?_) (fun h => absurd (by decide +kernel) h)
        refine v_iconst B (v := 0) dX12_map_39 (by decide +kernel) ?_
        refine v_forget (wc := []) (wr := []) (sp_pl [] [] rfl rfl rfl rfl rfl) ?_
        exact v_zret B hr hlk (by decide +kernel) () rfl rfl (by decide +kernel) (by decide +kernel) dX12_map_40
      · skip
        refine v_aload_n B dX12_map_0 rfl rfl ?_
        refine v_iconst B (v := 0) dX12_map_1 (by decide +kernel) ?_
        refine v_put B (C := RX12) (T := TX12) (N := 123) (ci := 12) (k0 := 0) hi_y_map_X12 rfl rfl 0 (by decide +kernel) tyX12 tyX12_ok nmX12 (List.mem_of_getElem? (i := 1) rfl) rfl (ty := .int) (tyX12_ok 0 (by decide +kernel)) rfl rfl (Nat.le_of_ble_eq_true rfl) (w' := [(h, .inr (12, fsM q 0 0 0 0 0)), ((q 7), .inl (K 0, 2, .inl (gl [0, 0])))]) rfl dX12_map_2 ?_
        refine v_aload_n B dX12_map_5 rfl rfl ?_
        refine v_iload_n B dX12_map_6 rfl rfl ?_
        refine v_callVi B (b := h) (n := 1) (As := [.int d]) (rest := []) (wc := [(h, .inr (12, fsM q 0 0 0 0 0))]) (wr := [((q 7), .inl (K 0, 2, .inl (gl [0, 0])))]) (m_mayControl_n l D K h q fa sa d h0 h1) gd_y_map_m_mayControl_n_683 rfl rfl rfl (by decide +kernel) ⟨by decide +kernel, by decide +kernel⟩ 0 rfl rfl rfl (sp_pl [0] [1] rfl rfl rfl rfl rfl) rfl rfl (Nat.le_of_ble_eq_true rfl) dX12_map_7 ⟨by decide +kernel, by decide +kernel⟩ (fun r_12 u_10 hp_11 => ?_)
        subst hp_11
        show V _ _ _ _ _ _ _ _ _ _ _ _ _ _ (0, 0) [((q 7), .inl (K 0, 2, .inl (gl [0, 0]))), (h, .inr (12, fsM q 0 0 0 0 0))] _ _ [.int 0]
        show V _ _ _ _ _ _ _ _ _ _ _ _ _ _ (0, 0) [((q 7), .inl (K 0, 2, .inl (gl [0, 0]))), (h, .inr (12, fsM q 0 0 0 0 0))] _ _ _
        refine v_if_eq B (tgt := 39) dX12_map_10 (by decide +kernel) (fun _ => ?_) (fun h => absurd (by decide +kernel) h)
        refine v_iconst B (v := 0) dX12_map_39 (by decide +kernel) ?_
        refine v_forget (wc := []) (wr := []) (sp_pl [] [] rfl rfl rfl rfl rfl) ?_
        exact v_zret B hr hlk (by decide +kernel) () rfl rfl (by decide +kernel) (by decide +kernel) dX12_map_40

def wp_y_encrypt : List Cond := .code yX12_encrypt cX12_encrypt 2 (some .boolean) :: ([.fieldLink RX12 1 "LowEnergyModel" "thrown" "I", .methodLink RX12 683 yX12_mayControl, .instanceMethod yX12_mayControl, .selects RX12 yX12_mayControl yX12_mayControl, .initialized RX12, .code yX12_mayControl cX12_mayControl 2 (some .boolean), .methodLink RX12 413 yX12_in, .static yX12_in, .code yX12_in cX12_in 2 (some .boolean), .methodLink RX12 662 yX12_isLinked, .instanceMethod yX12_isLinked, .selects RX12 yX12_isLinked yX12_isLinked, .code yX12_isLinked cX12_isLinked 2 (some .boolean), .fieldLink RX12 45 "LowEnergyModel" "state" "[I"] ++ (wsX120 ++ ([])))
theorem hi_y_encrypt_X12 : ∀ x ∈ u_ws RX12 TX12 123, x ∈ wp_y_encrypt := fun _ h => List.mem_cons_of_mem _ (List.mem_append_right _ (List.mem_append_left _ h))
set_option maxRecDepth 100000 in
theorem gd_y_encrypt_m_mayControl_0_683 : GoodIn wp_y_encrypt (wsV RX12 683 RX12 yX12_mayControl wp_m_mayControl_0) := goodIn_app (goodIn_r _ [2, 3, 4, 5] rfl rfl) (goodIn_ca (goodIn_r _ [6, 7, 8, 5, 9, 10, 11, 12, 13, 14] rfl rfl) (goodIn_app (goodIn_cls hi_y_encrypt_X12 gw_X12) (goodIn_nil)))
set_option maxRecDepth 100000 in
theorem gd_y_encrypt_m_mayControl_1_683 : GoodIn wp_y_encrypt (wsV RX12 683 RX12 yX12_mayControl wp_m_mayControl_1) := goodIn_app (goodIn_r _ [2, 3, 4, 5] rfl rfl) (goodIn_ca (goodIn_r _ [6, 7, 8, 5, 9, 10, 11, 12, 13, 14] rfl rfl) (goodIn_app (goodIn_cls hi_y_encrypt_X12 gw_X12) (goodIn_nil)))
set_option maxRecDepth 100000 in
theorem gd_y_encrypt_m_mayControl_n_683 : GoodIn wp_y_encrypt (wsV RX12 683 RX12 yX12_mayControl wp_m_mayControl_n) := goodIn_app (goodIn_r _ [2, 3, 4, 5] rfl rfl) (goodIn_ca (goodIn_r _ [6, 7, 8, 5, 9] rfl rfl) (goodIn_nil))
set_option maxHeartbeats 4000000 in
set_option maxRecDepth 100000 in
theorem y_encrypt (l : Launch) (D : va_G) (K : Nat → ClassId) (h : Nat) (q : Nat → Nat) (fa : Int64) (sa : Int64) (d : Int32) : MG l yX12_encrypt wp_y_encrypt ({ frames := 2, cells := 0, slots := 0, locals := 42 }) D (tysA K) [.ref h, .int d] [(h, .inr (12, fsM q 0 0 0 0 0)), ((q 7), .inl (K 0, 2, .inl (gl [0, 0])))] (Qi D (fun (r : Int32) (_ : Unit) => r = an_encrypt d) (fun _ => [])) 0 0 := by
  refine mg_of (cc := cX12_encrypt) (maxL := 2) (ret := (some .boolean)) (by decide +kernel) rfl (Nat.le_of_ble_eq_true rfl) ?_
  intro p e s m below meth c A B hr hlk hnam
  show V _ _ _ _ _ _ _ _ _ _ _ _ _ _ _ _ [(0, .ref h), (1, .int d)] _ _
  by_cases h0 : d = 0
  · subst h0
    refine v_aload_n B dX12_encrypt_0 rfl rfl ?_
    refine v_iconst B (v := 0) dX12_encrypt_1 (by decide +kernel) ?_
    refine v_put B (C := RX12) (T := TX12) (N := 123) (ci := 12) (k0 := 0) hi_y_encrypt_X12 rfl rfl 0 (by decide +kernel) tyX12 tyX12_ok nmX12 (List.mem_of_getElem? (i := 1) rfl) rfl (ty := .int) (tyX12_ok 0 (by decide +kernel)) rfl rfl (Nat.le_of_ble_eq_true rfl) (w' := [(h, .inr (12, fsM q 0 0 0 0 0)), ((q 7), .inl (K 0, 2, .inl (gl [0, 0])))]) rfl dX12_encrypt_2 ?_
    refine v_aload_n B dX12_encrypt_5 rfl rfl ?_
    refine v_iload_n B dX12_encrypt_6 rfl rfl ?_
    refine v_callVi B (b := h) (n := 1) (As := [.int 0]) (rest := []) (wc := [(h, .inr (12, fsM q 0 0 0 0 0)), ((q 7), .inl (K 0, 2, .inl (gl [0, 0])))]) (wr := []) (m_mayControl_0 l D K h q fa sa) gd_y_encrypt_m_mayControl_0_683 rfl rfl rfl (by decide +kernel) ⟨by decide +kernel, by decide +kernel⟩ 0 rfl rfl rfl (sp_pl [0, 1] [] rfl rfl rfl rfl rfl) rfl rfl (Nat.le_of_ble_eq_true rfl) dX12_encrypt_7 ⟨by decide +kernel, by decide +kernel⟩ (fun r_3 u_1 hp_2 => ?_)
    subst hp_2
    show V _ _ _ _ _ _ _ _ _ _ _ _ _ _ (0, 0) [(h, .inr (12, fsM q 0 0 0 0 0)), ((q 7), .inl (K 0, 2, .inl (gl [0, 0])))] _ _ [.int 0]
    show V _ _ _ _ _ _ _ _ _ _ _ _ _ _ (0, 0) [(h, .inr (12, fsM q 0 0 0 0 0)), ((q 7), .inl (K 0, 2, .inl (gl [0, 0])))] _ _ _
    refine v_if_eq B (tgt := 41) dX12_encrypt_10 (by decide +kernel) (fun _ => ?_) (fun h => absurd (by decide +kernel) h)
    refine v_iconst B (v := 0) dX12_encrypt_41 (by decide +kernel) ?_
    refine v_forget (wc := []) (wr := []) (sp_pl [] [] rfl rfl rfl rfl rfl) ?_
    exact v_zret B hr hlk (by decide +kernel) () rfl rfl (by decide +kernel) (by decide +kernel) dX12_encrypt_42
  · skip
    by_cases h1 : d = 1
    · subst h1
      refine v_aload_n B dX12_encrypt_0 rfl rfl ?_
      refine v_iconst B (v := 0) dX12_encrypt_1 (by decide +kernel) ?_
      refine v_put B (C := RX12) (T := TX12) (N := 123) (ci := 12) (k0 := 0) hi_y_encrypt_X12 rfl rfl 0 (by decide +kernel) tyX12 tyX12_ok nmX12 (List.mem_of_getElem? (i := 1) rfl) rfl (ty := .int) (tyX12_ok 0 (by decide +kernel)) rfl rfl (Nat.le_of_ble_eq_true rfl) (w' := [(h, .inr (12, fsM q 0 0 0 0 0)), ((q 7), .inl (K 0, 2, .inl (gl [0, 0])))]) rfl dX12_encrypt_2 ?_
      refine v_aload_n B dX12_encrypt_5 rfl rfl ?_
      refine v_iload_n B dX12_encrypt_6 rfl rfl ?_
      refine v_callVi B (b := h) (n := 1) (As := [.int 1]) (rest := []) (wc := [(h, .inr (12, fsM q 0 0 0 0 0)), ((q 7), .inl (K 0, 2, .inl (gl [0, 0])))]) (wr := []) (m_mayControl_1 l D K h q fa sa) gd_y_encrypt_m_mayControl_1_683 rfl rfl rfl (by decide +kernel) ⟨by decide +kernel, by decide +kernel⟩ 0 rfl rfl rfl (sp_pl [0, 1] [] rfl rfl rfl rfl rfl) rfl rfl (Nat.le_of_ble_eq_true rfl) dX12_encrypt_7 ⟨by decide +kernel, by decide +kernel⟩ (fun r_6 u_4 hp_5 => ?_)
      subst hp_5
      show V _ _ _ _ _ _ _ _ _ _ _ _ _ _ (0, 0) [(h, .inr (12, fsM q 0 0 0 0 0)), ((q 7), .inl (K 0, 2, .inl (gl [0, 0])))] _ _ [.int 0]
      show V _ _ _ _ _ _ _ _ _ _ _ _ _ _ (0, 0) [(h, .inr (12, fsM q 0 0 0 0 0)), ((q 7), .inl (K 0, 2, .inl (gl [0, 0])))] _ _ _
      refine v_if_eq B (tgt := 41) dX12_encrypt_10 (by decide +kernel) (fun _ => ?_) (fun h => absurd (by decide +kernel) h)
      refine v_iconst B (v := 0) dX12_encrypt_41 (by decide +kernel) ?_
      refine v_forget (wc := []) (wr := []) (sp_pl [] [] rfl rfl rfl rfl rfl) ?_
      exact v_zret B hr hlk (by decide +kernel) () rfl rfl (by decide +kernel) (by decide +kernel) dX12_encrypt_42
    · skip
      by_cases e1 : d < 0
      · skip
        refine v_aload_n B dX12_encrypt_0 rfl rfl ?_
        refine v_iconst B (v := 0) dX12_encrypt_1 (by decide +kernel) ?_
        refine v_put B (C := RX12) (T := TX12) (N := 123) (ci := 12) (k0 := 0) hi_y_encrypt_X12 rfl rfl 0 (by decide +kernel) tyX12 tyX12_ok nmX12 (List.mem_of_getElem? (i := 1) rfl) rfl (ty := .int) (tyX12_ok 0 (by decide +kernel)) rfl rfl (Nat.le_of_ble_eq_true rfl) (w' := [(h, .inr (12, fsM q 0 0 0 0 0)), ((q 7), .inl (K 0, 2, .inl (gl [0, 0])))]) rfl dX12_encrypt_2 ?_
        refine v_aload_n B dX12_encrypt_5 rfl rfl ?_
        refine v_iload_n B dX12_encrypt_6 rfl rfl ?_
        refine v_callVi B (b := h) (n := 1) (As := [.int d]) (rest := []) (wc := [(h, .inr (12, fsM q 0 0 0 0 0))]) (wr := [((q 7), .inl (K 0, 2, .inl (gl [0, 0])))]) (m_mayControl_n l D K h q fa sa d h0 h1) gd_y_encrypt_m_mayControl_n_683 rfl rfl rfl (by decide +kernel) ⟨by decide +kernel, by decide +kernel⟩ 0 rfl rfl rfl (sp_pl [0] [1] rfl rfl rfl rfl rfl) rfl rfl (Nat.le_of_ble_eq_true rfl) dX12_encrypt_7 ⟨by decide +kernel, by decide +kernel⟩ (fun r_9 u_7 hp_8 => ?_)
        subst hp_8
        show V _ _ _ _ _ _ _ _ _ _ _ _ _ _ (0, 0) [((q 7), .inl (K 0, 2, .inl (gl [0, 0]))), (h, .inr (12, fsM q 0 0 0 0 0))] _ _ [.int 0]
        show V _ _ _ _ _ _ _ _ _ _ _ _ _ _ (0, 0) [((q 7), .inl (K 0, 2, .inl (gl [0, 0]))), (h, .inr (12, fsM q 0 0 0 0 0))] _ _ _
        refine v_if_eq B (tgt := 41) dX12_encrypt_10 (by decide +kernel) (fun _ => ?_) (fun h => absurd (by decide +kernel) h)
        refine v_iconst B (v := 0) dX12_encrypt_41 (by decide +kernel) ?_
        refine v_forget (wc := []) (wr := []) (sp_pl [] [] rfl rfl rfl rfl rfl) ?_
        exact v_zret B hr hlk (by decide +kernel) () rfl rfl (by decide +kernel) (by decide +kernel) dX12_encrypt_42
      · skip
        refine v_aload_n B dX12_encrypt_0 rfl rfl ?_
        refine v_iconst B (v := 0) dX12_encrypt_1 (by decide +kernel) ?_
        refine v_put B (C := RX12) (T := TX12) (N := 123) (ci := 12) (k0 := 0) hi_y_encrypt_X12 rfl rfl 0 (by decide +kernel) tyX12 tyX12_ok nmX12 (List.mem_of_getElem? (i := 1) rfl) rfl (ty := .int) (tyX12_ok 0 (by decide +kernel)) rfl rfl (Nat.le_of_ble_eq_true rfl) (w' := [(h, .inr (12, fsM q 0 0 0 0 0)), ((q 7), .inl (K 0, 2, .inl (gl [0, 0])))]) rfl dX12_encrypt_2 ?_
        refine v_aload_n B dX12_encrypt_5 rfl rfl ?_
        refine v_iload_n B dX12_encrypt_6 rfl rfl ?_
        refine v_callVi B (b := h) (n := 1) (As := [.int d]) (rest := []) (wc := [(h, .inr (12, fsM q 0 0 0 0 0))]) (wr := [((q 7), .inl (K 0, 2, .inl (gl [0, 0])))]) (m_mayControl_n l D K h q fa sa d h0 h1) gd_y_encrypt_m_mayControl_n_683 rfl rfl rfl (by decide +kernel) ⟨by decide +kernel, by decide +kernel⟩ 0 rfl rfl rfl (sp_pl [0] [1] rfl rfl rfl rfl rfl) rfl rfl (Nat.le_of_ble_eq_true rfl) dX12_encrypt_7 ⟨by decide +kernel, by decide +kernel⟩ (fun r_12 u_10 hp_11 => ?_)
        subst hp_11
        show V _ _ _ _ _ _ _ _ _ _ _ _ _ _ (0, 0) [((q 7), .inl (K 0, 2, .inl (gl [0, 0]))), (h, .inr (12, fsM q 0 0 0 0 0))] _ _ [.int 0]
        show V _ _ _ _ _ _ _ _ _ _ _ _ _ _ (0, 0) [((q 7), .inl (K 0, 2, .inl (gl [0, 0]))), (h, .inr (12, fsM q 0 0 0 0 0))] _ _ _
        refine v_if_eq B (tgt := 41) dX12_encrypt_10 (by decide +kernel) (fun _ => ?_) (fun h => absurd (by decide +kernel) h)
        refine v_iconst B (v := 0) dX12_encrypt_41 (by decide +kernel) ?_
        refine v_forget (wc := []) (wr := []) (sp_pl [] [] rfl rfl rfl rfl rfl) ?_
        exact v_zret B hr hlk (by decide +kernel) () rfl rfl (by decide +kernel) (by decide +kernel) dX12_encrypt_42

def wp_y_pair : List Cond := .code yX12_pair cX12_pair 3 (some .boolean) :: ([.fieldLink RX12 1 "LowEnergyModel" "thrown" "I", .methodLink RX12 413 yX12_in, .static yX12_in, .initialized RX12, .code yX12_in cX12_in 2 (some .boolean), .fieldLink RX12 45 "LowEnergyModel" "state" "[I"] ++ (wsX120 ++ ([])))
theorem hi_y_pair_X12 : ∀ x ∈ u_ws RX12 TX12 123, x ∈ wp_y_pair := fun _ h => List.mem_cons_of_mem _ (List.mem_append_right _ (List.mem_append_left _ h))
set_option maxRecDepth 100000 in
theorem gd_y_pair_m_in_T_413 : GoodIn wp_y_pair (va_wsS RX12 413 yX12_in wp_m_in_T) := goodIn_app (goodIn_r _ [2, 3, 4] rfl rfl) (goodIn_ca (goodIn_r _ [5] rfl rfl) (goodIn_nil))
set_option maxRecDepth 100000 in
theorem gd_y_pair_m_in_F1_413 : GoodIn wp_y_pair (va_wsS RX12 413 yX12_in wp_m_in_F1) := goodIn_app (goodIn_r _ [2, 3, 4] rfl rfl) (goodIn_ca (goodIn_r _ [5] rfl rfl) (goodIn_nil))
set_option maxRecDepth 100000 in
theorem gd_y_pair_m_in_F2_413 : GoodIn wp_y_pair (va_wsS RX12 413 yX12_in wp_m_in_F2) := goodIn_app (goodIn_r _ [2, 3, 4] rfl rfl) (goodIn_ca (goodIn_r _ [5] rfl rfl) (goodIn_nil))
set_option maxHeartbeats 4000000 in
set_option maxRecDepth 100000 in
theorem y_pair (l : Launch) (D : va_G) (K : Nat → ClassId) (h : Nat) (q : Nat → Nat) (fa : Int64) (sa : Int64) (d : Int32) (pk : Int32) : MG l yX12_pair wp_y_pair ({ frames := 1, cells := 0, slots := 0, locals := 21 }) D (tysA K) [.ref h, .int d, .int pk] [(h, .inr (12, fsM q 0 0 0 0 0)), ((q 7), .inl (K 0, 2, .inl (gl [0, 0])))] (Qi D (fun (r : Int32) (_ : Unit) => r = an_pair d pk) (fun _ => [])) 0 0 := by
  refine mg_of (cc := cX12_pair) (maxL := 3) (ret := (some .boolean)) (by decide +kernel) rfl (Nat.le_of_ble_eq_true rfl) ?_
  intro p e s m below meth c A B hr hlk hnam
  show V _ _ _ _ _ _ _ _ _ _ _ _ _ _ _ _ [(0, .ref h), (1, .int d), (2, .int pk)] _ _
  by_cases h0 : d = 0
  · subst h0
    refine v_aload_n B dX12_pair_0 rfl rfl ?_
    refine v_iconst B (v := 0) dX12_pair_1 (by decide +kernel) ?_
    refine v_put B (C := RX12) (T := TX12) (N := 123) (ci := 12) (k0 := 0) hi_y_pair_X12 rfl rfl 0 (by decide +kernel) tyX12 tyX12_ok nmX12 (List.mem_of_getElem? (i := 1) rfl) rfl (ty := .int) (tyX12_ok 0 (by decide +kernel)) rfl rfl (Nat.le_of_ble_eq_true rfl) (w' := [(h, .inr (12, fsM q 0 0 0 0 0)), ((q 7), .inl (K 0, 2, .inl (gl [0, 0])))]) rfl dX12_pair_2 ?_
    refine v_iload_n B dX12_pair_5 rfl rfl ?_
    refine v_iconst B (v := 2) dX12_pair_6 (by decide +kernel) ?_
    refine v_callSi B (n := 2) (As := [.int 0, .int 2]) (rest := []) (wc := []) (wr := [(h, .inr (12, fsM q 0 0 0 0 0)), ((q 7), .inl (K 0, 2, .inl (gl [0, 0])))]) (m_in_T l D K 0 2 (by decide +kernel) (by decide +kernel)) gd_y_pair_m_in_T_413 rfl rfl rfl (by decide +kernel) ⟨by decide +kernel, by decide +kernel⟩ (sp_pl [] [0, 1] rfl rfl rfl rfl rfl) rfl rfl (Nat.le_of_ble_eq_true rfl) dX12_pair_7 ⟨by decide +kernel, by decide +kernel⟩ (fun r_3 u_1 hp_2 => ?_)
    subst hp_2
    show V _ _ _ _ _ _ _ _ _ _ _ _ _ _ (0, 0) [(h, .inr (12, fsM q 0 0 0 0 0)), ((q 7), .inl (K 0, 2, .inl (gl [0, 0])))] _ _ [.int 1]
    show V _ _ _ _ _ _ _ _ _ _ _ _ _ _ (0, 0) [(h, .inr (12, fsM q 0 0 0 0 0)), ((q 7), .inl (K 0, 2, .inl (gl [0, 0])))] _ _ _
    refine v_if_eq B (tgt := 53) dX12_pair_10 (by decide +kernel) (fun h => absurd h (by decide +kernel)) (fun _ => ?_)
    refine v_aload_n B dX12_pair_13 rfl rfl ?_
    refine v_get B (C := RX12) (T := TX12) (N := 123) (ci := 12) (k0 := 0) hi_y_pair_X12 rfl rfl 7 (by decide +kernel) (List.mem_of_getElem? (i := 6) rfl) rfl dX12_pair_14 ?_
    refine v_iload_n B dX12_pair_17 rfl rfl ?_
    refine v_iald B (k0 := 1) (t0 := 0) (v := 0) rfl rfl (vpi (by decide +kernel)) rfl dX12_pair_18 ?_
    refine v_iconst B (v := 4) dX12_pair_19 (by decide +kernel) ?_
    refine v_icmp_ne B (tgt := 53) dX12_pair_20 (by decide +kernel) (fun _ => ?_) (fun h => absurd h (by decide +kernel))
    refine v_iconst B (v := 0) dX12_pair_53 (by decide +kernel) ?_
    refine v_forget (wc := []) (wr := []) (sp_pl [] [] rfl rfl rfl rfl rfl) ?_
    exact v_zret B hr hlk (by decide +kernel) () rfl rfl (by decide +kernel) (by decide +kernel) dX12_pair_54
  · skip
    by_cases h1 : d = 1
    · subst h1
      refine v_aload_n B dX12_pair_0 rfl rfl ?_
      refine v_iconst B (v := 0) dX12_pair_1 (by decide +kernel) ?_
      refine v_put B (C := RX12) (T := TX12) (N := 123) (ci := 12) (k0 := 0) hi_y_pair_X12 rfl rfl 0 (by decide +kernel) tyX12 tyX12_ok nmX12 (List.mem_of_getElem? (i := 1) rfl) rfl (ty := .int) (tyX12_ok 0 (by decide +kernel)) rfl rfl (Nat.le_of_ble_eq_true rfl) (w' := [(h, .inr (12, fsM q 0 0 0 0 0)), ((q 7), .inl (K 0, 2, .inl (gl [0, 0])))]) rfl dX12_pair_2 ?_
      refine v_iload_n B dX12_pair_5 rfl rfl ?_
      refine v_iconst B (v := 2) dX12_pair_6 (by decide +kernel) ?_
      refine v_callSi B (n := 2) (As := [.int 1, .int 2]) (rest := []) (wc := []) (wr := [(h, .inr (12, fsM q 0 0 0 0 0)), ((q 7), .inl (K 0, 2, .inl (gl [0, 0])))]) (m_in_T l D K 1 2 (by decide +kernel) (by decide +kernel)) gd_y_pair_m_in_T_413 rfl rfl rfl (by decide +kernel) ⟨by decide +kernel, by decide +kernel⟩ (sp_pl [] [0, 1] rfl rfl rfl rfl rfl) rfl rfl (Nat.le_of_ble_eq_true rfl) dX12_pair_7 ⟨by decide +kernel, by decide +kernel⟩ (fun r_6 u_4 hp_5 => ?_)
      subst hp_5
      show V _ _ _ _ _ _ _ _ _ _ _ _ _ _ (0, 0) [(h, .inr (12, fsM q 0 0 0 0 0)), ((q 7), .inl (K 0, 2, .inl (gl [0, 0])))] _ _ [.int 1]
      show V _ _ _ _ _ _ _ _ _ _ _ _ _ _ (0, 0) [(h, .inr (12, fsM q 0 0 0 0 0)), ((q 7), .inl (K 0, 2, .inl (gl [0, 0])))] _ _ _
      refine v_if_eq B (tgt := 53) dX12_pair_10 (by decide +kernel) (fun h => absurd h (by decide +kernel)) (fun _ => ?_)
      refine v_aload_n B dX12_pair_13 rfl rfl ?_
      refine v_get B (C := RX12) (T := TX12) (N := 123) (ci := 12) (k0 := 0) hi_y_pair_X12 rfl rfl 7 (by decide +kernel) (List.mem_of_getElem? (i := 6) rfl) rfl dX12_pair_14 ?_
      refine v_iload_n B dX12_pair_17 rfl rfl ?_
      refine v_iald B (k0 := 1) (t0 := 0) (v := 0) rfl rfl (vpi (by decide +kernel)) rfl dX12_pair_18 ?_
      refine v_iconst B (v := 4) dX12_pair_19 (by decide +kernel) ?_
      refine v_icmp_ne B (tgt := 53) dX12_pair_20 (by decide +kernel) (fun _ => ?_) (fun h => absurd h (by decide +kernel))
      refine v_iconst B (v := 0) dX12_pair_53 (by decide +kernel) ?_
      refine v_forget (wc := []) (wr := []) (sp_pl [] [] rfl rfl rfl rfl rfl) ?_
      exact v_zret B hr hlk (by decide +kernel) () rfl rfl (by decide +kernel) (by decide +kernel) dX12_pair_54
    · skip
      by_cases e1 : d < 0
      · skip
        refine v_aload_n B dX12_pair_0 rfl rfl ?_
        refine v_iconst B (v := 0) dX12_pair_1 (by decide +kernel) ?_
        refine v_put B (C := RX12) (T := TX12) (N := 123) (ci := 12) (k0 := 0) hi_y_pair_X12 rfl rfl 0 (by decide +kernel) tyX12 tyX12_ok nmX12 (List.mem_of_getElem? (i := 1) rfl) rfl (ty := .int) (tyX12_ok 0 (by decide +kernel)) rfl rfl (Nat.le_of_ble_eq_true rfl) (w' := [(h, .inr (12, fsM q 0 0 0 0 0)), ((q 7), .inl (K 0, 2, .inl (gl [0, 0])))]) rfl dX12_pair_2 ?_
        refine v_iload_n B dX12_pair_5 rfl rfl ?_
        refine v_iconst B (v := 2) dX12_pair_6 (by decide +kernel) ?_
        refine v_callSi B (n := 2) (As := [.int d, .int 2]) (rest := []) (wc := []) (wr := [(h, .inr (12, fsM q 0 0 0 0 0)), ((q 7), .inl (K 0, 2, .inl (gl [0, 0])))]) (m_in_F1 l D K d 2 e1) gd_y_pair_m_in_F1_413 rfl rfl rfl (by decide +kernel) ⟨by decide +kernel, by decide +kernel⟩ (sp_pl [] [0, 1] rfl rfl rfl rfl rfl) rfl rfl (Nat.le_of_ble_eq_true rfl) dX12_pair_7 ⟨by decide +kernel, by decide +kernel⟩ (fun r_9 u_7 hp_8 => ?_)
        subst hp_8
        show V _ _ _ _ _ _ _ _ _ _ _ _ _ _ (0, 0) [(h, .inr (12, fsM q 0 0 0 0 0)), ((q 7), .inl (K 0, 2, .inl (gl [0, 0])))] _ _ [.int 0]
        show V _ _ _ _ _ _ _ _ _ _ _ _ _ _ (0, 0) [(h, .inr (12, fsM q 0 0 0 0 0)), ((q 7), .inl (K 0, 2, .inl (gl [0, 0])))] _ _ _
        refine v_if_eq B (tgt := 53) dX12_pair_10 (by decide +kernel) (fun _ => ?_) (fun h => absurd (by decide +kernel) h)
        refine v_iconst B (v := 0) dX12_pair_53 (by decide +kernel) ?_
        refine v_forget (wc := []) (wr := []) (sp_pl [] [] rfl rfl rfl rfl rfl) ?_
        exact v_zret B hr hlk (by decide +kernel) () rfl rfl (by decide +kernel) (by decide +kernel) dX12_pair_54
      · skip
        refine v_aload_n B dX12_pair_0 rfl rfl ?_
        refine v_iconst B (v := 0) dX12_pair_1 (by decide +kernel) ?_
        refine v_put B (C := RX12) (T := TX12) (N := 123) (ci := 12) (k0 := 0) hi_y_pair_X12 rfl rfl 0 (by decide +kernel) tyX12 tyX12_ok nmX12 (List.mem_of_getElem? (i := 1) rfl) rfl (ty := .int) (tyX12_ok 0 (by decide +kernel)) rfl rfl (Nat.le_of_ble_eq_true rfl) (w' := [(h, .inr (12, fsM q 0 0 0 0 0)), ((q 7), .inl (K 0, 2, .inl (gl [0, 0])))]) rfl dX12_pair_2 ?_
        refine v_iload_n B dX12_pair_5 rfl rfl ?_
        refine v_iconst B (v := 2) dX12_pair_6 (by decide +kernel) ?_
        refine v_callSi B (n := 2) (As := [.int d, .int 2]) (rest := []) (wc := []) (wr := [(h, .inr (12, fsM q 0 0 0 0 0)), ((q 7), .inl (K 0, 2, .inl (gl [0, 0])))]) (m_in_F2 l D K d 2 (rg_nlt (i_ge2 h0 h1 e1) (by decide +kernel)) (rg_ge (i_ge2 h0 h1 e1) (by decide +kernel))) gd_y_pair_m_in_F2_413 rfl rfl rfl (by decide +kernel) ⟨by decide +kernel, by decide +kernel⟩ (sp_pl [] [0, 1] rfl rfl rfl rfl rfl) rfl rfl (Nat.le_of_ble_eq_true rfl) dX12_pair_7 ⟨by decide +kernel, by decide +kernel⟩ (fun r_12 u_10 hp_11 => ?_)
        subst hp_11
        show V _ _ _ _ _ _ _ _ _ _ _ _ _ _ (0, 0) [(h, .inr (12, fsM q 0 0 0 0 0)), ((q 7), .inl (K 0, 2, .inl (gl [0, 0])))] _ _ [.int 0]
        show V _ _ _ _ _ _ _ _ _ _ _ _ _ _ (0, 0) [(h, .inr (12, fsM q 0 0 0 0 0)), ((q 7), .inl (K 0, 2, .inl (gl [0, 0])))] _ _ _
        refine v_if_eq B (tgt := 53) dX12_pair_10 (by decide +kernel) (fun _ => ?_) (fun h => absurd (by decide +kernel) h)
        refine v_iconst B (v := 0) dX12_pair_53 (by decide +kernel) ?_
        refine v_forget (wc := []) (wr := []) (sp_pl [] [] rfl rfl rfl rfl rfl) ?_
        exact v_zret B hr hlk (by decide +kernel) () rfl rfl (by decide +kernel) (by decide +kernel) dX12_pair_54

def wp_y_job : List Cond := .code yX12_job cX12_job 6 (some .boolean) :: ([.fieldLink RX12 1 "LowEnergyModel" "thrown" "I", .methodLink RX12 413 yX12_in, .static yX12_in, .initialized RX12, .code yX12_in cX12_in 2 (some .boolean), .methodLink RX12 662 yX12_isLinked, .instanceMethod yX12_isLinked, .selects RX12 yX12_isLinked yX12_isLinked, .code yX12_isLinked cX12_isLinked 2 (some .boolean), .fieldLink RX12 45 "LowEnergyModel" "state" "[I"] ++ (wsX120 ++ ([])))
theorem hi_y_job_X12 : ∀ x ∈ u_ws RX12 TX12 123, x ∈ wp_y_job := fun _ h => List.mem_cons_of_mem _ (List.mem_append_right _ (List.mem_append_left _ h))
set_option maxRecDepth 100000 in
theorem gd_y_job_m_in_T_413 : GoodIn wp_y_job (va_wsS RX12 413 yX12_in wp_m_in_T) := goodIn_app (goodIn_r _ [2, 3, 4] rfl rfl) (goodIn_ca (goodIn_r _ [5] rfl rfl) (goodIn_nil))
set_option maxRecDepth 100000 in
theorem gd_y_job_m_isLinked_0_662 : GoodIn wp_y_job (wsV RX12 662 RX12 yX12_isLinked wp_m_isLinked_0) := goodIn_app (goodIn_r _ [6, 7, 8, 4] rfl rfl) (goodIn_ca (goodIn_r _ [9, 10] rfl rfl) (goodIn_app (goodIn_cls hi_y_job_X12 gw_X12) (goodIn_nil)))
set_option maxRecDepth 100000 in
theorem gd_y_job_m_isLinked_1_662 : GoodIn wp_y_job (wsV RX12 662 RX12 yX12_isLinked wp_m_isLinked_1) := goodIn_app (goodIn_r _ [6, 7, 8, 4] rfl rfl) (goodIn_ca (goodIn_r _ [9, 10] rfl rfl) (goodIn_app (goodIn_cls hi_y_job_X12 gw_X12) (goodIn_nil)))
set_option maxRecDepth 100000 in
theorem gd_y_job_m_in_F1_413 : GoodIn wp_y_job (va_wsS RX12 413 yX12_in wp_m_in_F1) := goodIn_app (goodIn_r _ [2, 3, 4] rfl rfl) (goodIn_ca (goodIn_r _ [5] rfl rfl) (goodIn_nil))
set_option maxRecDepth 100000 in
theorem gd_y_job_m_in_F2_413 : GoodIn wp_y_job (va_wsS RX12 413 yX12_in wp_m_in_F2) := goodIn_app (goodIn_r _ [2, 3, 4] rfl rfl) (goodIn_ca (goodIn_r _ [5] rfl rfl) (goodIn_nil))
set_option maxHeartbeats 4000000 in
set_option maxRecDepth 100000 in
theorem y_job (l : Launch) (D : va_G) (K : Nat → ClassId) (h : Nat) (q : Nat → Nat) (fa : Int64) (sa : Int64) (d : Int32) (kd : Int32) (a : Int32) (b : Int32) : MG l yX12_job wp_y_job ({ frames := 1, cells := 0, slots := 0, locals := 21 }) D (tysA K) [.ref h, .int d, .int kd, .int a, .int b] [(h, .inr (12, fsM q 0 0 0 0 0)), ((q 7), .inl (K 0, 2, .inl (gl [0, 0])))] (Qi D (fun (r : Int32) (_ : Unit) => r = an_job d kd a b) (fun _ => [])) 0 0 := by
  refine mg_of (cc := cX12_job) (maxL := 6) (ret := (some .boolean)) (by decide +kernel) rfl (Nat.le_of_ble_eq_true rfl) ?_
  intro p e s m below meth c A B hr hlk hnam
  show V _ _ _ _ _ _ _ _ _ _ _ _ _ _ _ _ [(0, .ref h), (1, .int d), (2, .int kd), (3, .int a), (4, .int b)] _ _
  by_cases h0 : d = 0
  · subst h0
    refine v_aload_n B dX12_job_0 rfl rfl ?_
    refine v_iconst B (v := 0) dX12_job_1 (by decide +kernel) ?_
    refine v_put B (C := RX12) (T := TX12) (N := 123) (ci := 12) (k0 := 0) hi_y_job_X12 rfl rfl 0 (by decide +kernel) tyX12 tyX12_ok nmX12 (List.mem_of_getElem? (i := 1) rfl) rfl (ty := .int) (tyX12_ok 0 (by decide +kernel)) rfl rfl (Nat.le_of_ble_eq_true rfl) (w' := [(h, .inr (12, fsM q 0 0 0 0 0)), ((q 7), .inl (K 0, 2, .inl (gl [0, 0])))]) rfl dX12_job_2 ?_
    refine v_iload_n B dX12_job_5 rfl rfl ?_
    refine v_iconst B (v := 2) dX12_job_6 (by decide +kernel) ?_
    refine v_callSi B (n := 2) (As := [.int 0, .int 2]) (rest := []) (wc := []) (wr := [(h, .inr (12, fsM q 0 0 0 0 0)), ((q 7), .inl (K 0, 2, .inl (gl [0, 0])))]) (m_in_T l D K 0 2 (by decide +kernel) (by decide +kernel)) gd_y_job_m_in_T_413 rfl rfl rfl (by decide +kernel) ⟨by decide +kernel, by decide +kernel⟩ (sp_pl [] [0, 1] rfl rfl rfl rfl rfl) rfl rfl (Nat.le_of_ble_eq_true rfl) dX12_job_7 ⟨by decide +kernel, by decide +kernel⟩ (fun r_3 u_1 hp_2 => ?_)
    subst hp_2
    show V _ _ _ _ _ _ _ _ _ _ _ _ _ _ (0, 0) [(h, .inr (12, fsM q 0 0 0 0 0)), ((q 7), .inl (K 0, 2, .inl (gl [0, 0])))] _ _ [.int 1]
    show V _ _ _ _ _ _ _ _ _ _ _ _ _ _ (0, 0) [(h, .inr (12, fsM q 0 0 0 0 0)), ((q 7), .inl (K 0, 2, .inl (gl [0, 0])))] _ _ _
    refine v_if_eq B (tgt := 72) dX12_job_10 (by decide +kernel) (fun h => absurd h (by decide +kernel)) (fun _ => ?_)
    refine v_aload_n B dX12_job_13 rfl rfl ?_
    refine v_iload_n B dX12_job_14 rfl rfl ?_
    refine v_callVi B (b := h) (n := 1) (As := [.int 0]) (rest := []) (wc := [(h, .inr (12, fsM q 0 0 0 0 0)), ((q 7), .inl (K 0, 2, .inl (gl [0, 0])))]) (wr := []) (m_isLinked_0 l D K h q fa sa) gd_y_job_m_isLinked_0_662 rfl rfl rfl (by decide +kernel) ⟨by decide +kernel, by decide +kernel⟩ 0 rfl rfl rfl (sp_pl [0, 1] [] rfl rfl rfl rfl rfl) rfl rfl (Nat.le_of_ble_eq_true rfl) dX12_job_15 ⟨by decide +kernel, by decide +kernel⟩ (fun r_6 u_4 hp_5 => ?_)
    subst hp_5
    show V _ _ _ _ _ _ _ _ _ _ _ _ _ _ (0, 0) [(h, .inr (12, fsM q 0 0 0 0 0)), ((q 7), .inl (K 0, 2, .inl (gl [0, 0])))] _ _ [.int 0]
    show V _ _ _ _ _ _ _ _ _ _ _ _ _ _ (0, 0) [(h, .inr (12, fsM q 0 0 0 0 0)), ((q 7), .inl (K 0, 2, .inl (gl [0, 0])))] _ _ _
    refine v_if_eq B (tgt := 72) dX12_job_18 (by decide +kernel) (fun _ => ?_) (fun h => absurd (by decide +kernel) h)
    refine v_iconst B (v := 0) dX12_job_72 (by decide +kernel) ?_
    refine v_forget (wc := []) (wr := []) (sp_pl [] [] rfl rfl rfl rfl rfl) ?_
    exact v_zret B hr hlk (by decide +kernel) () rfl rfl (by decide +kernel) (by decide +kernel) dX12_job_73
  · skip
    by_cases h1 : d = 1
    · subst h1
      refine v_aload_n B dX12_job_0 rfl rfl ?_
      refine v_iconst B (v := 0) dX12_job_1 (by decide +kernel) ?_
      refine v_put B (C := RX12) (T := TX12) (N := 123) (ci := 12) (k0 := 0) hi_y_job_X12 rfl rfl 0 (by decide +kernel) tyX12 tyX12_ok nmX12 (List.mem_of_getElem? (i := 1) rfl) rfl (ty := .int) (tyX12_ok 0 (by decide +kernel)) rfl rfl (Nat.le_of_ble_eq_true rfl) (w' := [(h, .inr (12, fsM q 0 0 0 0 0)), ((q 7), .inl (K 0, 2, .inl (gl [0, 0])))]) rfl dX12_job_2 ?_
      refine v_iload_n B dX12_job_5 rfl rfl ?_
      refine v_iconst B (v := 2) dX12_job_6 (by decide +kernel) ?_
      refine v_callSi B (n := 2) (As := [.int 1, .int 2]) (rest := []) (wc := []) (wr := [(h, .inr (12, fsM q 0 0 0 0 0)), ((q 7), .inl (K 0, 2, .inl (gl [0, 0])))]) (m_in_T l D K 1 2 (by decide +kernel) (by decide +kernel)) gd_y_job_m_in_T_413 rfl rfl rfl (by decide +kernel) ⟨by decide +kernel, by decide +kernel⟩ (sp_pl [] [0, 1] rfl rfl rfl rfl rfl) rfl rfl (Nat.le_of_ble_eq_true rfl) dX12_job_7 ⟨by decide +kernel, by decide +kernel⟩ (fun r_9 u_7 hp_8 => ?_)
      subst hp_8
      show V _ _ _ _ _ _ _ _ _ _ _ _ _ _ (0, 0) [(h, .inr (12, fsM q 0 0 0 0 0)), ((q 7), .inl (K 0, 2, .inl (gl [0, 0])))] _ _ [.int 1]
      show V _ _ _ _ _ _ _ _ _ _ _ _ _ _ (0, 0) [(h, .inr (12, fsM q 0 0 0 0 0)), ((q 7), .inl (K 0, 2, .inl (gl [0, 0])))] _ _ _
      refine v_if_eq B (tgt := 72) dX12_job_10 (by decide +kernel) (fun h => absurd h (by decide +kernel)) (fun _ => ?_)
      refine v_aload_n B dX12_job_13 rfl rfl ?_
      refine v_iload_n B dX12_job_14 rfl rfl ?_
      refine v_callVi B (b := h) (n := 1) (As := [.int 1]) (rest := []) (wc := [(h, .inr (12, fsM q 0 0 0 0 0)), ((q 7), .inl (K 0, 2, .inl (gl [0, 0])))]) (wr := []) (m_isLinked_1 l D K h q fa sa) gd_y_job_m_isLinked_1_662 rfl rfl rfl (by decide +kernel) ⟨by decide +kernel, by decide +kernel⟩ 0 rfl rfl rfl (sp_pl [0, 1] [] rfl rfl rfl rfl rfl) rfl rfl (Nat.le_of_ble_eq_true rfl) dX12_job_15 ⟨by decide +kernel, by decide +kernel⟩ (fun r_12 u_10 hp_11 => ?_)
      subst hp_11
      show V _ _ _ _ _ _ _ _ _ _ _ _ _ _ (0, 0) [(h, .inr (12, fsM q 0 0 0 0 0)), ((q 7), .inl (K 0, 2, .inl (gl [0, 0])))] _ _ [.int 0]
      show V _ _ _ _ _ _ _ _ _ _ _ _ _ _ (0, 0) [(h, .inr (12, fsM q 0 0 0 0 0)), ((q 7), .inl (K 0, 2, .inl (gl [0, 0])))] _ _ _
      refine v_if_eq B (tgt := 72) dX12_job_18 (by decide +kernel) (fun _ => ?_) (fun h => absurd (by decide +kernel) h)
      refine v_iconst B (v := 0) dX12_job_72 (by decide +kernel) ?_
      refine v_forget (wc := []) (wr := []) (sp_pl [] [] rfl rfl rfl rfl rfl) ?_
      exact v_zret B hr hlk (by decide +kernel) () rfl rfl (by decide +kernel) (by decide +kernel) dX12_job_73
    · skip
      by_cases e1 : d < 0
      · skip
        refine v_aload_n B dX12_job_0 rfl rfl ?_
        refine v_iconst B (v := 0) dX12_job_1 (by decide +kernel) ?_
        refine v_put B (C := RX12) (T := TX12) (N := 123) (ci := 12) (k0 := 0) hi_y_job_X12 rfl rfl 0 (by decide +kernel) tyX12 tyX12_ok nmX12 (List.mem_of_getElem? (i := 1) rfl) rfl (ty := .int) (tyX12_ok 0 (by decide +kernel)) rfl rfl (Nat.le_of_ble_eq_true rfl) (w' := [(h, .inr (12, fsM q 0 0 0 0 0)), ((q 7), .inl (K 0, 2, .inl (gl [0, 0])))]) rfl dX12_job_2 ?_
        refine v_iload_n B dX12_job_5 rfl rfl ?_
        refine v_iconst B (v := 2) dX12_job_6 (by decide +kernel) ?_
        refine v_callSi B (n := 2) (As := [.int d, .int 2]) (rest := []) (wc := []) (wr := [(h, .inr (12, fsM q 0 0 0 0 0)), ((q 7), .inl (K 0, 2, .inl (gl [0, 0])))]) (m_in_F1 l D K d 2 e1) gd_y_job_m_in_F1_413 rfl rfl rfl (by decide +kernel) ⟨by decide +kernel, by decide +kernel⟩ (sp_pl [] [0, 1] rfl rfl rfl rfl rfl) rfl rfl (Nat.le_of_ble_eq_true rfl) dX12_job_7 ⟨by decide +kernel, by decide +kernel⟩ (fun r_15 u_13 hp_14 => ?_)
        subst hp_14
        show V _ _ _ _ _ _ _ _ _ _ _ _ _ _ (0, 0) [(h, .inr (12, fsM q 0 0 0 0 0)), ((q 7), .inl (K 0, 2, .inl (gl [0, 0])))] _ _ [.int 0]
        show V _ _ _ _ _ _ _ _ _ _ _ _ _ _ (0, 0) [(h, .inr (12, fsM q 0 0 0 0 0)), ((q 7), .inl (K 0, 2, .inl (gl [0, 0])))] _ _ _
        refine v_if_eq B (tgt := 72) dX12_job_10 (by decide +kernel) (fun _ => ?_) (fun h => absurd (by decide +kernel) h)
        refine v_iconst B (v := 0) dX12_job_72 (by decide +kernel) ?_
        refine v_forget (wc := []) (wr := []) (sp_pl [] [] rfl rfl rfl rfl rfl) ?_
        exact v_zret B hr hlk (by decide +kernel) () rfl rfl (by decide +kernel) (by decide +kernel) dX12_job_73
      · skip
        refine v_aload_n B dX12_job_0 rfl rfl ?_
        refine v_iconst B (v := 0) dX12_job_1 (by decide +kernel) ?_
        refine v_put B (C := RX12) (T := TX12) (N := 123) (ci := 12) (k0 := 0) hi_y_job_X12 rfl rfl 0 (by decide +kernel) tyX12 tyX12_ok nmX12 (List.mem_of_getElem? (i := 1) rfl) rfl (ty := .int) (tyX12_ok 0 (by decide +kernel)) rfl rfl (Nat.le_of_ble_eq_true rfl) (w' := [(h, .inr (12, fsM q 0 0 0 0 0)), ((q 7), .inl (K 0, 2, .inl (gl [0, 0])))]) rfl dX12_job_2 ?_
        refine v_iload_n B dX12_job_5 rfl rfl ?_
        refine v_iconst B (v := 2) dX12_job_6 (by decide +kernel) ?_
        refine v_callSi B (n := 2) (As := [.int d, .int 2]) (rest := []) (wc := []) (wr := [(h, .inr (12, fsM q 0 0 0 0 0)), ((q 7), .inl (K 0, 2, .inl (gl [0, 0])))]) (m_in_F2 l D K d 2 (rg_nlt (i_ge2 h0 h1 e1) (by decide +kernel)) (rg_ge (i_ge2 h0 h1 e1) (by decide +kernel))) gd_y_job_m_in_F2_413 rfl rfl rfl (by decide +kernel) ⟨by decide +kernel, by decide +kernel⟩ (sp_pl [] [0, 1] rfl rfl rfl rfl rfl) rfl rfl (Nat.le_of_ble_eq_true rfl) dX12_job_7 ⟨by decide +kernel, by decide +kernel⟩ (fun r_18 u_16 hp_17 => ?_)
        subst hp_17
        show V _ _ _ _ _ _ _ _ _ _ _ _ _ _ (0, 0) [(h, .inr (12, fsM q 0 0 0 0 0)), ((q 7), .inl (K 0, 2, .inl (gl [0, 0])))] _ _ [.int 0]
        show V _ _ _ _ _ _ _ _ _ _ _ _ _ _ (0, 0) [(h, .inr (12, fsM q 0 0 0 0 0)), ((q 7), .inl (K 0, 2, .inl (gl [0, 0])))] _ _ _
        refine v_if_eq B (tgt := 72) dX12_job_10 (by decide +kernel) (fun _ => ?_) (fun h => absurd (by decide +kernel) h)
        refine v_iconst B (v := 0) dX12_job_72 (by decide +kernel) ?_
        refine v_forget (wc := []) (wr := []) (sp_pl [] [] rfl rfl rfl rfl rfl) ?_
        exact v_zret B hr hlk (by decide +kernel) () rfl rfl (by decide +kernel) (by decide +kernel) dX12_job_73

def wp_y_send : List Cond := .code yX12_send cX12_send 6 (some .boolean) :: ([.fieldLink RX12 1 "LowEnergyModel" "thrown" "I", .methodLink RX12 413 yX12_in, .static yX12_in, .initialized RX12, .code yX12_in cX12_in 2 (some .boolean), .methodLink RX12 662 yX12_isLinked, .instanceMethod yX12_isLinked, .selects RX12 yX12_isLinked yX12_isLinked, .code yX12_isLinked cX12_isLinked 2 (some .boolean), .fieldLink RX12 45 "LowEnergyModel" "state" "[I"] ++ (wsX120 ++ ([])))
theorem hi_y_send_X12 : ∀ x ∈ u_ws RX12 TX12 123, x ∈ wp_y_send := fun _ h => List.mem_cons_of_mem _ (List.mem_append_right _ (List.mem_append_left _ h))
set_option maxRecDepth 100000 in
theorem gd_y_send_m_in_T_413 : GoodIn wp_y_send (va_wsS RX12 413 yX12_in wp_m_in_T) := goodIn_app (goodIn_r _ [2, 3, 4] rfl rfl) (goodIn_ca (goodIn_r _ [5] rfl rfl) (goodIn_nil))
set_option maxRecDepth 100000 in
theorem gd_y_send_m_isLinked_0_662 : GoodIn wp_y_send (wsV RX12 662 RX12 yX12_isLinked wp_m_isLinked_0) := goodIn_app (goodIn_r _ [6, 7, 8, 4] rfl rfl) (goodIn_ca (goodIn_r _ [9, 10] rfl rfl) (goodIn_app (goodIn_cls hi_y_send_X12 gw_X12) (goodIn_nil)))
set_option maxRecDepth 100000 in
theorem gd_y_send_m_isLinked_1_662 : GoodIn wp_y_send (wsV RX12 662 RX12 yX12_isLinked wp_m_isLinked_1) := goodIn_app (goodIn_r _ [6, 7, 8, 4] rfl rfl) (goodIn_ca (goodIn_r _ [9, 10] rfl rfl) (goodIn_app (goodIn_cls hi_y_send_X12 gw_X12) (goodIn_nil)))
set_option maxRecDepth 100000 in
theorem gd_y_send_m_in_F1_413 : GoodIn wp_y_send (va_wsS RX12 413 yX12_in wp_m_in_F1) := goodIn_app (goodIn_r _ [2, 3, 4] rfl rfl) (goodIn_ca (goodIn_r _ [5] rfl rfl) (goodIn_nil))
set_option maxRecDepth 100000 in
theorem gd_y_send_m_in_F2_413 : GoodIn wp_y_send (va_wsS RX12 413 yX12_in wp_m_in_F2) := goodIn_app (goodIn_r _ [2, 3, 4] rfl rfl) (goodIn_ca (goodIn_r _ [5] rfl rfl) (goodIn_nil))
set_option maxHeartbeats 4000000 in
set_option maxRecDepth 100000 in
theorem y_send (l : Launch) (D : va_G) (K : Nat → ClassId) (h : Nat) (q : Nat → Nat) (fa : Int64) (sa : Int64) (d : Int32) (kd : Int32) (hd : Int32) : MG l yX12_send wp_y_send ({ frames := 1, cells := 0, slots := 0, locals := 21 }) D (tysA K) [.ref h, .int d, .int kd, .int hd] [(h, .inr (12, fsM q 0 0 0 0 0)), ((q 7), .inl (K 0, 2, .inl (gl [0, 0])))] (Qi D (fun (r : Int32) (_ : Unit) => r = an_send d kd hd) (fun _ => [])) 0 0 := by
  refine mg_of (cc := cX12_send) (maxL := 6) (ret := (some .boolean)) (by decide +kernel) rfl (Nat.le_of_ble_eq_true rfl) ?_
  intro p e s m below meth c A B hr hlk hnam
  show V _ _ _ _ _ _ _ _ _ _ _ _ _ _ _ _ [(0, .ref h), (1, .int d), (2, .int kd), (3, .int hd)] _ _
  by_cases h0 : d = 0
  · subst h0
    refine v_aload_n B dX12_send_0 rfl rfl ?_
    refine v_iconst B (v := 0) dX12_send_1 (by decide +kernel) ?_
    refine v_put B (C := RX12) (T := TX12) (N := 123) (ci := 12) (k0 := 0) hi_y_send_X12 rfl rfl 0 (by decide +kernel) tyX12 tyX12_ok nmX12 (List.mem_of_getElem? (i := 1) rfl) rfl (ty := .int) (tyX12_ok 0 (by decide +kernel)) rfl rfl (Nat.le_of_ble_eq_true rfl) (w' := [(h, .inr (12, fsM q 0 0 0 0 0)), ((q 7), .inl (K 0, 2, .inl (gl [0, 0])))]) rfl dX12_send_2 ?_
    refine v_iload_n B dX12_send_5 rfl rfl ?_
    refine v_iconst B (v := 2) dX12_send_6 (by decide +kernel) ?_
    refine v_callSi B (n := 2) (As := [.int 0, .int 2]) (rest := []) (wc := []) (wr := [(h, .inr (12, fsM q 0 0 0 0 0)), ((q 7), .inl (K 0, 2, .inl (gl [0, 0])))]) (m_in_T l D K 0 2 (by decide +kernel) (by decide +kernel)) gd_y_send_m_in_T_413 rfl rfl rfl (by decide +kernel) ⟨by decide +kernel, by decide +kernel⟩ (sp_pl [] [0, 1] rfl rfl rfl rfl rfl) rfl rfl (Nat.le_of_ble_eq_true rfl) dX12_send_7 ⟨by decide +kernel, by decide +kernel⟩ (fun r_3 u_1 hp_2 => ?_)
    subst hp_2
    show V _ _ _ _ _ _ _ _ _ _ _ _ _ _ (0, 0) [(h, .inr (12, fsM q 0 0 0 0 0)), ((q 7), .inl (K 0, 2, .inl (gl [0, 0])))] _ _ [.int 1]
    show V _ _ _ _ _ _ _ _ _ _ _ _ _ _ (0, 0) [(h, .inr (12, fsM q 0 0 0 0 0)), ((q 7), .inl (K 0, 2, .inl (gl [0, 0])))] _ _ _
    refine v_if_eq B (tgt := 50) dX12_send_10 (by decide +kernel) (fun h => absurd h (by decide +kernel)) (fun _ => ?_)
    refine v_aload_n B dX12_send_13 rfl rfl ?_
    refine v_iload_n B dX12_send_14 rfl rfl ?_
    refine v_callVi B (b := h) (n := 1) (As := [.int 0]) (rest := []) (wc := [(h, .inr (12, fsM q 0 0 0 0 0)), ((q 7), .inl (K 0, 2, .inl (gl [0, 0])))]) (wr := []) (m_isLinked_0 l D K h q fa sa) gd_y_send_m_isLinked_0_662 rfl rfl rfl (by decide +kernel) ⟨by decide +kernel, by decide +kernel⟩ 0 rfl rfl rfl (sp_pl [0, 1] [] rfl rfl rfl rfl rfl) rfl rfl (Nat.le_of_ble_eq_true rfl) dX12_send_15 ⟨by decide +kernel, by decide +kernel⟩ (fun r_6 u_4 hp_5 => ?_)
    subst hp_5
    show V _ _ _ _ _ _ _ _ _ _ _ _ _ _ (0, 0) [(h, .inr (12, fsM q 0 0 0 0 0)), ((q 7), .inl (K 0, 2, .inl (gl [0, 0])))] _ _ [.int 0]
    show V _ _ _ _ _ _ _ _ _ _ _ _ _ _ (0, 0) [(h, .inr (12, fsM q 0 0 0 0 0)), ((q 7), .inl (K 0, 2, .inl (gl [0, 0])))] _ _ _
    refine v_if_eq B (tgt := 50) dX12_send_18 (by decide +kernel) (fun _ => ?_) (fun h => absurd (by decide +kernel) h)
    refine v_iconst B (v := 0) dX12_send_50 (by decide +kernel) ?_
    refine v_forget (wc := []) (wr := []) (sp_pl [] [] rfl rfl rfl rfl rfl) ?_
    exact v_zret B hr hlk (by decide +kernel) () rfl rfl (by decide +kernel) (by decide +kernel) dX12_send_51
  · skip
    by_cases h1 : d = 1
    · subst h1
      refine v_aload_n B dX12_send_0 rfl rfl ?_
      refine v_iconst B (v := 0) dX12_send_1 (by decide +kernel) ?_
      refine v_put B (C := RX12) (T := TX12) (N := 123) (ci := 12) (k0 := 0) hi_y_send_X12 rfl rfl 0 (by decide +kernel) tyX12 tyX12_ok nmX12 (List.mem_of_getElem? (i := 1) rfl) rfl (ty := .int) (tyX12_ok 0 (by decide +kernel)) rfl rfl (Nat.le_of_ble_eq_true rfl) (w' := [(h, .inr (12, fsM q 0 0 0 0 0)), ((q 7), .inl (K 0, 2, .inl (gl [0, 0])))]) rfl dX12_send_2 ?_
      refine v_iload_n B dX12_send_5 rfl rfl ?_
      refine v_iconst B (v := 2) dX12_send_6 (by decide +kernel) ?_
      refine v_callSi B (n := 2) (As := [.int 1, .int 2]) (rest := []) (wc := []) (wr := [(h, .inr (12, fsM q 0 0 0 0 0)), ((q 7), .inl (K 0, 2, .inl (gl [0, 0])))]) (m_in_T l D K 1 2 (by decide +kernel) (by decide +kernel)) gd_y_send_m_in_T_413 rfl rfl rfl (by decide +kernel) ⟨by decide +kernel, by decide +kernel⟩ (sp_pl [] [0, 1] rfl rfl rfl rfl rfl) rfl rfl (Nat.le_of_ble_eq_true rfl) dX12_send_7 ⟨by decide +kernel, by decide +kernel⟩ (fun r_9 u_7 hp_8 => ?_)
      subst hp_8
      show V _ _ _ _ _ _ _ _ _ _ _ _ _ _ (0, 0) [(h, .inr (12, fsM q 0 0 0 0 0)), ((q 7), .inl (K 0, 2, .inl (gl [0, 0])))] _ _ [.int 1]
      show V _ _ _ _ _ _ _ _ _ _ _ _ _ _ (0, 0) [(h, .inr (12, fsM q 0 0 0 0 0)), ((q 7), .inl (K 0, 2, .inl (gl [0, 0])))] _ _ _
      refine v_if_eq B (tgt := 50) dX12_send_10 (by decide +kernel) (fun h => absurd h (by decide +kernel)) (fun _ => ?_)
      refine v_aload_n B dX12_send_13 rfl rfl ?_
      refine v_iload_n B dX12_send_14 rfl rfl ?_
      refine v_callVi B (b := h) (n := 1) (As := [.int 1]) (rest := []) (wc := [(h, .inr (12, fsM q 0 0 0 0 0)), ((q 7), .inl (K 0, 2, .inl (gl [0, 0])))]) (wr := []) (m_isLinked_1 l D K h q fa sa) gd_y_send_m_isLinked_1_662 rfl rfl rfl (by decide +kernel) ⟨by decide +kernel, by decide +kernel⟩ 0 rfl rfl rfl (sp_pl [0, 1] [] rfl rfl rfl rfl rfl) rfl rfl (Nat.le_of_ble_eq_true rfl) dX12_send_15 ⟨by decide +kernel, by decide +kernel⟩ (fun r_12 u_10 hp_11 => ?_)
      subst hp_11
      show V _ _ _ _ _ _ _ _ _ _ _ _ _ _ (0, 0) [(h, .inr (12, fsM q 0 0 0 0 0)), ((q 7), .inl (K 0, 2, .inl (gl [0, 0])))] _ _ [.int 0]
      show V _ _ _ _ _ _ _ _ _ _ _ _ _ _ (0, 0) [(h, .inr (12, fsM q 0 0 0 0 0)), ((q 7), .inl (K 0, 2, .inl (gl [0, 0])))] _ _ _
      refine v_if_eq B (tgt := 50) dX12_send_18 (by decide +kernel) (fun _ => ?_) (fun h => absurd (by decide +kernel) h)
      refine v_iconst B (v := 0) dX12_send_50 (by decide +kernel) ?_
      refine v_forget (wc := []) (wr := []) (sp_pl [] [] rfl rfl rfl rfl rfl) ?_
      exact v_zret B hr hlk (by decide +kernel) () rfl rfl (by decide +kernel) (by decide +kernel) dX12_send_51
    · skip
      by_cases e1 : d < 0
      · skip
        refine v_aload_n B dX12_send_0 rfl rfl ?_
        refine v_iconst B (v := 0) dX12_send_1 (by decide +kernel) ?_
        refine v_put B (C := RX12) (T := TX12) (N := 123) (ci := 12) (k0 := 0) hi_y_send_X12 rfl rfl 0 (by decide +kernel) tyX12 tyX12_ok nmX12 (List.mem_of_getElem? (i := 1) rfl) rfl (ty := .int) (tyX12_ok 0 (by decide +kernel)) rfl rfl (Nat.le_of_ble_eq_true rfl) (w' := [(h, .inr (12, fsM q 0 0 0 0 0)), ((q 7), .inl (K 0, 2, .inl (gl [0, 0])))]) rfl dX12_send_2 ?_
        refine v_iload_n B dX12_send_5 rfl rfl ?_
        refine v_iconst B (v := 2) dX12_send_6 (by decide +kernel) ?_
        refine v_callSi B (n := 2) (As := [.int d, .int 2]) (rest := []) (wc := []) (wr := [(h, .inr (12, fsM q 0 0 0 0 0)), ((q 7), .inl (K 0, 2, .inl (gl [0, 0])))]) (m_in_F1 l D K d 2 e1) gd_y_send_m_in_F1_413 rfl rfl rfl (by decide +kernel) ⟨by decide +kernel, by decide +kernel⟩ (sp_pl [] [0, 1] rfl rfl rfl rfl rfl) rfl rfl (Nat.le_of_ble_eq_true rfl) dX12_send_7 ⟨by decide +kernel, by decide +kernel⟩ (fun r_15 u_13 hp_14 => ?_)
        subst hp_14
        show V _ _ _ _ _ _ _ _ _ _ _ _ _ _ (0, 0) [(h, .inr (12, fsM q 0 0 0 0 0)), ((q 7), .inl (K 0, 2, .inl (gl [0, 0])))] _ _ [.int 0]
        show V _ _ _ _ _ _ _ _ _ _ _ _ _ _ (0, 0) [(h, .inr (12, fsM q 0 0 0 0 0)), ((q 7), .inl (K 0, 2, .inl (gl [0, 0])))] _ _ _
        refine v_if_eq B (tgt := 50) dX12_send_10 (by decide +kernel) (fun _ => ?_) (fun h => absurd (by decide +kernel) h)
        refine v_iconst B (v := 0) dX12_send_50 (by decide +kernel) ?_
        refine v_forget (wc := []) (wr := []) (sp_pl [] [] rfl rfl rfl rfl rfl) ?_
        exact v_zret B hr hlk (by decide +kernel) () rfl rfl (by decide +kernel) (by decide +kernel) dX12_send_51
      · skip
        refine v_aload_n B dX12_send_0 rfl rfl ?_
        refine v_iconst B (v := 0) dX12_send_1 (by decide +kernel) ?_
        refine v_put B (C := RX12) (T := TX12) (N := 123) (ci := 12) (k0 := 0) hi_y_send_X12 rfl rfl 0 (by decide +kernel) tyX12 tyX12_ok nmX12 (List.mem_of_getElem? (i := 1) rfl) rfl (ty := .int) (tyX12_ok 0 (by decide +kernel)) rfl rfl (Nat.le_of_ble_eq_true rfl) (w' := [(h, .inr (12, fsM q 0 0 0 0 0)), ((q 7), .inl (K 0, 2, .inl (gl [0, 0])))]) rfl dX12_send_2 ?_
        refine v_iload_n B dX12_send_5 rfl rfl ?_
        refine v_iconst B (v := 2) dX12_send_6 (by decide +kernel) ?_
        refine v_callSi B (n := 2) (As := [.int d, .int 2]) (rest := []) (wc := []) (wr := [(h, .inr (12, fsM q 0 0 0 0 0)), ((q 7), .inl (K 0, 2, .inl (gl [0, 0])))]) (m_in_F2 l D K d 2 (rg_nlt (i_ge2 h0 h1 e1) (by decide +kernel)) (rg_ge (i_ge2 h0 h1 e1) (by decide +kernel))) gd_y_send_m_in_F2_413 rfl rfl rfl (by decide +kernel) ⟨by decide +kernel, by decide +kernel⟩ (sp_pl [] [0, 1] rfl rfl rfl rfl rfl) rfl rfl (Nat.le_of_ble_eq_true rfl) dX12_send_7 ⟨by decide +kernel, by decide +kernel⟩ (fun r_18 u_16 hp_17 => ?_)
        subst hp_17
        show V _ _ _ _ _ _ _ _ _ _ _ _ _ _ (0, 0) [(h, .inr (12, fsM q 0 0 0 0 0)), ((q 7), .inl (K 0, 2, .inl (gl [0, 0])))] _ _ [.int 0]
        show V _ _ _ _ _ _ _ _ _ _ _ _ _ _ (0, 0) [(h, .inr (12, fsM q 0 0 0 0 0)), ((q 7), .inl (K 0, 2, .inl (gl [0, 0])))] _ _ _
        refine v_if_eq B (tgt := 50) dX12_send_10 (by decide +kernel) (fun _ => ?_) (fun h => absurd (by decide +kernel) h)
        refine v_iconst B (v := 0) dX12_send_50 (by decide +kernel) ?_
        refine v_forget (wc := []) (wr := []) (sp_pl [] [] rfl rfl rfl rfl rfl) ?_
        exact v_zret B hr hlk (by decide +kernel) () rfl rfl (by decide +kernel) (by decide +kernel) dX12_send_51

def wp_y_take : List Cond := .code yX12_take cX12_take 4 (some .boolean) :: ([.fieldLink RX12 1 "LowEnergyModel" "thrown" "I", .methodLink RX12 413 yX12_in, .static yX12_in, .initialized RX12, .code yX12_in cX12_in 2 (some .boolean), .fieldLink RX12 158 "LowEnergyModel" "keptMany" "[I"] ++ (wsX120 ++ ([])))
theorem hi_y_take_X12 : ∀ x ∈ u_ws RX12 TX12 123, x ∈ wp_y_take := fun _ h => List.mem_cons_of_mem _ (List.mem_append_right _ (List.mem_append_left _ h))
set_option maxRecDepth 100000 in
theorem gd_y_take_m_in_T_413 : GoodIn wp_y_take (va_wsS RX12 413 yX12_in wp_m_in_T) := goodIn_app (goodIn_r _ [2, 3, 4] rfl rfl) (goodIn_ca (goodIn_r _ [5] rfl rfl) (goodIn_nil))
set_option maxRecDepth 100000 in
theorem gd_y_take_m_in_F1_413 : GoodIn wp_y_take (va_wsS RX12 413 yX12_in wp_m_in_F1) := goodIn_app (goodIn_r _ [2, 3, 4] rfl rfl) (goodIn_ca (goodIn_r _ [5] rfl rfl) (goodIn_nil))
set_option maxRecDepth 100000 in
theorem gd_y_take_m_in_F2_413 : GoodIn wp_y_take (va_wsS RX12 413 yX12_in wp_m_in_F2) := goodIn_app (goodIn_r _ [2, 3, 4] rfl rfl) (goodIn_ca (goodIn_r _ [5] rfl rfl) (goodIn_nil))
set_option maxHeartbeats 4000000 in
set_option maxRecDepth 100000 in
theorem y_take (l : Launch) (D : va_G) (K : Nat → ClassId) (h : Nat) (q : Nat → Nat) (fa : Int64) (sa : Int64) (d : Int32) : MG l yX12_take wp_y_take ({ frames := 1, cells := 0, slots := 0, locals := 21 }) D (tysA K) [.ref h, .int d] [(h, .inr (12, fsM q 0 0 0 0 0)), ((q 45), .inl (K 0, 2, .inl (gl [0, 0])))] (Qi D (fun (r : Int32) (_ : Unit) => r = an_take d) (fun _ => [])) 0 0 := by
  refine mg_of (cc := cX12_take) (maxL := 4) (ret := (some .boolean)) (by decide +kernel) rfl (Nat.le_of_ble_eq_true rfl) ?_
  intro p e s m below meth c A B hr hlk hnam
  show V _ _ _ _ _ _ _ _ _ _ _ _ _ _ _ _ [(0, .ref h), (1, .int d)] _ _
  by_cases h0 : d = 0
  · subst h0
    refine v_aload_n B dX12_take_0 rfl rfl ?_
    refine v_iconst B (v := 0) dX12_take_1 (by decide +kernel) ?_
    refine v_put B (C := RX12) (T := TX12) (N := 123) (ci := 12) (k0 := 0) hi_y_take_X12 rfl rfl 0 (by decide +kernel) tyX12 tyX12_ok nmX12 (List.mem_of_getElem? (i := 1) rfl) rfl (ty := .int) (tyX12_ok 0 (by decide +kernel)) rfl rfl (Nat.le_of_ble_eq_true rfl) (w' := [(h, .inr (12, fsM q 0 0 0 0 0)), ((q 45), .inl (K 0, 2, .inl (gl [0, 0])))]) rfl dX12_take_2 ?_
    refine v_iload_n B dX12_take_5 rfl rfl ?_
    refine v_iconst B (v := 2) dX12_take_6 (by decide +kernel) ?_
    refine v_callSi B (n := 2) (As := [.int 0, .int 2]) (rest := []) (wc := []) (wr := [(h, .inr (12, fsM q 0 0 0 0 0)), ((q 45), .inl (K 0, 2, .inl (gl [0, 0])))]) (m_in_T l D K 0 2 (by decide +kernel) (by decide +kernel)) gd_y_take_m_in_T_413 rfl rfl rfl (by decide +kernel) ⟨by decide +kernel, by decide +kernel⟩ (sp_pl [] [0, 1] rfl rfl rfl rfl rfl) rfl rfl (Nat.le_of_ble_eq_true rfl) dX12_take_7 ⟨by decide +kernel, by decide +kernel⟩ (fun r_3 u_1 hp_2 => ?_)
    subst hp_2
    show V _ _ _ _ _ _ _ _ _ _ _ _ _ _ (0, 0) [(h, .inr (12, fsM q 0 0 0 0 0)), ((q 45), .inl (K 0, 2, .inl (gl [0, 0])))] _ _ [.int 1]
    show V _ _ _ _ _ _ _ _ _ _ _ _ _ _ (0, 0) [(h, .inr (12, fsM q 0 0 0 0 0)), ((q 45), .inl (K 0, 2, .inl (gl [0, 0])))] _ _ _
    refine v_if_eq B (tgt := 22) dX12_take_10 (by decide +kernel) (fun h => absurd h (by decide +kernel)) (fun _ => ?_)
    refine v_aload_n B dX12_take_13 rfl rfl ?_
    refine v_get B (C := RX12) (T := TX12) (N := 123) (ci := 12) (k0 := 0) hi_y_take_X12 rfl rfl 45 (by decide +kernel) (List.mem_of_getElem? (i := 6) rfl) rfl dX12_take_14 ?_
    refine v_iload_n B dX12_take_17 rfl rfl ?_
    refine v_iald B (k0 := 1) (t0 := 0) (v := 0) rfl rfl (vpi (by decide +kernel)) rfl dX12_take_18 ?_
    refine v_if_ne B (tgt := 24) dX12_take_19 (by decide +kernel) (fun h => absurd (by decide +kernel) h) (fun _ => ?_)
    refine v_iconst B (v := 0) dX12_take_22 (by decide +kernel) ?_
    refine v_forget (wc := []) (wr := []) (sp_pl [] [] rfl rfl rfl rfl rfl) ?_
    exact v_zret B hr hlk (by decide +kernel) () rfl rfl (by decide +kernel) (by decide +kernel) dX12_take_23
  · skip
    by_cases h1 : d = 1
    · subst h1
      refine v_aload_n B dX12_take_0 rfl rfl ?_
      refine v_iconst B (v := 0) dX12_take_1 (by decide +kernel) ?_
      refine v_put B (C := RX12) (T := TX12) (N := 123) (ci := 12) (k0 := 0) hi_y_take_X12 rfl rfl 0 (by decide +kernel) tyX12 tyX12_ok nmX12 (List.mem_of_getElem? (i := 1) rfl) rfl (ty := .int) (tyX12_ok 0 (by decide +kernel)) rfl rfl (Nat.le_of_ble_eq_true rfl) (w' := [(h, .inr (12, fsM q 0 0 0 0 0)), ((q 45), .inl (K 0, 2, .inl (gl [0, 0])))]) rfl dX12_take_2 ?_
      refine v_iload_n B dX12_take_5 rfl rfl ?_
      refine v_iconst B (v := 2) dX12_take_6 (by decide +kernel) ?_
      refine v_callSi B (n := 2) (As := [.int 1, .int 2]) (rest := []) (wc := []) (wr := [(h, .inr (12, fsM q 0 0 0 0 0)), ((q 45), .inl (K 0, 2, .inl (gl [0, 0])))]) (m_in_T l D K 1 2 (by decide +kernel) (by decide +kernel)) gd_y_take_m_in_T_413 rfl rfl rfl (by decide +kernel) ⟨by decide +kernel, by decide +kernel⟩ (sp_pl [] [0, 1] rfl rfl rfl rfl rfl) rfl rfl (Nat.le_of_ble_eq_true rfl) dX12_take_7 ⟨by decide +kernel, by decide +kernel⟩ (fun r_6 u_4 hp_5 => ?_)
      subst hp_5
      show V _ _ _ _ _ _ _ _ _ _ _ _ _ _ (0, 0) [(h, .inr (12, fsM q 0 0 0 0 0)), ((q 45), .inl (K 0, 2, .inl (gl [0, 0])))] _ _ [.int 1]
      show V _ _ _ _ _ _ _ _ _ _ _ _ _ _ (0, 0) [(h, .inr (12, fsM q 0 0 0 0 0)), ((q 45), .inl (K 0, 2, .inl (gl [0, 0])))] _ _ _
      refine v_if_eq B (tgt := 22) dX12_take_10 (by decide +kernel) (fun h => absurd h (by decide +kernel)) (fun _ => ?_)
      refine v_aload_n B dX12_take_13 rfl rfl ?_
      refine v_get B (C := RX12) (T := TX12) (N := 123) (ci := 12) (k0 := 0) hi_y_take_X12 rfl rfl 45 (by decide +kernel) (List.mem_of_getElem? (i := 6) rfl) rfl dX12_take_14 ?_
      refine v_iload_n B dX12_take_17 rfl rfl ?_
      refine v_iald B (k0 := 1) (t0 := 0) (v := 0) rfl rfl (vpi (by decide +kernel)) rfl dX12_take_18 ?_
      refine v_if_ne B (tgt := 24) dX12_take_19 (by decide +kernel) (fun h => absurd (by decide +kernel) h) (fun _ => ?_)
      refine v_iconst B (v := 0) dX12_take_22 (by decide +kernel) ?_
      refine v_forget (wc := []) (wr := []) (sp_pl [] [] rfl rfl rfl rfl rfl) ?_
      exact v_zret B hr hlk (by decide +kernel) () rfl rfl (by decide +kernel) (by decide +kernel) dX12_take_23
    · skip
      by_cases e1 : d < 0
      · skip
        refine v_aload_n B dX12_take_0 rfl rfl ?_
        refine v_iconst B (v := 0) dX12_take_1 (by decide +kernel) ?_
        refine v_put B (C := RX12) (T := TX12) (N := 123) (ci := 12) (k0 := 0) hi_y_take_X12 rfl rfl 0 (by decide +kernel) tyX12 tyX12_ok nmX12 (List.mem_of_getElem? (i := 1) rfl) rfl (ty := .int) (tyX12_ok 0 (by decide +kernel)) rfl rfl (Nat.le_of_ble_eq_true rfl) (w' := [(h, .inr (12, fsM q 0 0 0 0 0)), ((q 45), .inl (K 0, 2, .inl (gl [0, 0])))]) rfl dX12_take_2 ?_
        refine v_iload_n B dX12_take_5 rfl rfl ?_
        refine v_iconst B (v := 2) dX12_take_6 (by decide +kernel) ?_
        refine v_callSi B (n := 2) (As := [.int d, .int 2]) (rest := []) (wc := []) (wr := [(h, .inr (12, fsM q 0 0 0 0 0)), ((q 45), .inl (K 0, 2, .inl (gl [0, 0])))]) (m_in_F1 l D K d 2 e1) gd_y_take_m_in_F1_413 rfl rfl rfl (by decide +kernel) ⟨by decide +kernel, by decide +kernel⟩ (sp_pl [] [0, 1] rfl rfl rfl rfl rfl) rfl rfl (Nat.le_of_ble_eq_true rfl) dX12_take_7 ⟨by decide +kernel, by decide +kernel⟩ (fun r_9 u_7 hp_8 => ?_)
        subst hp_8
        show V _ _ _ _ _ _ _ _ _ _ _ _ _ _ (0, 0) [(h, .inr (12, fsM q 0 0 0 0 0)), ((q 45), .inl (K 0, 2, .inl (gl [0, 0])))] _ _ [.int 0]
        show V _ _ _ _ _ _ _ _ _ _ _ _ _ _ (0, 0) [(h, .inr (12, fsM q 0 0 0 0 0)), ((q 45), .inl (K 0, 2, .inl (gl [0, 0])))] _ _ _
        refine v_if_eq B (tgt := 22) dX12_take_10 (by decide +kernel) (fun _ => ?_) (fun h => absurd (by decide +kernel) h)
        refine v_iconst B (v := 0) dX12_take_22 (by decide +kernel) ?_
        refine v_forget (wc := []) (wr := []) (sp_pl [] [] rfl rfl rfl rfl rfl) ?_
        exact v_zret B hr hlk (by decide +kernel) () rfl rfl (by decide +kernel) (by decide +kernel) dX12_take_23
      · skip
        refine v_aload_n B dX12_take_0 rfl rfl ?_
        refine v_iconst B (v := 0) dX12_take_1 (by decide +kernel) ?_
        refine v_put B (C := RX12) (T := TX12) (N := 123) (ci := 12) (k0 := 0) hi_y_take_X12 rfl rfl 0 (by decide +kernel) tyX12 tyX12_ok nmX12 (List.mem_of_getElem? (i := 1) rfl) rfl (ty := .int) (tyX12_ok 0 (by decide +kernel)) rfl rfl (Nat.le_of_ble_eq_true rfl) (w' := [(h, .inr (12, fsM q 0 0 0 0 0)), ((q 45), .inl (K 0, 2, .inl (gl [0, 0])))]) rfl dX12_take_2 ?_
        refine v_iload_n B dX12_take_5 rfl rfl ?_
        refine v_iconst B (v := 2) dX12_take_6 (by decide +kernel) ?_
        refine v_callSi B (n := 2) (As := [.int d, .int 2]) (rest := []) (wc := []) (wr := [(h, .inr (12, fsM q 0 0 0 0 0)), ((q 45), .inl (K 0, 2, .inl (gl [0, 0])))]) (m_in_F2 l D K d 2 (rg_nlt (i_ge2 h0 h1 e1) (by decide +kernel)) (rg_ge (i_ge2 h0 h1 e1) (by decide +kernel))) gd_y_take_m_in_F2_413 rfl rfl rfl (by decide +kernel) ⟨by decide +kernel, by decide +kernel⟩ (sp_pl [] [0, 1] rfl rfl rfl rfl rfl) rfl rfl (Nat.le_of_ble_eq_true rfl) dX12_take_7 ⟨by decide +kernel, by decide +kernel⟩ (fun r_12 u_10 hp_11 => ?_)
        subst hp_11
        show V _ _ _ _ _ _ _ _ _ _ _ _ _ _ (0, 0) [(h, .inr (12, fsM q 0 0 0 0 0)), ((q 45), .inl (K 0, 2, .inl (gl [0, 0])))] _ _ [.int 0]
        show V _ _ _ _ _ _ _ _ _ _ _ _ _ _ (0, 0) [(h, .inr (12, fsM q 0 0 0 0 0)), ((q 45), .inl (K 0, 2, .inl (gl [0, 0])))] _ _ _
        refine v_if_eq B (tgt := 22) dX12_take_10 (by decide +kernel) (fun _ => ?_) (fun h => absurd (by decide +kernel) h)
        refine v_iconst B (v := 0) dX12_take_22 (by decide +kernel) ?_
        refine v_forget (wc := []) (wr := []) (sp_pl [] [] rfl rfl rfl rfl rfl) ?_
        exact v_zret B hr hlk (by decide +kernel) () rfl rfl (by decide +kernel) (by decide +kernel) dX12_take_23

def wp_y_completion : List Cond := .code yX12_completion cX12_completion 4 (some .int) :: ([.fieldLink RX12 1 "LowEnergyModel" "thrown" "I", .methodLink RX12 413 yX12_in, .static yX12_in, .initialized RX12, .code yX12_in cX12_in 2 (some .boolean), .fieldLink RX12 158 "LowEnergyModel" "keptMany" "[I"] ++ (wsX120 ++ ([])))
theorem hi_y_completion_X12 : ∀ x ∈ u_ws RX12 TX12 123, x ∈ wp_y_completion := fun _ h => List.mem_cons_of_mem _ (List.mem_append_right _ (List.mem_append_left _ h))
set_option maxRecDepth 100000 in
theorem gd_y_completion_m_in_T_413 : GoodIn wp_y_completion (va_wsS RX12 413 yX12_in wp_m_in_T) := goodIn_app (goodIn_r _ [2, 3, 4] rfl rfl) (goodIn_ca (goodIn_r _ [5] rfl rfl) (goodIn_nil))
set_option maxRecDepth 100000 in
theorem gd_y_completion_m_in_F1_413 : GoodIn wp_y_completion (va_wsS RX12 413 yX12_in wp_m_in_F1) := goodIn_app (goodIn_r _ [2, 3, 4] rfl rfl) (goodIn_ca (goodIn_r _ [5] rfl rfl) (goodIn_nil))
set_option maxRecDepth 100000 in
theorem gd_y_completion_m_in_F2_413 : GoodIn wp_y_completion (va_wsS RX12 413 yX12_in wp_m_in_F2) := goodIn_app (goodIn_r _ [2, 3, 4] rfl rfl) (goodIn_ca (goodIn_r _ [5] rfl rfl) (goodIn_nil))
set_option maxHeartbeats 4000000 in
set_option maxRecDepth 100000 in
theorem y_completion (l : Launch) (D : va_G) (K : Nat → ClassId) (h : Nat) (q : Nat → Nat) (fa : Int64) (sa : Int64) (d : Int32) (w : Int32) : MG l yX12_completion wp_y_completion ({ frames := 1, cells := 0, slots := 0, locals := 21 }) D (tysA K) [.ref h, .int d, .int w] [(h, .inr (12, fsM q 0 0 0 0 0)), ((q 45), .inl (K 0, 2, .inl (gl [0, 0])))] (Qi D (fun (r : Int32) (_ : Unit) => r = an_completion d w) (fun _ => [])) 0 0 := by
  refine mg_of (cc := cX12_completion) (maxL := 4) (ret := (some .int)) (by decide +kernel) rfl (Nat.le_of_ble_eq_true rfl) ?_
  intro p e s m below meth c A B hr hlk hnam
  show V _ _ _ _ _ _ _ _ _ _ _ _ _ _ _ _ [(0, .ref h), (1, .int d), (2, .int w)] _ _
  by_cases h0 : d = 0
  · subst h0
    refine v_aload_n B dX12_completion_0 rfl rfl ?_
    refine v_iconst B (v := 0) dX12_completion_1 (by decide +kernel) ?_
    refine v_put B (C := RX12) (T := TX12) (N := 123) (ci := 12) (k0 := 0) hi_y_completion_X12 rfl rfl 0 (by decide +kernel) tyX12 tyX12_ok nmX12 (List.mem_of_getElem? (i := 1) rfl) rfl (ty := .int) (tyX12_ok 0 (by decide +kernel)) rfl rfl (Nat.le_of_ble_eq_true rfl) (w' := [(h, .inr (12, fsM q 0 0 0 0 0)), ((q 45), .inl (K 0, 2, .inl (gl [0, 0])))]) rfl dX12_completion_2 ?_
    refine v_iload_n B dX12_completion_5 rfl rfl ?_
    refine v_iconst B (v := 2) dX12_completion_6 (by decide +kernel) ?_
    refine v_callSi B (n := 2) (As := [.int 0, .int 2]) (rest := []) (wc := []) (wr := [(h, .inr (12, fsM q 0 0 0 0 0)), ((q 45), .inl (K 0, 2, .inl (gl [0, 0])))]) (m_in_T l D K 0 2 (by decide +kernel) (by decide +kernel)) gd_y_completion_m_in_T_413 rfl rfl rfl (by decide +kernel) ⟨by decide +kernel, by decide +kernel⟩ (sp_pl [] [0, 1] rfl rfl rfl rfl rfl) rfl rfl (Nat.le_of_ble_eq_true rfl) dX12_completion_7 ⟨by decide +kernel, by decide +kernel⟩ (fun r_3 u_1 hp_2 => ?_)
    subst hp_2
    show V _ _ _ _ _ _ _ _ _ _ _ _ _ _ (0, 0) [(h, .inr (12, fsM q 0 0 0 0 0)), ((q 45), .inl (K 0, 2, .inl (gl [0, 0])))] _ _ [.int 1]
    show V _ _ _ _ _ _ _ _ _ _ _ _ _ _ (0, 0) [(h, .inr (12, fsM q 0 0 0 0 0)), ((q 45), .inl (K 0, 2, .inl (gl [0, 0])))] _ _ _
    refine v_if_eq B (tgt := 22) dX12_completion_10 (by decide +kernel) (fun h => absurd h (by decide +kernel)) (fun _ => ?_)
    refine v_aload_n B dX12_completion_13 rfl rfl ?_
    refine v_get B (C := RX12) (T := TX12) (N := 123) (ci := 12) (k0 := 0) hi_y_completion_X12 rfl rfl 45 (by decide +kernel) (List.mem_of_getElem? (i := 6) rfl) rfl dX12_completion_14 ?_
    refine v_iload_n B dX12_completion_17 rfl rfl ?_
    refine v_iald B (k0 := 1) (t0 := 0) (v := 0) rfl rfl (vpi (by decide +kernel)) rfl dX12_completion_18 ?_
    refine v_if_ne B (tgt := 24) dX12_completion_19 (by decide +kernel) (fun h => absurd (by decide +kernel) h) (fun _ => ?_)
    refine v_iconst B (v := (-1)) dX12_completion_22 (by decide +kernel) ?_
    refine v_forget (wc := []) (wr := []) (sp_pl [] [] rfl rfl rfl rfl rfl) ?_
    exact v_iret B hr hlk () rfl rfl (by decide +kernel) (by decide +kernel) dX12_completion_23
  · skip
    by_cases h1 : d = 1
    · subst h1
      refine v_aload_n B dX12_completion_0 rfl rfl ?_
      refine v_iconst B (v := 0) dX12_completion_1 (by decide +kernel) ?_
      refine v_put B (C := RX12) (T := TX12) (N := 123) (ci := 12) (k0 := 0) hi_y_completion_X12 rfl rfl 0 (by decide +kernel) tyX12 tyX12_ok nmX12 (List.mem_of_getElem? (i := 1) rfl) rfl (ty := .int) (tyX12_ok 0 (by decide +kernel)) rfl rfl (Nat.le_of_ble_eq_true rfl) (w' := [(h, .inr (12, fsM q 0 0 0 0 0)), ((q 45), .inl (K 0, 2, .inl (gl [0, 0])))]) rfl dX12_completion_2 ?_
      refine v_iload_n B dX12_completion_5 rfl rfl ?_
      refine v_iconst B (v := 2) dX12_completion_6 (by decide +kernel) ?_
      refine v_callSi B (n := 2) (As := [.int 1, .int 2]) (rest := []) (wc := []) (wr := [(h, .inr (12, fsM q 0 0 0 0 0)), ((q 45), .inl (K 0, 2, .inl (gl [0, 0])))]) (m_in_T l D K 1 2 (by decide +kernel) (by decide +kernel)) gd_y_completion_m_in_T_413 rfl rfl rfl (by decide +kernel) ⟨by decide +kernel, by decide +kernel⟩ (sp_pl [] [0, 1] rfl rfl rfl rfl rfl) rfl rfl (Nat.le_of_ble_eq_true rfl) dX12_completion_7 ⟨by decide +kernel, by decide +kernel⟩ (fun r_6 u_4 hp_5 => ?_)
      subst hp_5
      show V _ _ _ _ _ _ _ _ _ _ _ _ _ _ (0, 0) [(h, .inr (12, fsM q 0 0 0 0 0)), ((q 45), .inl (K 0, 2, .inl (gl [0, 0])))] _ _ [.int 1]
      show V _ _ _ _ _ _ _ _ _ _ _ _ _ _ (0, 0) [(h, .inr (12, fsM q 0 0 0 0 0)), ((q 45), .inl (K 0, 2, .inl (gl [0, 0])))] _ _ _
      refine v_if_eq B (tgt := 22) dX12_completion_10 (by decide +kernel) (fun h => absurd h (by decide +kernel)) (fun _ => ?_)
      refine v_aload_n B dX12_completion_13 rfl rfl ?_
      refine v_get B (C := RX12) (T := TX12) (N := 123) (ci := 12) (k0 := 0) hi_y_completion_X12 rfl rfl 45 (by decide +kernel) (List.mem_of_getElem? (i := 6) rfl) rfl dX12_completion_14 ?_
      refine v_iload_n B dX12_completion_17 rfl rfl ?_
      refine v_iald B (k0 := 1) (t0 := 0) (v := 0) rfl rfl (vpi (by decide +kernel)) rfl dX12_completion_18 ?_
      refine v_if_ne B (tgt := 24) dX12_completion_19 (by decide +kernel) (fun h => absurd (by decide +kernel) h) (fun _ => ?_)
      refine v_iconst B (v := (-1)) dX12_completion_22 (by decide +kernel) ?_
      refine v_forget (wc := []) (wr := []) (sp_pl [] [] rfl rfl rfl rfl rfl) ?_
      exact v_iret B hr hlk () rfl rfl (by decide +kernel) (by decide +kernel) dX12_completion_23
    · skip
      by_cases e1 : d < 0
      · skip
        refine v_aload_n B dX12_completion_0 rfl rfl ?_
        refine v_iconst B (v := 0) dX12_completion_1 (by decide +kernel) ?_
        refine v_put B (C := RX12) (T := TX12) (N := 123) (ci := 12) (k0 := 0) hi_y_completion_X12 rfl rfl 0 (by decide +kernel) tyX12 tyX12_ok nmX12 (List.mem_of_getElem? (i := 1) rfl) rfl (ty := .int) (tyX12_ok 0 (by decide +kernel)) rfl rfl (Nat.le_of_ble_eq_true rfl) (w' := [(h, .inr (12, fsM q 0 0 0 0 0)), ((q 45), .inl (K 0, 2, .inl (gl [0, 0])))]) rfl dX12_completion_2 ?_
        refine v_iload_n B dX12_completion_5 rfl rfl ?_
        refine v_iconst B (v := 2) dX12_completion_6 (by decide +kernel) ?_
        refine v_callSi B (n := 2) (As := [.int d, .int 2]) (rest := []) (wc := []) (wr := [(h, .inr (12, fsM q 0 0 0 0 0)), ((q 45), .inl (K 0, 2, .inl (gl [0, 0])))]) (m_in_F1 l D K d 2 e1) gd_y_completion_m_in_F1_413 rfl rfl rfl (by decide +kernel) ⟨by decide +kernel, by decide +kernel⟩ (sp_pl [] [0, 1] rfl rfl rfl rfl rfl) rfl rfl (Nat.le_of_ble_eq_true rfl) dX12_completion_7 ⟨by decide +kernel, by decide +kernel⟩ (fun r_9 u_7 hp_8 => ?_)
        subst hp_8
        show V _ _ _ _ _ _ _ _ _ _ _ _ _ _ (0, 0) [(h, .inr (12, fsM q 0 0 0 0 0)), ((q 45), .inl (K 0, 2, .inl (gl [0, 0])))] _ _ [.int 0]
        show V _ _ _ _ _ _ _ _ _ _ _ _ _ _ (0, 0) [(h, .inr (12, fsM q 0 0 0 0 0)), ((q 45), .inl (K 0, 2, .inl (gl [0, 0])))] _ _ _
        refine v_if_eq B (tgt := 22) dX12_completion_10 (by decide +kernel) (fun _ => ?_) (fun h => absurd (by decide +kernel) h)
        refine v_iconst B (v := (-1)) dX12_completion_22 (by decide +kernel) ?_
        refine v_forget (wc := []) (wr := []) (sp_pl [] [] rfl rfl rfl rfl rfl) ?_
        exact v_iret B hr hlk () rfl rfl (by decide +kernel) (by decide +kernel) dX12_completion_23
      · skip
        refine v_aload_n B dX12_completion_0 rfl rfl ?_
        refine v_iconst B (v := 0) dX12_completion_1 (by decide +kernel) ?_
        refine v_put B (C := RX12) (T := TX12) (N := 123) (ci := 12) (k0 := 0) hi_y_completion_X12 rfl rfl 0 (by decide +kernel) tyX12 tyX12_ok nmX12 (List.mem_of_getElem? (i := 1) rfl) rfl (ty := .int) (tyX12_ok 0 (by decide +kernel)) rfl rfl (Nat.le_of_ble_eq_true rfl) (w' := [(h, .inr (12, fsM q 0 0 0 0 0)), ((q 45), .inl (K 0, 2, .inl (gl [0, 0])))]) rfl dX12_completion_2 ?_
        refine v_iload_n B dX12_completion_5 rfl rfl ?_
        refine v_iconst B (v := 2) dX12_completion_6 (by decide +kernel) ?_
        refine v_callSi B (n := 2) (As := [.int d, .int 2]) (rest := []) (wc := []) (wr := [(h, .inr (12, fsM q 0 0 0 0 0)), ((q 45), .inl (K 0, 2, .inl (gl [0, 0])))]) (m_in_F2 l D K d 2 (rg_nlt (i_ge2 h0 h1 e1) (by decide +kernel)) (rg_ge (i_ge2 h0 h1 e1) (by decide +kernel))) gd_y_completion_m_in_F2_413 rfl rfl rfl (by decide +kernel) ⟨by decide +kernel, by decide +kernel⟩ (sp_pl [] [0, 1] rfl rfl rfl rfl rfl) rfl rfl (Nat.le_of_ble_eq_true rfl) dX12_completion_7 ⟨by decide +kernel, by decide +kernel⟩ (fun r_12 u_10 hp_11 => ?_)
        subst hp_11
        show V _ _ _ _ _ _ _ _ _ _ _ _ _ _ (0, 0) [(h, .inr (12, fsM q 0 0 0 0 0)), ((q 45), .inl (K 0, 2, .inl (gl [0, 0])))] _ _ [.int 0]
        show V _ _ _ _ _ _ _ _ _ _ _ _ _ _ (0, 0) [(h, .inr (12, fsM q 0 0 0 0 0)), ((q 45), .inl (K 0, 2, .inl (gl [0, 0])))] _ _ _
        refine v_if_eq B (tgt := 22) dX12_completion_10 (by decide +kernel) (fun _ => ?_) (fun h => absurd (by decide +kernel) h)
        refine v_iconst B (v := (-1)) dX12_completion_22 (by decide +kernel) ?_
        refine v_forget (wc := []) (wr := []) (sp_pl [] [] rfl rfl rfl rfl rfl) ?_
        exact v_iret B hr hlk () rfl rfl (by decide +kernel) (by decide +kernel) dX12_completion_23

def wp_y_lose : List Cond := .code yX12_lose cX12_lose 3 (some .boolean) :: ([.fieldLink RX12 1 "LowEnergyModel" "thrown" "I", .methodLink RX12 413 yX12_in, .static yX12_in, .initialized RX12, .code yX12_in cX12_in 2 (some .boolean), .fieldLink RX12 94 "LowEnergyModel" "lost" "[I"] ++ (wsX120 ++ ([])))
theorem hi_y_lose_X12 : ∀ x ∈ u_ws RX12 TX12 123, x ∈ wp_y_lose := fun _ h => List.mem_cons_of_mem _ (List.mem_append_right _ (List.mem_append_left _ h))
set_option maxRecDepth 100000 in
theorem gd_y_lose_m_in_T_413 : GoodIn wp_y_lose (va_wsS RX12 413 yX12_in wp_m_in_T) := goodIn_app (goodIn_r _ [2, 3, 4] rfl rfl) (goodIn_ca (goodIn_r _ [5] rfl rfl) (goodIn_nil))
set_option maxRecDepth 100000 in
theorem gd_y_lose_m_in_F1_413 : GoodIn wp_y_lose (va_wsS RX12 413 yX12_in wp_m_in_F1) := goodIn_app (goodIn_r _ [2, 3, 4] rfl rfl) (goodIn_ca (goodIn_r _ [5] rfl rfl) (goodIn_nil))
set_option maxRecDepth 100000 in
theorem gd_y_lose_m_in_F2_413 : GoodIn wp_y_lose (va_wsS RX12 413 yX12_in wp_m_in_F2) := goodIn_app (goodIn_r _ [2, 3, 4] rfl rfl) (goodIn_ca (goodIn_r _ [5] rfl rfl) (goodIn_nil))
set_option maxHeartbeats 4000000 in
set_option maxRecDepth 100000 in
theorem y_lose (l : Launch) (D : va_G) (K : Nat → ClassId) (h : Nat) (q : Nat → Nat) (fa : Int64) (sa : Int64) (d : Int32) (n : Int32) : MG l yX12_lose wp_y_lose ({ frames := 1, cells := 0, slots := 0, locals := 21 }) D (tysA K) [.ref h, .int d, .int n] [(h, .inr (12, fsM q 0 0 0 0 0)), ((q 23), .inl (K 0, 2, .inl (gl [0, 0])))] (Qi D (fun (r : Int32) (_ : Unit) => r = an_lose d n) (fun _ => [])) 0 0 := by
  refine mg_of (cc := cX12_lose) (maxL := 3) (ret := (some .boolean)) (by decide +kernel) rfl (Nat.le_of_ble_eq_true rfl) ?_
  intro p e s m below meth c A B hr hlk hnam
  show V _ _ _ _ _ _ _ _ _ _ _ _ _ _ _ _ [(0, .ref h), (1, .int d), (2, .int n)] _ _
  by_cases h0 : d = 0
  · subst h0
    by_cases e_n : n < 0
    · skip
      refine v_aload_n B dX12_lose_0 rfl rfl ?_
      refine v_iconst B (v := 0) dX12_lose_1 (by decide +kernel) ?_
      refine v_put B (C := RX12) (T := TX12) (N := 123) (ci := 12) (k0 := 0) hi_y_lose_X12 rfl rfl 0 (by decide +kernel) tyX12 tyX12_ok nmX12 (List.mem_of_getElem? (i := 1) rfl) rfl (ty := .int) (tyX12_ok 0 (by decide +kernel)) rfl rfl (Nat.le_of_ble_eq_true rfl) (w' := [(h, .inr (12, fsM q 0 0 0 0 0)), ((q 23), .inl (K 0, 2, .inl (gl [0, 0])))]) rfl dX12_lose_2 ?_
      refine v_iload_n B dX12_lose_5 rfl rfl ?_
      refine v_iconst B (v := 2) dX12_lose_6 (by decide +kernel) ?_
      refine v_callSi B (n := 2) (As := [.int 0, .int 2]) (rest := []) (wc := []) (wr := [(h, .inr (12, fsM q 0 0 0 0 0)), ((q 23), .inl (K 0, 2, .inl (gl [0, 0])))]) (m_in_T l D K 0 2 (by decide +kernel) (by decide +kernel)) gd_y_lose_m_in_T_413 rfl rfl rfl (by decide +kernel) ⟨by decide +kernel, by decide +kernel⟩ (sp_pl [] [0, 1] rfl rfl rfl rfl rfl) rfl rfl (Nat.le_of_ble_eq_true rfl) dX12_lose_7 ⟨by decide +kernel, by decide +kernel⟩ (fun r_3 u_1 hp_2 => ?_)
      subst hp_2
      show V _ _ _ _ _ _ _ _ _ _ _ _ _ _ (0, 0) [(h, .inr (12, fsM q 0 0 0 0 0)), ((q 23), .inl (K 0, 2, .inl (gl [0, 0])))] _ _ [.int 1]
      show V _ _ _ _ _ _ _ _ _ _ _ _ _ _ (0, 0) [(h, .inr (12, fsM q 0 0 0 0 0)), ((q 23), .inl (K 0, 2, .inl (gl [0, 0])))] _ _ _
      refine v_if_eq B (tgt := 22) dX12_lose_10 (by decide +kernel) (fun h => absurd h (by decide +kernel)) (fun _ => ?_)
      refine v_iload_n B dX12_lose_13 rfl rfl ?_
      refine v_bipush B (v := 101) dX12_lose_14 (by decide +kernel) ?_
      refine v_callSi B (n := 2) (As := [.int n, .int 101]) (rest := []) (wc := []) (wr := [(h, .inr (12, fsM q 0 0 0 0 0)), ((q 23), .inl (K 0, 2, .inl (gl [0, 0])))]) (m_in_F1 l D K n 101 e_n) gd_y_lose_m_in_F1_413 rfl rfl rfl (by decide +kernel) ⟨by decide +kernel, by decide +kernel⟩ (sp_pl [] [0, 1] rfl rfl rfl rfl rfl) rfl rfl (Nat.le_of_ble_eq_true rfl) dX12_lose_16 ⟨by decide +kernel, by decide +kernel⟩ (fun r_6 u_4 hp_5 => ?_)
      subst hp_5
      show V _ _ _ _ _ _ _ _ _ _ _ _ _ _ (0, 0) [(h, .inr (12, fsM q 0 0 0 0 0)), ((q 23), .inl (K 0, 2, .inl (gl [0, 0])))] _ _ [.int 0]
      show V _ _ _ _ _ _ _ _ _ _ _ _ _ _ (0, 0) [(h, .inr (12, fsM q 0 0 0 0 0)), ((q 23), .inl (K 0, 2, .inl (gl [0, 0])))] _ _ _
      refine v_if_ne B (tgt := 24) dX12_lose_19 (by decide +kernel) (fun h => absurd (by decide +kernel) h) (fun _ => ?_)
      refine v_iconst B (v := 0) dX12_lose_22 (by decide +kernel) ?_
      refine v_forget (wc := []) (wr := []) (sp_pl [] [] rfl rfl rfl rfl rfl) ?_
      exact v_zret B hr hlk (by decide +kernel) () (by simp [an_lose, e_n]) rfl (by decide +kernel) (by decide +kernel) dX12_lose_23
    · skip
      by_cases f_n : 101 ≤ n
      · skip
        refine v_aload_n B dX12_lose_0 rfl rfl ?_
        refine v_iconst B (v := 0) dX12_lose_1 (by decide +kernel) ?_
        refine v_put B (C := RX12) (T := TX12) (N := 123) (ci := 12) (k0 := 0) hi_y_lose_X12 rfl rfl 0 (by decide +kernel) tyX12 tyX12_ok nmX12 (List.mem_of_getElem? (i := 1) rfl) rfl (ty := .int) (tyX12_ok 0 (by decide +kernel)) rfl rfl (Nat.le_of_ble_eq_true rfl) (w' := [(h, .inr (12, fsM q 0 0 0 0 0)), ((q 23), .inl (K 0, 2, .inl (gl [0, 0])))]) rfl dX12_lose_2 ?_
        refine v_iload_n B dX12_lose_5 rfl rfl ?_
        refine v_iconst B (v := 2) dX12_lose_6 (by decide +kernel) ?_
        refine v_callSi B (n := 2) (As := [.int 0, .int 2]) (rest := []) (wc := []) (wr := [(h, .inr (12, fsM q 0 0 0 0 0)), ((q 23), .inl (K 0, 2, .inl (gl [0, 0])))]) (m_in_T l D K 0 2 (by decide +kernel) (by decide +kernel)) gd_y_lose_m_in_T_413 rfl rfl rfl (by decide +kernel) ⟨by decide +kernel, by decide +kernel⟩ (sp_pl [] [0, 1] rfl rfl rfl rfl rfl) rfl rfl (Nat.le_of_ble_eq_true rfl) dX12_lose_7 ⟨by decide +kernel, by decide +kernel⟩ (fun r_9 u_7 hp_8 => ?_)
        subst hp_8
        show V _ _ _ _ _ _ _ _ _ _ _ _ _ _ (0, 0) [(h, .inr (12, fsM q 0 0 0 0 0)), ((q 23), .inl (K 0, 2, .inl (gl [0, 0])))] _ _ [.int 1]
        show V _ _ _ _ _ _ _ _ _ _ _ _ _ _ (0, 0) [(h, .inr (12, fsM q 0 0 0 0 0)), ((q 23), .inl (K 0, 2, .inl (gl [0, 0])))] _ _ _
        refine v_if_eq B (tgt := 22) dX12_lose_10 (by decide +kernel) (fun h => absurd h (by decide +kernel)) (fun _ => ?_)
        refine v_iload_n B dX12_lose_13 rfl rfl ?_
        refine v_bipush B (v := 101) dX12_lose_14 (by decide +kernel) ?_
        refine v_callSi B (n := 2) (As := [.int n, .int 101]) (rest := []) (wc := []) (wr := [(h, .inr (12, fsM q 0 0 0 0 0)), ((q 23), .inl (K 0, 2, .inl (gl [0, 0])))]) (m_in_F2 l D K n 101 (rg_nlt f_n (by decide +kernel)) (rg_ge f_n (by decide +kernel))) gd_y_lose_m_in_F2_413 rfl rfl rfl (by decide +kernel) ⟨by decide +kernel, by decide +kernel⟩ (sp_pl [] [0, 1] rfl rfl rfl rfl rfl) rfl rfl (Nat.le_of_ble_eq_true rfl) dX12_lose_16 ⟨by decide +kernel, by decide +kernel⟩ (fun r_12 u_10 hp_11 => ?_)
        subst hp_11
        show V _ _ _ _ _ _ _ _ _ _ _ _ _ _ (0, 0) [(h, .inr (12, fsM q 0 0 0 0 0)), ((q 23), .inl (K 0, 2, .inl (gl [0, 0])))] _ _ [.int 0]
        show V _ _ _ _ _ _ _ _ _ _ _ _ _ _ (0, 0) [(h, .inr (12, fsM q 0 0 0 0 0)), ((q 23), .inl (K 0, 2, .inl (gl [0, 0])))] _ _ _
        refine v_if_ne B (tgt := 24) dX12_lose_19 (by decide +kernel) (fun h => absurd (by decide +kernel) h) (fun _ => ?_)
        refine v_iconst B (v := 0) dX12_lose_22 (by decide +kernel) ?_
        refine v_forget (wc := []) (wr := []) (sp_pl [] [] rfl rfl rfl rfl rfl) ?_
        exact v_zret B hr hlk (by decide +kernel) () (by simp [an_lose, e_n, (rg_gt f_n (by decide +kernel) : 100 < n), f_n]) rfl (by decide +kernel) (by decide +kernel) dX12_lose_23
      · skip
        refine v_aload_n B dX12_lose_0 rfl rfl ?_
        refine v_iconst B (v := 0) dX12_lose_1 (by decide +kernel) ?_
        refine v_put B (C := RX12) (T := TX12) (N := 123) (ci := 12) (k0 := 0) hi_y_lose_X12 rfl rfl 0 (by decide +kernel) tyX12 tyX12_ok nmX12 (List.mem_of_getElem? (i := 1) rfl) rfl (ty := .int) (tyX12_ok 0 (by decide +kernel)) rfl rfl (Nat.le_of_ble_eq_true rfl) (w' := [(h, .inr (12, fsM q 0 0 0 0 0)), ((q 23), .inl (K 0, 2, .inl (gl [0, 0])))]) rfl dX12_lose_2 ?_
        refine v_iload_n B dX12_lose_5 rfl rfl ?_
        refine v_iconst B (v := 2) dX12_lose_6 (by decide +kernel) ?_
        refine v_callSi B (n := 2) (As := [.int 0, .int 2]) (rest := []) (wc := []) (wr := [(h, .inr (12, fsM q 0 0 0 0 0)), ((q 23), .inl (K 0, 2, .inl (gl [0, 0])))]) (m_in_T l D K 0 2 (by decide +kernel) (by decide +kernel)) gd_y_lose_m_in_T_413 rfl rfl rfl (by decide +kernel) ⟨by decide +kernel, by decide +kernel⟩ (sp_pl [] [0, 1] rfl rfl rfl rfl rfl) rfl rfl (Nat.le_of_ble_eq_true rfl) dX12_lose_7 ⟨by decide +kernel, by decide +kernel⟩ (fun r_15 u_13 hp_14 => ?_)
        subst hp_14
        show V _ _ _ _ _ _ _ _ _ _ _ _ _ _ (0, 0) [(h, .inr (12, fsM q 0 0 0 0 0)), ((q 23), .inl (K 0, 2, .inl (gl [0, 0])))] _ _ [.int 1]
        show V _ _ _ _ _ _ _ _ _ _ _ _ _ _ (0, 0) [(h, .inr (12, fsM q 0 0 0 0 0)), ((q 23), .inl (K 0, 2, .inl (gl [0, 0])))] _ _ _
        refine v_if_eq B (tgt := 22) dX12_lose_10 (by decide +kernel) (fun h => absurd h (by decide +kernel)) (fun _ => ?_)
        refine v_iload_n B dX12_lose_13 rfl rfl ?_
        refine v_bipush B (v := 101) dX12_lose_14 (by decide +kernel) ?_
        refine v_callSi B (n := 2) (As := [.int n, .int 101]) (rest := []) (wc := []) (wr := [(h, .inr (12, fsM q 0 0 0 0 0)), ((q 23), .inl (K 0, 2, .inl (gl [0, 0])))]) (m_in_T l D K n 101 e_n f_n) gd_y_lose_m_in_T_413 rfl rfl rfl (by decide +kernel) ⟨by decide +kernel, by decide +kernel⟩ (sp_pl [] [0, 1] rfl rfl rfl rfl rfl) rfl rfl (Nat.le_of_ble_eq_true rfl) dX12_lose_16 ⟨by decide +kernel, by decide +kernel⟩ (fun r_18 u_16 hp_17 => ?_)
        subst hp_17
        show V _ _ _ _ _ _ _ _ _ _ _ _ _ _ (0, 0) [(h, .inr (12, fsM q 0 0 0 0 0)), ((q 23), .inl (K 0, 2, .inl (gl [0, 0])))] _ _ [.int 1]
        show V _ _ _ _ _ _ _ _ _ _ _ _ _ _ (0, 0) [(h, .inr (12, fsM q 0 0 0 0 0)), ((q 23), .inl (K 0, 2, .inl (gl [0, 0])))] _ _ _
        refine v_if_ne B (tgt := 24) dX12_lose_19 (by decide +kernel) (fun _ => ?_) (fun h => absurd h (by decide +kernel))
        refine v_aload_n B dX12_lose_24 rfl rfl ?_
        refine v_get B (C := RX12) (T := TX12) (N := 123) (ci := 12) (k0 := 0) hi_y_lose_X12 rfl rfl 23 (by decide +kernel) (List.mem_of_getElem? (i := 6) rfl) rfl dX12_lose_25 ?_
        refine v_iload_n B dX12_lose_28 rfl rfl ?_
        refine v_iload_n B dX12_lose_29 rfl rfl ?_
        refine v_iastL B (k0 := 1) (t0 := 0) (k := 0) (y := n) (w' := [(h, .inr (12, fsM q 0 0 0 0 0)), ((q 23), .inl (K 0, 2, .inl (gl [n, 0])))]) rfl rfl (vpi (by decide +kernel)) (by decide +kernel) (Nat.le_of_ble_eq_true rfl) rfl rfl dX12_lose_30 ?_
        refine v_iconst B (v := 1) dX12_lose_31 (by decide +kernel) ?_
        refine v_forget (wc := []) (wr := []) (sp_pl [] [] rfl rfl rfl rfl rfl) ?_
        exact v_zret B hr hlk (by decide +kernel) () (by simp [an_lose, e_n, (rg_ngt (Int32.not_le.mp f_n) (by decide +kernel) : ¬ 100 < n), f_n]) rfl (by decide +kernel) (by decide +kernel) dX12_lose_32
  · skip
    by_cases h1 : d = 1
    · subst h1
      by_cases e_n : n < 0
      · skip
        refine v_aload_n B dX12_lose_0 rfl rfl ?_
        refine v_iconst B (v := 0) dX12_lose_1 (by decide +kernel) ?_
        refine v_put B (C := RX12) (T := TX12) (N := 123) (ci := 12) (k0 := 0) hi_y_lose_X12 rfl rfl 0 (by decide +kernel) tyX12 tyX12_ok nmX12 (List.mem_of_getElem? (i := 1) rfl) rfl (ty := .int) (tyX12_ok 0 (by decide +kernel)) rfl rfl (Nat.le_of_ble_eq_true rfl) (w' := [(h, .inr (12, fsM q 0 0 0 0 0)), ((q 23), .inl (K 0, 2, .inl (gl [0, 0])))]) rfl dX12_lose_2 ?_
        refine v_iload_n B dX12_lose_5 rfl rfl ?_
        refine v_iconst B (v := 2) dX12_lose_6 (by decide +kernel) ?_
        refine v_callSi B (n := 2) (As := [.int 1, .int 2]) (rest := []) (wc := []) (wr := [(h, .inr (12, fsM q 0 0 0 0 0)), ((q 23), .inl (K 0, 2, .inl (gl [0, 0])))]) (m_in_T l D K 1 2 (by decide +kernel) (by decide +kernel)) gd_y_lose_m_in_T_413 rfl rfl rfl (by decide +kernel) ⟨by decide +kernel, by decide +kernel⟩ (sp_pl [] [0, 1] rfl rfl rfl rfl rfl) rfl rfl (Nat.le_of_ble_eq_true rfl) dX12_lose_7 ⟨by decide +kernel, by decide +kernel⟩ (fun r_21 u_19 hp_20 => ?_)
        subst hp_20
        show V _ _ _ _ _ _ _ _ _ _ _ _ _ _ (0, 0) [(h, .inr (12, fsM q 0 0 0 0 0)), ((q 23), .inl (K 0, 2, .inl (gl [0, 0])))] _ _ [.int 1]
        show V _ _ _ _ _ _ _ _ _ _ _ _ _ _ (0, 0) [(h, .inr (12, fsM q 0 0 0 0 0)), ((q 23), .inl (K 0, 2, .inl (gl [0, 0])))] _ _ _
        refine v_if_eq B (tgt := 22) dX12_lose_10 (by decide +kernel) (fun h => absurd h (by decide +kernel)) (fun _ => ?_)
        refine v_iload_n B dX12_lose_13 rfl rfl ?_
        refine v_bipush B (v := 101) dX12_lose_14 (by decide +kernel) ?_
        refine v_callSi B (n := 2) (As := [.int n, .int 101]) (rest := []) (wc := []) (wr := [(h, .inr (12, fsM q 0 0 0 0 0)), ((q 23), .inl (K 0, 2, .inl (gl [0, 0])))]) (m_in_F1 l D K n 101 e_n) gd_y_lose_m_in_F1_413 rfl rfl rfl (by decide +kernel) ⟨by decide +kernel, by decide +kernel⟩ (sp_pl [] [0, 1] rfl rfl rfl rfl rfl) rfl rfl (Nat.le_of_ble_eq_true rfl) dX12_lose_16 ⟨by decide +kernel, by decide +kernel⟩ (fun r_24 u_22 hp_23 => ?_)
        subst hp_23
        show V _ _ _ _ _ _ _ _ _ _ _ _ _ _ (0, 0) [(h, .inr (12, fsM q 0 0 0 0 0)), ((q 23), .inl (K 0, 2, .inl (gl [0, 0])))] _ _ [.int 0]
        show V _ _ _ _ _ _ _ _ _ _ _ _ _ _ (0, 0) [(h, .inr (12, fsM q 0 0 0 0 0)), ((q 23), .inl (K 0, 2, .inl (gl [0, 0])))] _ _ _
        refine v_if_ne B (tgt := 24) dX12_lose_19 (by decide +kernel) (fun h => absurd (by decide +kernel) h) (fun _ => ?_)
        refine v_iconst B (v := 0) dX12_lose_22 (by decide +kernel) ?_
        refine v_forget (wc := []) (wr := []) (sp_pl [] [] rfl rfl rfl rfl rfl) ?_
        exact v_zret B hr hlk (by decide +kernel) () (by simp [an_lose, e_n]) rfl (by decide +kernel) (by decide +kernel) dX12_lose_23
      · skip
        by_cases f_n : 101 ≤ n
        · skip
          refine v_aload_n B dX12_lose_0 rfl rfl ?_
          refine v_iconst B (v := 0) dX12_lose_1 (by decide +kernel) ?_
          refine v_put B (C := RX12) (T := TX12) (N := 123) (ci := 12) (k0 := 0) hi_y_lose_X12 rfl rfl 0 (by decide +kernel) tyX12 tyX12_ok nmX12 (List.mem_of_getElem? (i := 1) rfl) rfl (ty := .int) (tyX12_ok 0 (by decide +kernel)) rfl rfl (Nat.le_of_ble_eq_true rfl) (w' := [(h, .inr (12, fsM q 0 0 0 0 0)), ((q 23), .inl (K 0, 2, .inl (gl [0, 0])))]) rfl dX12_lose_2 ?_
          refine v_iload_n B dX12_lose_5 rfl rfl ?_
          refine v_iconst B (v := 2) dX12_lose_6 (by decide +kernel) ?_
          refine v_callSi B (n := 2) (As := [.int 1, .int 2]) (rest := []) (wc := []) (wr := [(h, .inr (12, fsM q 0 0 0 0 0)), ((q 23), .inl (K 0, 2, .inl (gl [0, 0])))]) (m_in_T l D K 1 2 (by decide +kernel) (by decide +kernel)) gd_y_lose_m_in_T_413 rfl rfl rfl (by decide +kernel) ⟨by decide +kernel, by decide +kernel⟩ (sp_pl [] [0, 1] rfl rfl rfl rfl rfl) rfl rfl (Nat.le_of_ble_eq_true rfl) dX12_lose_7 ⟨by decide +kernel, by decide +kernel⟩ (fun r_27 u_25 hp_26 => ?_)
          subst hp_26
          show V _ _ _ _ _ _ _ _ _ _ _ _ _ _ (0, 0) [(h, .inr (12, fsM q 0 0 0 0 0)), ((q 23), .inl (K 0, 2, .inl (gl [0, 0])))] _ _ [.int 1]
          show V _ _ _ _ _ _ _ _ _ _ _ _ _ _ (0, 0) [(h, .inr (12, fsM q 0 0 0 0 0)), ((q 23), .inl (K 0, 2, .inl (gl [0, 0])))] _ _ _
          refine v_if_eq B (tgt := 22) dX12_lose_10 (by decide +kernel) (fun h => absurd h (by decide +kernel)) (fun _ => ?_)
          refine v_iload_n B dX12_lose_13 rfl rfl ?_
          refine v_bipush B (v := 101) dX12_lose_14 (by decide +kernel) ?_
          refine v_callSi B (n := 2) (As := [.int n, .int 101]) (rest := []) (wc := []) (wr := [(h, .inr (12, fsM q 0 0 0 0 0)), ((q 23), .inl (K 0, 2, .inl (gl [0, 0])))]) (m_in_F2 l D K n 101 (rg_nlt f_n (by decide +kernel)) (rg_ge f_n (by decide +kernel))) gd_y_lose_m_in_F2_413 rfl rfl rfl (by decide +kernel) ⟨by decide +kernel, by decide +kernel⟩ (sp_pl [] [0, 1] rfl rfl rfl rfl rfl) rfl rfl (Nat.le_of_ble_eq_true rfl) dX12_lose_16 ⟨by decide +kernel, by decide +kernel⟩ (fun r_30 u_28 hp_29 => ?_)
          subst hp_29
          show V _ _ _ _ _ _ _ _ _ _ _ _ _ _ (0, 0) [(h, .inr (12, fsM q 0 0 0 0 0)), ((q 23), .inl (K 0, 2, .inl (gl [0, 0])))] _ _ [.int 0]
          show V _ _ _ _ _ _ _ _ _ _ _ _ _ _ (0, 0) [(h, .inr (12, fsM q 0 0 0 0 0)), ((q 23), .inl (K 0, 2, .inl (gl [0, 0])))] _ _ _
          refine v_if_ne B (tgt := 24) dX12_lose_19 (by decide +kernel) (fun h => absurd (by decide +kernel) h) (fun _ => ?_)
          refine v_iconst B (v := 0) dX12_lose_22 (by decide +kernel) ?_
          refine v_forget (wc := []) (wr := []) (sp_pl [] [] rfl rfl rfl rfl rfl) ?_
          exact v_zret B hr hlk (by decide +kernel) () (by simp [an_lose, e_n, (rg_gt f_n (by decide +kernel) : 100 < n), f_n]) rfl (by decide +kernel) (by decide +kernel) dX12_lose_23
        · skip
          refine v_aload_n B dX12_lose_0 rfl rfl ?_
          refine v_iconst B (v := 0) dX12_lose_1 (by decide +kernel) ?_
          refine v_put B (C := RX12) (T := TX12) (N := 123) (ci := 12) (k0 := 0) hi_y_lose_X12 rfl rfl 0 (by decide +kernel) tyX12 tyX12_ok nmX12 (List.mem_of_getElem? (i := 1) rfl) rfl (ty := .int) (tyX12_ok 0 (by decide +kernel)) rfl rfl (Nat.le_of_ble_eq_true rfl) (w' := [(h, .inr (12, fsM q 0 0 0 0 0)), ((q 23), .inl (K 0, 2, .inl (gl [0, 0])))]) rfl dX12_lose_2 ?_
          refine v_iload_n B dX12_lose_5 rfl rfl ?_
          refine v_iconst B (v := 2) dX12_lose_6 (by decide +kernel) ?_
          refine v_callSi B (n := 2) (As := [.int 1, .int 2]) (rest := []) (wc := []) (wr := [(h, .inr (12, fsM q 0 0 0 0 0)), ((q 23), .inl (K 0, 2, .inl (gl [0, 0])))]) (m_in_T l D K 1 2 (by decide +kernel) (by decide +kernel)) gd_y_lose_m_in_T_413 rfl rfl rfl (by decide +kernel) ⟨by decide +kernel, by decide +kernel⟩ (sp_pl [] [0, 1] rfl rfl rfl rfl rfl) rfl rfl (Nat.le_of_ble_eq_true rfl) dX12_lose_7 ⟨by decide +kernel, by decide +kernel⟩ (fun r_33 u_31 hp_32 => ?_)
          subst hp_32
          show V _ _ _ _ _ _ _ _ _ _ _ _ _ _ (0, 0) [(h, .inr (12, fsM q 0 0 0 0 0)), ((q 23), .inl (K 0, 2, .inl (gl [0, 0])))] _ _ [.int 1]
          show V _ _ _ _ _ _ _ _ _ _ _ _ _ _ (0, 0) [(h, .inr (12, fsM q 0 0 0 0 0)), ((q 23), .inl (K 0, 2, .inl (gl [0, 0])))] _ _ _
          refine v_if_eq B (tgt := 22) dX12_lose_10 (by decide +kernel) (fun h => absurd h (by decide +kernel)) (fun _ => ?_)
          refine v_iload_n B dX12_lose_13 rfl rfl ?_
          refine v_bipush B (v := 101) dX12_lose_14 (by decide +kernel) ?_
          refine v_callSi B (n := 2) (As := [.int n, .int 101]) (rest := []) (wc := []) (wr := [(h, .inr (12, fsM q 0 0 0 0 0)), ((q 23), .inl (K 0, 2, .inl (gl [0, 0])))]) (m_in_T l D K n 101 e_n f_n) gd_y_lose_m_in_T_413 rfl rfl rfl (by decide +kernel) ⟨by decide +kernel, by decide +kernel⟩ (sp_pl [] [0, 1] rfl rfl rfl rfl rfl) rfl rfl (Nat.le_of_ble_eq_true rfl) dX12_lose_16 ⟨by decide +kernel, by decide +kernel⟩ (fun r_36 u_34 hp_35 => ?_)
          subst hp_35
          show V _ _ _ _ _ _ _ _ _ _ _ _ _ _ (0, 0) [(h, .inr (12, fsM q 0 0 0 0 0)), ((q 23), .inl (K 0, 2, .inl (gl [0, 0])))] _ _ [.int 1]
          show V _ _ _ _ _ _ _ _ _ _ _ _ _ _ (0, 0) [(h, .inr (12, fsM q 0 0 0 0 0)), ((q 23), .inl (K 0, 2, .inl (gl [0, 0])))] _ _ _
          refine v_if_ne B (tgt := 24) dX12_lose_19 (by decide +kernel) (fun _ => ?_) (fun h => absurd h (by decide +kernel))
          refine v_aload_n B dX12_lose_24 rfl rfl ?_
          refine v_get B (C := RX12) (T := TX12) (N := 123) (ci := 12) (k0 := 0) hi_y_lose_X12 rfl rfl 23 (by decide +kernel) (List.mem_of_getElem? (i := 6) rfl) rfl dX12_lose_25 ?_
          refine v_iload_n B dX12_lose_28 rfl rfl ?_
          refine v_iload_n B dX12_lose_29 rfl rfl ?_
          refine v_iastL B (k0 := 1) (t0 := 0) (k := 1) (y := n) (w' := [(h, .inr (12, fsM q 0 0 0 0 0)), ((q 23), .inl (K 0, 2, .inl (gl [0, n])))]) rfl rfl (vpi (by decide +kernel)) (by decide +kernel) (Nat.le_of_ble_eq_true rfl) rfl rfl dX12_lose_30 ?_
          refine v_iconst B (v := 1) dX12_lose_31 (by decide +kernel) ?_
          refine v_forget (wc := []) (wr := []) (sp_pl [] [] rfl rfl rfl rfl rfl) ?_
          exact v_zret B hr hlk (by decide +kernel) () (by simp [an_lose, e_n, (rg_ngt (Int32.not_le.mp f_n) (by decide +kernel) : ¬ 100 < n), f_n]) rfl (by decide +kernel) (by decide +kernel) dX12_lose_32
    · skip
      by_cases e1 : d < 0
      · skip
        refine v_aload_n B dX12_lose_0 rfl rfl ?_
        refine v_iconst B (v := 0) dX12_lose_1 (by decide +kernel) ?_
        refine v_put B (C := RX12) (T := TX12) (N := 123) (ci := 12) (k0 := 0) hi_y_lose_X12 rfl rfl 0 (by decide +kernel) tyX12 tyX12_ok nmX12 (List.mem_of_getElem? (i := 1) rfl) rfl (ty := .int) (tyX12_ok 0 (by decide +kernel)) rfl rfl (Nat.le_of_ble_eq_true rfl) (w' := [(h, .inr (12, fsM q 0 0 0 0 0)), ((q 23), .inl (K 0, 2, .inl (gl [0, 0])))]) rfl dX12_lose_2 ?_
        refine v_iload_n B dX12_lose_5 rfl rfl ?_
        refine v_iconst B (v := 2) dX12_lose_6 (by decide +kernel) ?_
        refine v_callSi B (n := 2) (As := [.int d, .int 2]) (rest := []) (wc := []) (wr := [(h, .inr (12, fsM q 0 0 0 0 0)), ((q 23), .inl (K 0, 2, .inl (gl [0, 0])))]) (m_in_F1 l D K d 2 e1) gd_y_lose_m_in_F1_413 rfl rfl rfl (by decide +kernel) ⟨by decide +kernel, by decide +kernel⟩ (sp_pl [] [0, 1] rfl rfl rfl rfl rfl) rfl rfl (Nat.le_of_ble_eq_true rfl) dX12_lose_7 ⟨by decide +kernel, by decide +kernel⟩ (fun r_39 u_37 hp_38 => ?_)
        subst hp_38
        show V _ _ _ _ _ _ _ _ _ _ _ _ _ _ (0, 0) [(h, .inr (12, fsM q 0 0 0 0 0)), ((q 23), .inl (K 0, 2, .inl (gl [0, 0])))] _ _ [.int 0]
        show V _ _ _ _ _ _ _ _ _ _ _ _ _ _ (0, 0) [(h, .inr (12, fsM q 0 0 0 0 0)), ((q 23), .inl (K 0, 2, .inl (gl [0, 0])))] _ _ _
        refine v_if_eq B (tgt := 22) dX12_lose_10 (by decide +kernel) (fun _ => ?_) (fun h => absurd (by decide +kernel) h)
        refine v_iconst B (v := 0) dX12_lose_22 (by decide +kernel) ?_
        refine v_forget (wc := []) (wr := []) (sp_pl [] [] rfl rfl rfl rfl rfl) ?_
        exact v_zret B hr hlk (by decide +kernel) () (by simp [an_lose, h0, h1]) rfl (by decide +kernel) (by decide +kernel) dX12_lose_23
      · skip
        refine v_aload_n B dX12_lose_0 rfl rfl ?_
        refine v_iconst B (v := 0) dX12_lose_1 (by decide +kernel) ?_
        refine v_put B (C := RX12) (T := TX12) (N := 123) (ci := 12) (k0 := 0) hi_y_lose_X12 rfl rfl 0 (by decide +kernel) tyX12 tyX12_ok nmX12 (List.mem_of_getElem? (i := 1) rfl) rfl (ty := .int) (tyX12_ok 0 (by decide +kernel)) rfl rfl (Nat.le_of_ble_eq_true rfl) (w' := [(h, .inr (12, fsM q 0 0 0 0 0)), ((q 23), .inl (K 0, 2, .inl (gl [0, 0])))]) rfl dX12_lose_2 ?_
        refine v_iload_n B dX12_lose_5 rfl rfl ?_
        refine v_iconst B (v := 2) dX12_lose_6 (by decide +kernel) ?_
        refine v_callSi B (n := 2) (As := [.int d, .int 2]) (rest := []) (wc := []) (wr := [(h, .inr (12, fsM q 0 0 0 0 0)), ((q 23), .inl (K 0, 2, .inl (gl [0, 0])))]) (m_in_F2 l D K d 2 (rg_nlt (i_ge2 h0 h1 e1) (by decide +kernel)) (rg_ge (i_ge2 h0 h1 e1) (by decide +kernel))) gd_y_lose_m_in_F2_413 rfl rfl rfl (by decide +kernel) ⟨by decide +kernel, by decide +kernel⟩ (sp_pl [] [0, 1] rfl rfl rfl rfl rfl) rfl rfl (Nat.le_of_ble_eq_true rfl) dX12_lose_7 ⟨by decide +kernel, by decide +kernel⟩ (fun r_42 u_40 hp_41 => ?_)
        subst hp_41
        show V _ _ _ _ _ _ _ _ _ _ _ _ _ _ (0, 0) [(h, .inr (12, fsM q 0 0 0 0 0)), ((q 23), .inl (K 0, 2, .inl (gl [0, 0])))] _ _ [.int 0]
        show V _ _ _ _ _ _ _ _ _ _ _ _ _ _ (0, 0) [(h, .inr (12, fsM q 0 0 0 0 0)), ((q 23), .inl (K 0, 2, .inl (gl [0, 0])))] _ _ _
        refine v_if_eq B (tgt := 22) dX12_lose_10 (by decide +kernel) (fun _ => ?_) (fun h => absurd (by decide +kernel) h)
        refine v_iconst B (v := 0) dX12_lose_22 (by decide +kernel) ?_
        refine v_forget (wc := []) (wr := []) (sp_pl [] [] rfl rfl rfl rfl rfl) ?_
        exact v_zret B hr hlk (by decide +kernel) () (by simp [an_lose, h0, h1]) rfl (by decide +kernel) (by decide +kernel) dX12_lose_23
