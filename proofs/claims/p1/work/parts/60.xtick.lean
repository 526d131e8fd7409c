def wp_x_airclear : List Cond := .code yX0_clear cX0_clear 1 none :: ([.fieldLink RX0 42 "LowEnergy$Air" "count" "I"] ++ (wsX00 ++ ([])))
theorem hi_x_airclear_X0 : ∀ x ∈ u_ws RX0 TX0 10, x ∈ wp_x_airclear := fun _ h => List.mem_cons_of_mem _ (List.mem_append_right _ (List.mem_append_left _ h))
set_option maxHeartbeats 4000000 in
set_option maxRecDepth 100000 in
theorem x_airclear (l : Launch) (D : va_G) (K : Nat → ClassId) (h : Nat) (xa : Nat → Nat) (xf : Nat → Option Nat) (xg : Nat → Option Nat) (fa : Int64) (sa : Int64) : MG l yX0_clear wp_x_airclear ({ frames := 0, cells := 0, slots := 0, locals := 0 }) D (tysA K) [.ref (xa 1)] [((xa 1), .inr (0, [.ref (xa 6), .ref (xa 7), .ref (xa 8), .ref (xa 9), .ref (xa 10), .ref (xa 11), .ref (xa 12), .int 0, .int 0, .int 0]))] (Qv D (fun _ : Unit => True) (fun _ => [((xa 1), .inr (0, [.ref (xa 6), .ref (xa 7), .ref (xa 8), .ref (xa 9), .ref (xa 10), .ref (xa 11), .ref (xa 12), .int 0, .int 0, .int 0]))])) 0 0 := by
  refine mg_of (cc := cX0_clear) (maxL := 1) (ret := none) (by decide +kernel) rfl (Nat.le_of_ble_eq_true rfl) ?_
  intro p e s m below meth c A B hr hlk hnam
  show V _ _ _ _ _ _ _ _ _ _ _ _ _ _ _ _ [(0, .ref (xa 1))] _ _
  refine v_aload_n B dX0_clear_0 rfl rfl ?_
  refine v_iconst B (v := 0) dX0_clear_1 (by decide +kernel) ?_
  refine v_put B (C := RX0) (T := TX0) (N := 10) (ci := 0) (k0 := 0) hi_x_airclear_X0 rfl rfl 8 (by decide +kernel) tyX0 tyX0_ok nmX0 (List.mem_of_getElem? (i := 1) rfl) rfl (ty := .int) (tyX0_ok 8 (by decide +kernel)) rfl rfl (Nat.le_of_ble_eq_true rfl) (w' := [((xa 1), .inr (0, [.ref (xa 6), .ref (xa 7), .ref (xa 8), .ref (xa 9), .ref (xa 10), .ref (xa 11), .ref (xa 12), .int 0, .int 0, .int 0]))]) rfl dX0_clear_2 ?_
  exact v_vret B hr hlk () trivial rfl (by decide +kernel) (by decide +kernel) dX0_clear_5

def wp_x_spread_0 : List Cond := .code yX11_spread cX11_spread 4 none :: ([] ++ (wsX30 ++ ([])))
theorem hi_x_spread_0_X3 : ∀ x ∈ u_ws RX3 TX3 19, x ∈ wp_x_spread_0 := fun _ h => List.mem_cons_of_mem _ (List.mem_append_right _ (List.mem_append_left _ h))
set_option maxHeartbeats 4000000 in
set_option maxRecDepth 100000 in
theorem x_spread_0 (l : Launch) (D : va_G) (K : Nat → ClassId) (h : Nat) (xa : Nat → Nat) (xf : Nat → Option Nat) (xg : Nat → Option Nat) (fa : Int64) (sa : Int64) (t : Int32) : MG l yX11_spread wp_x_spread_0 ({ frames := 0, cells := 0, slots := 0, locals := 0 }) D (tysA K) [.ref h, .ref (xa 4), .ref (xa 5)] [(h, .inr (11, [.ref (xa 0), .ref (xa 1), .ref (xa 2), .ref (xa 3), .int t])), ((xa 4), .inr (3, [.int 0, .long (fa &&& 281474976710655), .int 0, .int 0, .int 0, .int 0, .ref (xa 16), .int 0, .long 0, .ref (xa 17), .long 0, .ref (xa 18), .ref (xa 19), .ref (xa 20), .ref (xa 21), .ref (xa 22), .ref (xa 23), .ref (xa 24), .ref (xa 25)]))] (Qv D (fun _ : Unit => True) (fun _ => [(h, .inr (11, [.ref (xa 0), .ref (xa 1), .ref (xa 2), .ref (xa 3), .int t])), ((xa 4), .inr (3, [.int 0, .long (fa &&& 281474976710655), .int 0, .int 0, .int 0, .int 0, .ref (xa 16), .int 0, .long 0, .ref (xa 17), .long 0, .ref (xa 18), .ref (xa 19), .ref (xa 20), .ref (xa 21), .ref (xa 22), .ref (xa 23), .ref (xa 24), .ref (xa 25)]))])) 0 0 := by
  refine mg_of (cc := cX11_spread) (maxL := 4) (ret := none) (by decide +kernel) rfl (Nat.le_of_ble_eq_true rfl) ?_
  intro p e s m below meth c A B hr hlk hnam
  show V _ _ _ _ _ _ _ _ _ _ _ _ _ _ _ _ [(0, .ref h), (1, .ref (xa 4)), (2, .ref (xa 5))] _ _
  refine v_aload_n B dX11_spread_0 rfl rfl ?_
  refine v_getN B (C := RX3) (T := TX3) (N := 19) (ci := 3) (k0 := 1) hi_x_spread_0_X3 rfl rfl 2 (by decide +kernel) (List.mem_of_getElem? (i := 65) rfl) rfl dX11_spread_1 ?_
  refine v_iconst B (v := 1) dX11_spread_4 (by decide +kernel) ?_
  refine v_icmp_ne B (tgt := 19) dX11_spread_5 (by decide +kernel) (fun _ => ?_) (fun h => absurd h (by decide +kernel))
  exact v_vret B hr hlk () trivial rfl (by decide +kernel) (by decide +kernel) dX11_spread_19

def wp_x_reaches_0 : List Cond := .code yX11_reaches cX11_reaches 3 (some .boolean) :: ([] ++ (wsX30 ++ ([])))
theorem hi_x_reaches_0_X3 : ∀ x ∈ u_ws RX3 TX3 19, x ∈ wp_x_reaches_0 := fun _ h => List.mem_cons_of_mem _ (List.mem_append_right _ (List.mem_append_left _ h))
set_option maxHeartbeats 4000000 in
set_option maxRecDepth 100000 in
theorem x_reaches_0 (l : Launch) (D : va_G) (K : Nat → ClassId) (h : Nat) (xa : Nat → Nat) (xf : Nat → Option Nat) (xg : Nat → Option Nat) (fa : Int64) (sa : Int64) (t : Int32) : MG l yX11_reaches wp_x_reaches_0 ({ frames := 0, cells := 0, slots := 0, locals := 0 }) D (tysA K) [.ref h, .ref (xa 4), .ref (xa 5)] [(h, .inr (11, [.ref (xa 0), .ref (xa 1), .ref (xa 2), .ref (xa 3), .int t])), ((xa 4), .inr (3, [.int 0, .long (fa &&& 281474976710655), .int 0, .int 0, .int 0, .int 0, .ref (xa 16), .int 0, .long 0, .ref (xa 17), .long 0, .ref (xa 18), .ref (xa 19), .ref (xa 20), .ref (xa 21), .ref (xa 22), .ref (xa 23), .ref (xa 24), .ref (xa 25)]))] (Qi D (fun (r : Int32) (_ : Unit) => r = 0) (fun _ => [(h, .inr (11, [.ref (xa 0), .ref (xa 1), .ref (xa 2), .ref (xa 3), .int t])), ((xa 4), .inr (3, [.int 0, .long (fa &&& 281474976710655), .int 0, .int 0, .int 0, .int 0, .ref (xa 16), .int 0, .long 0, .ref (xa 17), .long 0, .ref (xa 18), .ref (xa 19), .ref (xa 20), .ref (xa 21), .ref (xa 22), .ref (xa 23), .ref (xa 24), .ref (xa 25)]))])) 0 0 := by
  refine mg_of (cc := cX11_reaches) (maxL := 3) (ret := (some .boolean)) (by decide +kernel) rfl (Nat.le_of_ble_eq_true rfl) ?_
  intro p e s m below meth c A B hr hlk hnam
  show V _ _ _ _ _ _ _ _ _ _ _ _ _ _ _ _ [(0, .ref h), (1, .ref (xa 4)), (2, .ref (xa 5))] _ _
  refine v_aload_n B dX11_reaches_0 rfl rfl ?_
  refine v_getN B (C := RX3) (T := TX3) (N := 19) (ci := 3) (k0 := 1) hi_x_reaches_0_X3 rfl rfl 2 (by decide +kernel) (List.mem_of_getElem? (i := 65) rfl) rfl dX11_reaches_1 ?_
  refine v_iconst B (v := 4) dX11_reaches_4 (by decide +kernel) ?_
  refine v_icmp_ne B (tgt := 19) dX11_reaches_5 (by decide +kernel) (fun _ => ?_) (fun h => absurd h (by decide +kernel))
  refine v_iconst B (v := 0) dX11_reaches_19 (by decide +kernel) ?_
  exact v_zret B hr hlk (by decide +kernel) () rfl rfl (by decide +kernel) (by decide +kernel) dX11_reaches_20

def wp_x_hasEv_0 : List Cond := .code yX3_hasEventAt cX3_hasEventAt 2 (some .boolean) :: ([.methodLink RX3 96 yX3_inLink, .instanceMethod yX3_inLink, .selects RX3 yX3_inLink yX3_inLink, .initialized RX3, .code yX3_inLink cX3_inLink 1 (some .boolean), .fieldLink RX3 93 "LowEnergy$Device" "state" "I"] ++ (wsX30 ++ ([])))
theorem hi_x_hasEv_0_X3 : ∀ x ∈ u_ws RX3 TX3 19, x ∈ wp_x_hasEv_0 := fun _ h => List.mem_cons_of_mem _ (List.mem_append_right _ (List.mem_append_left _ h))
set_option maxRecDepth 100000 in
theorem gd_x_hasEv_0_x_inLink_0_96 : GoodIn wp_x_hasEv_0 (wsV RX3 96 RX3 yX3_inLink wp_x_inLink_0) := goodIn_app (goodIn_r _ [1, 2, 3, 4] rfl rfl) (goodIn_ca (goodIn_r _ [5, 6] rfl rfl) (goodIn_app (goodIn_cls hi_x_hasEv_0_X3 gw_X3) (goodIn_nil)))
set_option maxHeartbeats 4000000 in
set_option maxRecDepth 100000 in
theorem x_hasEv_0 (l : Launch) (D : va_G) (K : Nat → ClassId) (h : Nat) (xa : Nat → Nat) (xf : Nat → Option Nat) (xg : Nat → Option Nat) (fa : Int64) (sa : Int64) (t : Int32) : MG l yX3_hasEventAt wp_x_hasEv_0 ({ frames := 1, cells := 0, slots := 0, locals := 20 }) D (tysA K) [.ref (xa 4), .int t] [((xa 4), .inr (3, [.int 0, .long (fa &&& 281474976710655), .int 0, .int 0, .int 0, .int 0, .ref (xa 16), .int 0, .long 0, .ref (xa 17), .long 0, .ref (xa 18), .ref (xa 19), .ref (xa 20), .ref (xa 21), .ref (xa 22), .ref (xa 23), .ref (xa 24), .ref (xa 25)]))] (Qi D (fun (r : Int32) (_ : Unit) => r = 0) (fun _ => [((xa 4), .inr (3, [.int 0, .long (fa &&& 281474976710655), .int 0, .int 0, .int 0, .int 0, .ref (xa 16), .int 0, .long 0, .ref (xa 17), .long 0, .ref (xa 18), .ref (xa 19), .ref (xa 20), .ref (xa 21), .ref (xa 22), .ref (xa 23), .ref (xa 24), .ref (xa 25)]))])) 0 0 := by
  refine mg_of (cc := cX3_hasEventAt) (maxL := 2) (ret := (some .boolean)) (by decide +kernel) rfl (Nat.le_of_ble_eq_true rfl) ?_
  intro p e s m below meth c A B hr hlk hnam
  show V _ _ _ _ _ _ _ _ _ _ _ _ _ _ _ _ [(0, .ref (xa 4)), (1, .int t)] _ _
  refine v_aload_n B dX3_hasEventAt_0 rfl rfl ?_
  refine v_callVi B (b := (xa 4)) (n := 0) (As := []) (rest := []) (wc := [((xa 4), .inr (3, [.int 0, .long (fa &&& 281474976710655), .int 0, .int 0, .int 0, .int 0, .ref (xa 16), .int 0, .long 0, .ref (xa 17), .long 0, .ref (xa 18), .ref (xa 19), .ref (xa 20), .ref (xa 21), .ref (xa 22), .ref (xa 23), .ref (xa 24), .ref (xa 25)]))]) (wr := []) (x_inLink_0 l D K h xa xf xg fa sa) gd_x_hasEv_0_x_inLink_0_96 rfl rfl rfl (by decide +kernel) ⟨by decide +kernel, by decide +kernel⟩ 0 rfl rfl rfl (sp_pl [0] [] rfl rfl rfl rfl rfl) rfl rfl (Nat.le_of_ble_eq_true rfl) dX3_hasEventAt_1 ⟨by decide +kernel, by decide +kernel⟩ (fun r_3 u_1 hp_2 => ?_)
  subst hp_2
  show V _ _ _ _ _ _ _ _ _ _ _ _ _ _ (0, 0) [((xa 4), .inr (3, [.int 0, .long (fa &&& 281474976710655), .int 0, .int 0, .int 0, .int 0, .ref (xa 16), .int 0, .long 0, .ref (xa 17), .long 0, .ref (xa 18), .ref (xa 19), .ref (xa 20), .ref (xa 21), .ref (xa 22), .ref (xa 23), .ref (xa 24), .ref (xa 25)]))] _ _ [.int 0]
  show V _ _ _ _ _ _ _ _ _ _ _ _ _ _ (0, 0) [((xa 4), .inr (3, [.int 0, .long (fa &&& 281474976710655), .int 0, .int 0, .int 0, .int 0, .ref (xa 16), .int 0, .long 0, .ref (xa 17), .long 0, .ref (xa 18), .ref (xa 19), .ref (xa 20), .ref (xa 21), .ref (xa 22), .ref (xa 23), .ref (xa 24), .ref (xa 25)]))] _ _ _
  refine v_if_eq B (tgt := 22) dX3_hasEventAt_4 (by decide +kernel) (fun _ => ?_) (fun h => absurd (by decide +kernel) h)
  refine v_iconst B (v := 0) dX3_hasEventAt_22 (by decide +kernel) ?_
  exact v_zret B hr hlk (by decide +kernel) () rfl rfl (by decide +kernel) (by decide +kernel) dX3_hasEventAt_23

def wp_x_spread_1 : List Cond := .code yX11_spread cX11_spread 4 none :: ([] ++ (wsX30 ++ ([])))
theorem hi_x_spread_1_X3 : ∀ x ∈ u_ws RX3 TX3 19, x ∈ wp_x_spread_1 := fun _ h => List.mem_cons_of_mem _ (List.mem_append_right _ (List.mem_append_left _ h))
set_option maxHeartbeats 4000000 in
set_option maxRecDepth 100000 in
theorem x_spread_1 (l : Launch) (D : va_G) (K : Nat → ClassId) (h : Nat) (xa : Nat → Nat) (xf : Nat → Option Nat) (xg : Nat → Option Nat) (fa : Int64) (sa : Int64) (t : Int32) : MG l yX11_spread wp_x_spread_1 ({ frames := 0, cells := 0, slots := 0, locals := 0 }) D (tysA K) [.ref h, .ref (xa 5), .ref (xa 4)] [(h, .inr (11, [.ref (xa 0), .ref (xa 1), .ref (xa 2), .ref (xa 3), .int t])), ((xa 5), .inr (3, [.int 1, .long (sa &&& 281474976710655), .int 0, .int 1, .int 0, .int 0, .ref (xa 58), .int 0, .long 0, .ref (xa 59), .long 0, .ref (xa 60), .ref (xa 61), .ref (xa 62), .ref (xa 63), .ref (xa 64), .ref (xa 65), .ref (xa 66), .ref (xa 67)]))] (Qv D (fun _ : Unit => True) (fun _ => [(h, .inr (11, [.ref (xa 0), .ref (xa 1), .ref (xa 2), .ref (xa 3), .int t])), ((xa 5), .inr (3, [.int 1, .long (sa &&& 281474976710655), .int 0, .int 1, .int 0, .int 0, .ref (xa 58), .int 0, .long 0, .ref (xa 59), .long 0, .ref (xa 60), .ref (xa 61), .ref (xa 62), .ref (xa 63), .ref (xa 64), .ref (xa 65), .ref (xa 66), .ref (xa 67)]))])) 0 0 := by
  refine mg_of (cc := cX11_spread) (maxL := 4) (ret := none) (by decide +kernel) rfl (Nat.le_of_ble_eq_true rfl) ?_
  intro p e s m below meth c A B hr hlk hnam
  show V _ _ _ _ _ _ _ _ _ _ _ _ _ _ _ _ [(0, .ref h), (1, .ref (xa 5)), (2, .ref (xa 4))] _ _
  refine v_aload_n B dX11_spread_0 rfl rfl ?_
  refine v_getN B (C := RX3) (T := TX3) (N := 19) (ci := 3) (k0 := 1) hi_x_spread_1_X3 rfl rfl 2 (by decide +kernel) (List.mem_of_getElem? (i := 65) rfl) rfl dX11_spread_1 ?_
  refine v_iconst B (v := 1) dX11_spread_4 (by decide +kernel) ?_
  refine v_icmp_ne B (tgt := 19) dX11_spread_5 (by decide +kernel) (fun _ => ?_) (fun h => absurd h (by decide +kernel))
  exact v_vret B hr hlk () trivial rfl (by decide +kernel) (by decide +kernel) dX11_spread_19

def wp_x_reaches_1 : List Cond := .code yX11_reaches cX11_reaches 3 (some .boolean) :: ([] ++ (wsX30 ++ ([])))
theorem hi_x_reaches_1_X3 : ∀ x ∈ u_ws RX3 TX3 19, x ∈ wp_x_reaches_1 := fun _ h => List.mem_cons_of_mem _ (List.mem_append_right _ (List.mem_append_left _ h))
set_option maxHeartbeats 4000000 in
set_option maxRecDepth 100000 in
theorem x_reaches_1 (l : Launch) (D : va_G) (K : Nat → ClassId) (h : Nat) (xa : Nat → Nat) (xf : Nat → Option Nat) (xg : Nat → Option Nat) (fa : Int64) (sa : Int64) (t : Int32) : MG l yX11_reaches wp_x_reaches_1 ({ frames := 0, cells := 0, slots := 0, locals := 0 }) D (tysA K) [.ref h, .ref (xa 5), .ref (xa 4)] [(h, .inr (11, [.ref (xa 0), .ref (xa 1), .ref (xa 2), .ref (xa 3), .int t])), ((xa 5), .inr (3, [.int 1, .long (sa &&& 281474976710655), .int 0, .int 1, .int 0, .int 0, .ref (xa 58), .int 0, .long 0, .ref (xa 59), .long 0, .ref (xa 60), .ref (xa 61), .ref (xa 62), .ref (xa 63), .ref (xa 64), .ref (xa 65), .ref (xa 66), .ref (xa 67)]))] (Qi D (fun (r : Int32) (_ : Unit) => r = 0) (fun _ => [(h, .inr (11, [.ref (xa 0), .ref (xa 1), .ref (xa 2), .ref (xa 3), .int t])), ((xa 5), .inr (3, [.int 1, .long (sa &&& 281474976710655), .int 0, .int 1, .int 0, .int 0, .ref (xa 58), .int 0, .long 0, .ref (xa 59), .long 0, .ref (xa 60), .ref (xa 61), .ref (xa 62), .ref (xa 63), .ref (xa 64), .ref (xa 65), .ref (xa 66), .ref (xa 67)]))])) 0 0 := by
  refine mg_of (cc := cX11_reaches) (maxL := 3) (ret := (some .boolean)) (by decide +kernel) rfl (Nat.le_of_ble_eq_true rfl) ?_
  intro p e s m below meth c A B hr hlk hnam
  show V _ _ _ _ _ _ _ _ _ _ _ _ _ _ _ _ [(0, .ref h), (1, .ref (xa 5)), (2, .ref (xa 4))] _ _
  refine v_aload_n B dX11_reaches_0 rfl rfl ?_
  refine v_getN B (C := RX3) (T := TX3) (N := 19) (ci := 3) (k0 := 1) hi_x_reaches_1_X3 rfl rfl 2 (by decide +kernel) (List.mem_of_getElem? (i := 65) rfl) rfl dX11_reaches_1 ?_
  refine v_iconst B (v := 4) dX11_reaches_4 (by decide +kernel) ?_
  refine v_icmp_ne B (tgt := 19) dX11_reaches_5 (by decide +kernel) (fun _ => ?_) (fun h => absurd h (by decide +kernel))
  refine v_iconst B (v := 0) dX11_reaches_19 (by decide +kernel) ?_
  exact v_zret B hr hlk (by decide +kernel) () rfl rfl (by decide +kernel) (by decide +kernel) dX11_reaches_20

def wp_x_hasEv_1 : List Cond := .code yX3_hasEventAt cX3_hasEventAt 2 (some .boolean) :: ([.methodLink RX3 96 yX3_inLink, .instanceMethod yX3_inLink, .selects RX3 yX3_inLink yX3_inLink, .initialized RX3, .code yX3_inLink cX3_inLink 1 (some .boolean), .fieldLink RX3 93 "LowEnergy$Device" "state" "I"] ++ (wsX30 ++ ([])))
theorem hi_x_hasEv_1_X3 : ∀ x ∈ u_ws RX3 TX3 19, x ∈ wp_x_hasEv_1 := fun _ h => List.mem_cons_of_mem _ (List.mem_append_right _ (List.mem_append_left _ h))
set_option maxRecDepth 100000 in
theorem gd_x_hasEv_1_x_inLink_1_96 : GoodIn wp_x_hasEv_1 (wsV RX3 96 RX3 yX3_inLink wp_x_inLink_1) := goodIn_app (goodIn_r _ [1, 2, 3, 4] rfl rfl) (goodIn_ca (goodIn_r _ [5, 6] rfl rfl) (goodIn_app (goodIn_cls hi_x_hasEv_1_X3 gw_X3) (goodIn_nil)))
set_option maxHeartbeats 4000000 in
set_option maxRecDepth 100000 in
theorem x_hasEv_1 (l : Launch) (D : va_G) (K : Nat → ClassId) (h : Nat) (xa : Nat → Nat) (xf : Nat → Option Nat) (xg : Nat → Option Nat) (fa : Int64) (sa : Int64) (t : Int32) : MG l yX3_hasEventAt wp_x_hasEv_1 ({ frames := 1, cells := 0, slots := 0, locals := 20 }) D (tysA K) [.ref (xa 5), .int t] [((xa 5), .inr (3, [.int 1, .long (sa &&& 281474976710655), .int 0, .int 1, .int 0, .int 0, .ref (xa 58), .int 0, .long 0, .ref (xa 59), .long 0, .ref (xa 60), .ref (xa 61), .ref (xa 62), .ref (xa 63), .ref (xa 64), .ref (xa 65), .ref (xa 66), .ref (xa 67)]))] (Qi D (fun (r : Int32) (_ : Unit) => r = 0) (fun _ => [((xa 5), .inr (3, [.int 1, .long (sa &&& 281474976710655), .int 0, .int 1, .int 0, .int 0, .ref (xa 58), .int 0, .long 0, .ref (xa 59), .long 0, .ref (xa 60), .ref (xa 61), .ref (xa 62), .ref (xa 63), .ref (xa 64), .ref (xa 65), .ref (xa 66), .ref (xa 67)]))])) 0 0 := by
  refine mg_of (cc := cX3_hasEventAt) (maxL := 2) (ret := (some .boolean)) (by decide +kernel) rfl (Nat.le_of_ble_eq_true rfl) ?_
  intro p e s m below meth c A B hr hlk hnam
  show V _ _ _ _ _ _ _ _ _ _ _ _ _ _ _ _ [(0, .ref (xa 5)), (1, .int t)] _ _
  refine v_aload_n B dX3_hasEventAt_0 rfl rfl ?_
  refine v_callVi B (b := (xa 5)) (n := 0) (As := []) (rest := []) (wc := [((xa 5), .inr (3, [.int 1, .long (sa &&& 281474976710655), .int 0, .int 1, .int 0, .int 0, .ref (xa 58), .int 0, .long 0, .ref (xa 59), .long 0, .ref (xa 60), .ref (xa 61), .ref (xa 62), .ref (xa 63), .ref (xa 64), .ref (xa 65), .ref (xa 66), .ref (xa 67)]))]) (wr := []) (x_inLink_1 l D K h xa xf xg fa sa) gd_x_hasEv_1_x_inLink_1_96 rfl rfl rfl (by decide +kernel) ⟨by decide +kernel, by decide +kernel⟩ 0 rfl rfl rfl (sp_pl [0] [] rfl rfl rfl rfl rfl) rfl rfl (Nat.le_of_ble_eq_true rfl) dX3_hasEventAt_1 ⟨by decide +kernel, by decide +kernel⟩ (fun r_3 u_1 hp_2 => ?_)
  subst hp_2
  show V _ _ _ _ _ _ _ _ _ _ _ _ _ _ (0, 0) [((xa 5), .inr (3, [.int 1, .long (sa &&& 281474976710655), .int 0, .int 1, .int 0, .int 0, .ref (xa 58), .int 0, .long 0, .ref (xa 59), .long 0, .ref (xa 60), .ref (xa 61), .ref (xa 62), .ref (xa 63), .ref (xa 64), .ref (xa 65), .ref (xa 66), .ref (xa 67)]))] _ _ [.int 0]
  show V _ _ _ _ _ _ _ _ _ _ _ _ _ _ (0, 0) [((xa 5), .inr (3, [.int 1, .long (sa &&& 281474976710655), .int 0, .int 1, .int 0, .int 0, .ref (xa 58), .int 0, .long 0, .ref (xa 59), .long 0, .ref (xa 60), .ref (xa 61), .ref (xa 62), .ref (xa 63), .ref (xa 64), .ref (xa 65), .ref (xa 66), .ref (xa 67)]))] _ _ _
  refine v_if_eq B (tgt := 22) dX3_hasEventAt_4 (by decide +kernel) (fun _ => ?_) (fun h => absurd (by decide +kernel) h)
  refine v_iconst B (v := 0) dX3_hasEventAt_22 (by decide +kernel) ?_
  exact v_zret B hr hlk (by decide +kernel) () rfl rfl (by decide +kernel) (by decide +kernel) dX3_hasEventAt_23

def wp_x_beginEvents : List Cond := .code yX11_beginEvents cX11_beginEvents 2 none :: ([.fieldLink RX11 9 "LowEnergy" "devices" "[LLowEnergy$Device;", .fieldLink RX11 65 "LowEnergy" "now" "I", .methodLink RX11 483 yX3_hasEventAt, .instanceMethod yX3_hasEventAt, .selects RX3 yX3_hasEventAt yX3_hasEventAt, .initialized RX3, .code yX3_hasEventAt cX3_hasEventAt 2 (some .boolean), .methodLink RX3 96 yX3_inLink, .instanceMethod yX3_inLink, .selects RX3 yX3_inLink yX3_inLink, .code yX3_inLink cX3_inLink 1 (some .boolean), .fieldLink RX3 93 "LowEnergy$Device" "state" "I"] ++ (wsX110 ++ (wsX30 ++ ([]))))
theorem hi_x_beginEvents_X11 : ∀ x ∈ u_ws RX11 TX11 5, x ∈ wp_x_beginEvents := fun _ h => List.mem_cons_of_mem _ (List.mem_append_right _ (List.mem_append_left _ h))
theorem hi_x_beginEvents_X3 : ∀ x ∈ u_ws RX3 TX3 19, x ∈ wp_x_beginEvents := fun _ h => List.mem_cons_of_mem _ (List.mem_append_right _ (List.mem_append_right _ (List.mem_append_left _ h)))
set_option maxRecDepth 100000 in
theorem gd_x_beginEvents_x_hasEv_0_483 : GoodIn wp_x_beginEvents (wsV RX11 483 RX3 yX3_hasEventAt wp_x_hasEv_0) := goodIn_app (goodIn_r _ [3, 4, 5, 6] rfl rfl) (goodIn_ca (goodIn_r _ [7, 8, 9, 10, 6, 11, 12] rfl rfl) (goodIn_app (goodIn_cls hi_x_beginEvents_X3 gw_X3) (goodIn_nil)))
set_option maxRecDepth 100000 in
theorem gd_x_beginEvents_x_hasEv_1_483 : GoodIn wp_x_beginEvents (wsV RX11 483 RX3 yX3_hasEventAt wp_x_hasEv_1) := goodIn_app (goodIn_r _ [3, 4, 5, 6] rfl rfl) (goodIn_ca (goodIn_r _ [7, 8, 9, 10, 6, 11, 12] rfl rfl) (goodIn_app (goodIn_cls hi_x_beginEvents_X3 gw_X3) (goodIn_nil)))
set_option maxHeartbeats 4000000 in
set_option maxRecDepth 100000 in
theorem x_beginEvents (l : Launch) (D : va_G) (K : Nat → ClassId) (h : Nat) (xa : Nat → Nat) (xf : Nat → Option Nat) (xg : Nat → Option Nat) (fa : Int64) (sa : Int64) (t : Int32) : MG l yX11_beginEvents wp_x_beginEvents ({ frames := 2, cells := 0, slots := 0, locals := 41 }) D (tysA K) [.ref h] [(h, .inr (11, [.ref (xa 0), .ref (xa 1), .ref (xa 2), .ref (xa 3), .int t])), ((xa 0), .inl (K 5, 2, .inr (.inr (.inr (.inr (va_up (va_up (fun _ => none) (0 : Int32).toNatClampNeg (some (xa 4))) (1 : Int32).toNatClampNeg (some (xa 5)))))))), ((xa 4), .inr (3, [.int 0, .long (fa &&& 281474976710655), .int 0, .int 0, .int 0, .int 0, .ref (xa 16), .int 0, .long 0, .ref (xa 17), .long 0, .ref (xa 18), .ref (xa 19), .ref (xa 20), .ref (xa 21), .ref (xa 22), .ref (xa 23), .ref (xa 24), .ref (xa 25)])), ((xa 5), .inr (3, [.int 1, .long (sa &&& 281474976710655), .int 0, .int 1, .int 0, .int 0, .ref (xa 58), .int 0, .long 0, .ref (xa 59), .long 0, .ref (xa 60), .ref (xa 61), .ref (xa 62), .ref (xa 63), .ref (xa 64), .ref (xa 65), .ref (xa 66), .ref (xa 67)]))] (Qv D (fun _ : Unit => True) (fun _ => [(h, .inr (11, [.ref (xa 0), .ref (xa 1), .ref (xa 2), .ref (xa 3), .int t])), ((xa 0), .inl (K 5, 2, .inr (.inr (.inr (.inr (va_up (va_up (fun _ => none) (0 : Int32).toNatClampNeg (some (xa 4))) (1 : Int32).toNatClampNeg (some (xa 5)))))))), ((xa 4), .inr (3, [.int 0, .long (fa &&& 281474976710655), .int 0, .int 0, .int 0, .int 0, .ref (xa 16), .int 0, .long 0, .ref (xa 17), .long 0, .ref (xa 18), .ref (xa 19), .ref (xa 20), .ref (xa 21), .ref (xa 22), .ref (xa 23), .ref (xa 24), .ref (xa 25)])), ((xa 5), .inr (3, [.int 1, .long (sa &&& 281474976710655), .int 0, .int 1, .int 0, .int 0, .ref (xa 58), .int 0, .long 0, .ref (xa 59), .long 0, .ref (xa 60), .ref (xa 61), .ref (xa 62), .ref (xa 63), .ref (xa 64), .ref (xa 65), .ref (xa 66), .ref (xa 67)]))])) 0 0 := by
  refine mg_of (cc := cX11_beginEvents) (maxL := 2) (ret := none) (by decide +kernel) rfl (Nat.le_of_ble_eq_true rfl) ?_
  intro p e s m below meth c A B hr hlk hnam
  show V _ _ _ _ _ _ _ _ _ _ _ _ _ _ _ _ [(0, .ref h)] _ _
  refine v_iconst B (v := 0) dX11_beginEvents_0 (by decide +kernel) ?_
  refine v_istore_n B (lv' := [(1, .int 0), (0, .ref h)]) dX11_beginEvents_1 rfl (by decide +kernel) rfl ?_
  refine v_iload_n B dX11_beginEvents_2 rfl rfl ?_
  refine v_aload_n B dX11_beginEvents_3 rfl rfl ?_
  refine v_get B (C := RX11) (T := TX11) (N := 5) (ci := 11) (k0 := 0) hi_x_beginEvents_X11 rfl rfl 0 (by decide +kernel) (List.mem_of_getElem? (i := 1) rfl) rfl dX11_beginEvents_4 ?_
  refine v_alen B (k0 := 1) (t0 := 5) (v := 2) rfl rfl rfl dX11_beginEvents_7 ?_
  refine v_icmp_ge B (tgt := 45) dX11_beginEvents_8 (by decide +kernel) (fun h => absurd h (by decide +kernel)) (fun _ => ?_)
  refine v_aload_n B dX11_beginEvents_11 rfl rfl ?_
  refine v_get B (C := RX11) (T := TX11) (N := 5) (ci := 11) (k0 := 0) hi_x_beginEvents_X11 rfl rfl 0 (by decide +kernel) (List.mem_of_getElem? (i := 1) rfl) rfl dX11_beginEvents_12 ?_
  refine v_iload_n B dX11_beginEvents_15 rfl rfl ?_
  refine v_aald B (k0 := 1) (t0 := 5) (v := .ref (xa 4)) rfl rfl (vpi (by decide +kernel)) rfl dX11_beginEvents_16 ?_
  refine v_aload_n B dX11_beginEvents_17 rfl rfl ?_
  refine v_get B (C := RX11) (T := TX11) (N := 5) (ci := 11) (k0 := 0) hi_x_beginEvents_X11 rfl rfl 4 (by decide +kernel) (List.mem_of_getElem? (i := 2) rfl) rfl dX11_beginEvents_18 ?_
  refine v_callVi B (b := (xa 4)) (n := 1) (As := [.int t]) (rest := []) (wc := [((xa 4), .inr (3, [.int 0, .long (fa &&& 281474976710655), .int 0, .int 0, .int 0, .int 0, .ref (xa 16), .int 0, .long 0, .ref (xa 17), .long 0, .ref (xa 18), .ref (xa 19), .ref (xa 20), .ref (xa 21), .ref (xa 22), .ref (xa 23), .ref (xa 24), .ref (xa 25)]))]) (wr := [(h, .inr (11, [.ref (xa 0), .ref (xa 1), .ref (xa 2), .ref (xa 3), .int t])), ((xa 0), .inl (K 5, 2, .inr (.inr (.inr (.inr (va_up (va_up (fun _ => none) (0 : Int32).toNatClampNeg (some (xa 4))) (1 : Int32).toNatClampNeg (some (xa 5)))))))), ((xa 5), .inr (3, [.int 1, .long (sa &&& 281474976710655), .int 0, .int 1, .int 0, .int 0, .ref (xa 58), .int 0, .long 0, .ref (xa 59), .long 0, .ref (xa 60), .ref (xa 61), .ref (xa 62), .ref (xa 63), .ref (xa 64), .ref (xa 65), .ref (xa 66), .ref (xa 67)]))]) (x_hasEv_0 l D K h xa xf xg fa sa t) gd_x_beginEvents_x_hasEv_0_483 rfl rfl rfl (by decide +kernel) ⟨by decide +kernel, by decide +kernel⟩ 0 rfl rfl rfl (sp_pl [2] [0, 1, 3] rfl rfl rfl rfl rfl) rfl rfl (Nat.le_of_ble_eq_true rfl) dX11_beginEvents_21 ⟨by decide +kernel, by decide +kernel⟩ (fun r_3 u_1 hp_2 => ?_)
  subst hp_2
  show V _ _ _ _ _ _ _ _ _ _ _ _ _ _ (0, 0) [(h, .inr (11, [.ref (xa 0), .ref (xa 1), .ref (xa 2), .ref (xa 3), .int t])), ((xa 0), .inl (K 5, 2, .inr (.inr (.inr (.inr (va_up (va_up (fun _ => none) (0 : Int32).toNatClampNeg (some (xa 4))) (1 : Int32).toNatClampNeg (some (xa 5)))))))), ((xa 5), .inr (3, [.int 1, .long (sa &&& 281474976710655), .int 0, .int 1, .int 0, .int 0, .ref (xa 58), .int 0, .long 0, .ref (xa 59), .long 0, .ref (xa 60), .ref (xa 61), .ref (xa 62), .ref (xa 63), .ref (xa 64), .ref (xa 65), .ref (xa 66), .ref (xa 67)])), ((xa 4), .inr (3, [.int 0, .long (fa &&& 281474976710655), .int 0, .int 0, .int 0, .int 0, .ref (xa 16), .int 0, .long 0, .ref (xa 17), .long 0, .ref (xa 18), .ref (xa 19), .ref (xa 20), .ref (xa 21), .ref (xa 22), .ref (xa 23), .ref (xa 24), .ref (xa 25)]))] _ _ [.int 0]
  show V _ _ _ _ _ _ _ _ _ _ _ _ _ _ (0, 0) [(h, .inr (11, [.ref (xa 0), .ref (xa 1), .ref (xa 2), .ref (xa 3), .int t])), ((xa 0), .inl (K 5, 2, .inr (.inr (.inr (.inr (va_up (va_up (fun _ => none) (0 : Int32).toNatClampNeg (some (xa 4))) (1 : Int32).toNatClampNeg (some (xa 5)))))))), ((xa 5), .inr (3, [.int 1, .long (sa &&& 281474976710655), .int 0, .int 1, .int 0, .int 0, .ref (xa 58), .int 0, .long 0, .ref (xa 59), .long 0, .ref (xa 60), .ref (xa 61), .ref (xa 62), .ref (xa 63), .ref (xa 64), .ref (xa 65), .ref (xa 66), .ref (xa 67)])), ((xa 4), .inr (3, [.int 0, .long (fa &&& 281474976710655), .int 0, .int 0, .int 0, .int 0, .ref (xa 16), .int 0, .long 0, .ref (xa 17), .long 0, .ref (xa 18), .ref (xa 19), .ref (xa 20), .ref (xa 21), .ref (xa 22), .ref (xa 23), .ref (xa 24), .ref (xa 25)]))] _ _ _
  refine v_if_eq B (tgt := 39) dX11_beginEvents_24 (by decide +kernel) (fun _ => ?_) (fun h => absurd (by decide +kernel) h)
  refine v_iinc B (k := 0) (v := 1) (lv' := [(1, .int 1), (0, .ref h)]) dX11_beginEvents_39 rfl (by decide +kernel) (by decide +kernel) rfl ?_
  refine v_goto B (tgt := 2) dX11_beginEvents_42 (by decide +kernel) ?_
  refine v_iload_n B dX11_beginEvents_2 rfl rfl ?_
  refine v_aload_n B dX11_beginEvents_3 rfl rfl ?_
  refine v_get B (C := RX11) (T := TX11) (N := 5) (ci := 11) (k0 := 0) hi_x_beginEvents_X11 rfl rfl 0 (by decide +kernel) (List.mem_of_getElem? (i := 1) rfl) rfl dX11_beginEvents_4 ?_
  refine v_alen B (k0 := 1) (t0 := 5) (v := 2) rfl rfl rfl dX11_beginEvents_7 ?_
  refine v_icmp_ge B (tgt := 45) dX11_beginEvents_8 (by decide +kernel) (fun h => absurd h (by decide +kernel)) (fun _ => ?_)
  refine v_aload_n B dX11_beginEvents_11 rfl rfl ?_
  refine v_get B (C := RX11) (T := TX11) (N := 5) (ci := 11) (k0 := 0) hi_x_beginEvents_X11 rfl rfl 0 (by decide +kernel) (List.mem_of_getElem? (i := 1) rfl) rfl dX11_beginEvents_12 ?_
  refine v_iload_n B dX11_beginEvents_15 rfl rfl ?_
  refine v_aald B (k0 := 1) (t0 := 5) (v := .ref (xa 5)) rfl rfl (vpi (by decide +kernel)) rfl dX11_beginEvents_16 ?_
  refine v_aload_n B dX11_beginEvents_17 rfl rfl ?_
  refine v_get B (C := RX11) (T := TX11) (N := 5) (ci := 11) (k0 := 0) hi_x_beginEvents_X11 rfl rfl 4 (by decide +kernel) (List.mem_of_getElem? (i := 2) rfl) rfl dX11_beginEvents_18 ?_
  refine v_callVi B (b := (xa 5)) (n := 1) (As := [.int t]) (rest := []) (wc := [((xa 5), .inr (3, [.int 1, .long (sa &&& 281474976710655), .int 0, .int 1, .int 0, .int 0, .ref (xa 58), .int 0, .long 0, .ref (xa 59), .long 0, .ref (xa 60), .ref (xa 61), .ref (xa 62), .ref (xa 63), .ref (xa 64), .ref (xa 65), .ref (xa 66), .ref (xa 67)]))]) (wr := [(h, .inr (11, [.ref (xa 0), .ref (xa 1), .ref (xa 2), .ref (xa 3), .int t])), ((xa 0), .inl (K 5, 2, .inr (.inr (.inr (.inr (va_up (va_up (fun _ => none) (0 : Int32).toNatClampNeg (some (xa 4))) (1 : Int32).toNatClampNeg (some (xa 5)))))))), ((xa 4), .inr (3, [.int 0, .long (fa &&& 281474976710655), .int 0, .int 0, .int 0, .int 0, .ref (xa 16), .int 0, .long 0, .ref (xa 17), .long 0, .ref (xa 18), .ref (xa 19), .ref (xa 20), .ref (xa 21), .ref (xa 22), .ref (xa 23), .ref (xa 24), .ref (xa 25)]))]) (x_hasEv_1 l D K h xa xf xg fa sa t) gd_x_beginEvents_x_hasEv_1_483 rfl rfl rfl (by decide +kernel) ⟨by decide +kernel, by decide +kernel⟩ 0 rfl rfl rfl (sp_pl [2] [0, 1, 3] rfl rfl rfl rfl rfl) rfl rfl (Nat.le_of_ble_eq_true rfl) dX11_beginEvents_21 ⟨by decide +kernel, by decide +kernel⟩ (fun r_6 u_4 hp_5 => ?_)
  subst hp_5
  show V _ _ _ _ _ _ _ _ _ _ _ _ _ _ (0, 0) [(h, .inr (11, [.ref (xa 0), .ref (xa 1), .ref (xa 2), .ref (xa 3), .int t])), ((xa 0), .inl (K 5, 2, .inr (.inr (.inr (.inr (va_up (va_up (fun _ => none) (0 : Int32).toNatClampNeg (some (xa 4))) (1 : Int32).toNatClampNeg (some (xa 5)))))))), ((xa 4), .inr (3, [.int 0, .long (fa &&& 281474976710655), .int 0, .int 0, .int 0, .int 0, .ref (xa 16), .int 0, .long 0, .ref (xa 17), .long 0, .ref (xa 18), .ref (xa 19), .ref (xa 20), .ref (xa 21), .ref (xa 22), .ref (xa 23), .ref (xa 24), .ref (xa 25)])), ((xa 5), .inr (3, [.int 1, .long (sa &&& 281474976710655), .int 0, .int 1, .int 0, .int 0, .ref (xa 58), .int 0, .long 0, .ref (xa 59), .long 0, .ref (xa 60), .ref (xa 61), .ref (xa 62), .ref (xa 63), .ref (xa 64), .ref (xa 65), .ref (xa 66), .ref (xa 67)]))] _ _ [.int 0]
  show V _ _ _ _ _ _ _ _ _ _ _ _ _ _ (0, 0) [(h, .inr (11, [.ref (xa 0), .ref (xa 1), .ref (xa 2), .ref (xa 3), .int t])), ((xa 0), .inl (K 5, 2, .inr (.inr (.inr (.inr (va_up (va_up (fun _ => none) (0 : Int32).toNatClampNeg (some (xa 4))) (1 : Int32).toNatClampNeg (some (xa 5)))))))), ((xa 4), .inr (3, [.int 0, .long (fa &&& 281474976710655), .int 0, .int 0, .int 0, .int 0, .ref (xa 16), .int 0, .long 0, .ref (xa 17), .long 0, .ref (xa 18), .ref (xa 19), .ref (xa 20), .ref (xa 21), .ref (xa 22), .ref (xa 23), .ref (xa 24), .ref (xa 25)])), ((xa 5), .inr (3, [.int 1, .long (sa &&& 281474976710655), .int 0, .int 1, .int 0, .int 0, .ref (xa 58), .int 0, .long 0, .ref (xa 59), .long 0, .ref (xa 60), .ref (xa 61), .ref (xa 62), .ref (xa 63), .ref (xa 64), .ref (xa 65), .ref (xa 66), .ref (xa 67)]))] _ _ _
  refine v_if_eq B (tgt := 39) dX11_beginEvents_24 (by decide +kernel) (fun _ => ?_) (fun h => absurd (by decide +kernel) h)
  refine v_iinc B (k := 0) (v := 2) (lv' := [(1, .int 2), (0, .ref h)]) dX11_beginEvents_39 rfl (by decide +kernel) (by decide +kernel) rfl ?_
  refine v_goto B (tgt := 2) dX11_beginEvents_42 (by decide +kernel) ?_
  refine v_iload_n B dX11_beginEvents_2 rfl rfl ?_
  refine v_aload_n B dX11_beginEvents_3 rfl rfl ?_
  refine v_get B (C := RX11) (T := TX11) (N := 5) (ci := 11) (k0 := 0) hi_x_beginEvents_X11 rfl rfl 0 (by decide +kernel) (List.mem_of_getElem? (i := 1) rfl) rfl dX11_beginEvents_4 ?_
  refine v_alen B (k0 := 1) (t0 := 5) (v := 2) rfl rfl rfl dX11_beginEvents_7 ?_
  refine v_icmp_ge B (tgt := 45) dX11_beginEvents_8 (by decide +kernel) (fun _ => ?_) (fun h => absurd (by decide +kernel) h)
  exact v_vret B hr hlk () trivial rfl (by decide +kernel) (by decide +kernel) dX11_beginEvents_45

def wp_x_endEvents : List Cond := .code yX11_endEvents cX11_endEvents 2 none :: ([.fieldLink RX11 9 "LowEnergy" "devices" "[LLowEnergy$Device;", .fieldLink RX11 65 "LowEnergy" "now" "I", .methodLink RX11 483 yX3_hasEventAt, .instanceMethod yX3_hasEventAt, .selects RX3 yX3_hasEventAt yX3_hasEventAt, .initialized RX3, .code yX3_hasEventAt cX3_hasEventAt 2 (some .boolean), .methodLink RX3 96 yX3_inLink, .instanceMethod yX3_inLink, .selects RX3 yX3_inLink yX3_inLink, .code yX3_inLink cX3_inLink 1 (some .boolean), .fieldLink RX3 93 "LowEnergy$Device" "state" "I"] ++ (wsX110 ++ (wsX30 ++ ([]))))
theorem hi_x_endEvents_X11 : ∀ x ∈ u_ws RX11 TX11 5, x ∈ wp_x_endEvents := fun _ h => List.mem_cons_of_mem _ (List.mem_append_right _ (List.mem_append_left _ h))
theorem hi_x_endEvents_X3 : ∀ x ∈ u_ws RX3 TX3 19, x ∈ wp_x_endEvents := fun _ h => List.mem_cons_of_mem _ (List.mem_append_right _ (List.mem_append_right _ (List.mem_append_left _ h)))
set_option maxRecDepth 100000 in
theorem gd_x_endEvents_x_hasEv_0_483 : GoodIn wp_x_endEvents (wsV RX11 483 RX3 yX3_hasEventAt wp_x_hasEv_0) := goodIn_app (goodIn_r _ [3, 4, 5, 6] rfl rfl) (goodIn_ca (goodIn_r _ [7, 8, 9, 10, 6, 11, 12] rfl rfl) (goodIn_app (goodIn_cls hi_x_endEvents_X3 gw_X3) (goodIn_nil)))
set_option maxRecDepth 100000 in
theorem gd_x_endEvents_x_hasEv_1_483 : GoodIn wp_x_endEvents (wsV RX11 483 RX3 yX3_hasEventAt wp_x_hasEv_1) := goodIn_app (goodIn_r _ [3, 4, 5, 6] rfl rfl) (goodIn_ca (goodIn_r _ [7, 8, 9, 10, 6, 11, 12] rfl rfl) (goodIn_app (goodIn_cls hi_x_endEvents_X3 gw_X3) (goodIn_nil)))
set_option maxHeartbeats 4000000 in
set_option maxRecDepth 100000 in
theorem x_endEvents (l : Launch) (D : va_G) (K : Nat → ClassId) (h : Nat) (xa : Nat → Nat) (xf : Nat → Option Nat) (xg : Nat → Option Nat) (fa : Int64) (sa : Int64) (t : Int32) : MG l yX11_endEvents wp_x_endEvents ({ frames := 2, cells := 0, slots := 0, locals := 41 }) D (tysA K) [.ref h] [(h, .inr (11, [.ref (xa 0), .ref (xa 1), .ref (xa 2), .ref (xa 3), .int t])), ((xa 0), .inl (K 5, 2, .inr (.inr (.inr (.inr (va_up (va_up (fun _ => none) (0 : Int32).toNatClampNeg (some (xa 4))) (1 : Int32).toNatClampNeg (some (xa 5)))))))), ((xa 4), .inr (3, [.int 0, .long (fa &&& 281474976710655), .int 0, .int 0, .int 0, .int 0, .ref (xa 16), .int 0, .long 0, .ref (xa 17), .long 0, .ref (xa 18), .ref (xa 19), .ref (xa 20), .ref (xa 21), .ref (xa 22), .ref (xa 23), .ref (xa 24), .ref (xa 25)])), ((xa 5), .inr (3, [.int 1, .long (sa &&& 281474976710655), .int 0, .int 1, .int 0, .int 0, .ref (xa 58), .int 0, .long 0, .ref (xa 59), .long 0, .ref (xa 60), .ref (xa 61), .ref (xa 62), .ref (xa 63), .ref (xa 64), .ref (xa 65), .ref (xa 66), .ref (xa 67)]))] (Qv D (fun _ : Unit => True) (fun _ => [(h, .inr (11, [.ref (xa 0), .ref (xa 1), .ref (xa 2), .ref (xa 3), .int t])), ((xa 0), .inl (K 5, 2, .inr (.inr (.inr (.inr (va_up (va_up (fun _ => none) (0 : Int32).toNatClampNeg (some (xa 4))) (1 : Int32).toNatClampNeg (some (xa 5)))))))), ((xa 4), .inr (3, [.int 0, .long (fa &&& 281474976710655), .int 0, .int 0, .int 0, .int 0, .ref (xa 16), .int 0, .long 0, .ref (xa 17), .long 0, .ref (xa 18), .ref (xa 19), .ref (xa 20), .ref (xa 21), .ref (xa 22), .ref (xa 23), .ref (xa 24), .ref (xa 25)])), ((xa 5), .inr (3, [.int 1, .long (sa &&& 281474976710655), .int 0, .int 1, .int 0, .int 0, .ref (xa 58), .int 0, .long 0, .ref (xa 59), .long 0, .ref (xa 60), .ref (xa 61), .ref (xa 62), .ref (xa 63), .ref (xa 64), .ref (xa 65), .ref (xa 66), .ref (xa 67)]))])) 0 0 := by
  refine mg_of (cc := cX11_endEvents) (maxL := 2) (ret := none) (by decide +kernel) rfl (Nat.le_of_ble_eq_true rfl) ?_
  intro p e s m below meth c A B hr hlk hnam
  show V _ _ _ _ _ _ _ _ _ _ _ _ _ _ _ _ [(0, .ref h)] _ _
  refine v_iconst B (v := 0) dX11_endEvents_0 (by decide +kernel) ?_
  refine v_istore_n B (lv' := [(1, .int 0), (0, .ref h)]) dX11_endEvents_1 rfl (by decide +kernel) rfl ?_
  refine v_iload_n B dX11_endEvents_2 rfl rfl ?_
  refine v_aload_n B dX11_endEvents_3 rfl rfl ?_
  refine v_get B (C := RX11) (T := TX11) (N := 5) (ci := 11) (k0 := 0) hi_x_endEvents_X11 rfl rfl 0 (by decide +kernel) (List.mem_of_getElem? (i := 1) rfl) rfl dX11_endEvents_4 ?_
  refine v_alen B (k0 := 1) (t0 := 5) (v := 2) rfl rfl rfl dX11_endEvents_7 ?_
  refine v_icmp_ge B (tgt := 45) dX11_endEvents_8 (by decide +kernel) (fun h => absurd h (by decide +kernel)) (fun _ => ?_)
  refine v_aload_n B dX11_endEvents_11 rfl rfl ?_
  refine v_get B (C := RX11) (T := TX11) (N := 5) (ci := 11) (k0 := 0) hi_x_endEvents_X11 rfl rfl 0 (by decide +kernel) (List.mem_of_getElem? (i := 1) rfl) rfl dX11_endEvents_12 ?_
  refine v_iload_n B dX11_endEvents_15 rfl rfl ?_
  refine v_aald B (k0 := 1) (t0 := 5) (v := .ref (xa 4)) rfl rfl (vpi (by decide +kernel)) rfl dX11_endEvents_16 ?_
  refine v_aload_n B dX11_endEvents_17 rfl rfl ?_
  refine v_get B (C := RX11) (T := TX11) (N := 5) (ci := 11) (k0 := 0) hi_x_endEvents_X11 rfl rfl 4 (by decide +kernel) (List.mem_of_getElem? (i := 2) rfl) rfl dX11_endEvents_18 ?_
  refine v_callVi B (b := (xa 4)) (n := 1) (As := [.int t]) (rest := []) (wc := [((xa 4), .inr (3, [.int 0, .long (fa &&& 281474976710655), .int 0, .int 0, .int 0, .int 0, .ref (xa 16), .int 0, .long 0, .ref (xa 17), .long 0, .ref (xa 18), .ref (xa 19), .ref (xa 20), .ref (xa 21), .ref (xa 22), .ref (xa 23), .ref (xa 24), .ref (xa 25)]))]) (wr := [(h, .inr (11, [.ref (xa 0), .ref (xa 1), .ref (xa 2), .ref (xa 3), .int t])), ((xa 0), .inl (K 5, 2, .inr (.inr (.inr (.inr (va_up (va_up (fun _ => none) (0 : Int32).toNatClampNeg (some (xa 4))) (1 : Int32).toNatClampNeg (some (xa 5)))))))), ((xa 5), .inr (3, [.int 1, .long (sa &&& 281474976710655), .int 0, .int 1, .int 0, .int 0, .ref (xa 58), .int 0, .long 0, .ref (xa 59), .long 0, .ref (xa 60), .ref (xa 61), .ref (xa 62), .ref (xa 63), .ref (xa 64), .ref (xa 65), .ref (xa 66), .ref (xa 67)]))]) (x_hasEv_0 l D K h xa xf xg fa sa t) gd_x_endEvents_x_hasEv_0_483 rfl rfl rfl (by decide +kernel) ⟨by decide +kernel, by decide +kernel⟩ 0 rfl rfl rfl (sp_pl [2] [0, 1, 3] rfl rfl rfl rfl rfl) rfl rfl (Nat.le_of_ble_eq_true rfl) dX11_endEvents_21 ⟨by decide +kernel, by decide +kernel⟩ (fun r_3 u_1 hp_2 => ?_)
  subst hp_2
  show V _ _ _ _ _ _ _ _ _ _ _ _ _ _ (0, 0) [(h, .inr (11, [.ref (xa 0), .ref (xa 1), .ref (xa 2), .ref (xa 3), .int t])), ((xa 0), .inl (K 5, 2, .inr (.inr (.inr (.inr (va_up (va_up (fun _ => none) (0 : Int32).toNatClampNeg (some (xa 4))) (1 : Int32).toNatClampNeg (some (xa 5)))))))), ((xa 5), .inr (3, [.int 1, .long (sa &&& 281474976710655), .int 0, .int 1, .int 0, .int 0, .ref (xa 58), .int 0, .long 0, .ref (xa 59), .long 0, .ref (xa 60), .ref (xa 61), .ref (xa 62), .ref (xa 63), .ref (xa 64), .ref (xa 65), .ref (xa 66), .ref (xa 67)])), ((xa 4), .inr (3, [.int 0, .long (fa &&& 281474976710655), .int 0, .int 0, .int 0, .int 0, .ref (xa 16), .int 0, .long 0, .ref (xa 17), .long 0, .ref (xa 18), .ref (xa 19), .ref (xa 20), .ref (xa 21), .ref (xa 22), .ref (xa 23), .ref (xa 24), .ref (xa 25)]))] _ _ [.int 0]
  show V _ _ _ _ _ _ _ _ _ _ _ _ _ _ (0, 0) [(h, .inr (11, [.ref (xa 0), .ref (xa 1), .ref (xa 2), .ref (xa 3), .int t])), ((xa 0), .inl (K 5, 2, .inr (.inr (.inr (.inr (va_up (va_up (fun _ => none) (0 : Int32).toNatClampNeg (some (xa 4))) (1 : Int32).toNatClampNeg (some (xa 5)))))))), ((xa 5), .inr (3, [.int 1, .long (sa &&& 281474976710655), .int 0, .int 1, .int 0, .int 0, .ref (xa 58), .int 0, .long 0, .ref (xa 59), .long 0, .ref (xa 60), .ref (xa 61), .ref (xa 62), .ref (xa 63), .ref (xa 64), .ref (xa 65), .ref (xa 66), .ref (xa 67)])), ((xa 4), .inr (3, [.int 0, .long (fa &&& 281474976710655), .int 0, .int 0, .int 0, .int 0, .ref (xa 16), .int 0, .long 0, .ref (xa 17), .long 0, .ref (xa 18), .ref (xa 19), .ref (xa 20), .ref (xa 21), .ref (xa 22), .ref (xa 23), .ref (xa 24), .ref (xa 25)]))] _ _ _
  refine v_if_eq B (tgt := 39) dX11_endEvents_24 (by decide +kernel) (fun _ => ?_) (fun h => absurd (by decide +kernel) h)
  refine v_iinc B (k := 0) (v := 1) (lv' := [(1, .int 1), (0, .ref h)]) dX11_endEvents_39 rfl (by decide +kernel) (by decide +kernel) rfl ?_
  refine v_goto B (tgt := 2) dX11_endEvents_42 (by decide +kernel) ?_
  refine v_iload_n B dX11_endEvents_2 rfl rfl ?_
  refine v_aload_n B dX11_endEvents_3 rfl rfl ?_
  refine v_get B (C := RX11) (T := TX11) (N := 5) (ci := 11) (k0 := 0) hi_x_endEvents_X11 rfl rfl 0 (by decide +kernel) (List.mem_of_getElem? (i := 1) rfl) rfl dX11_endEvents_4 ?_
  refine v_alen B (k0 := 1) (t0 := 5) (v := 2) rfl rfl rfl dX11_endEvents_7 ?_
  refine v_icmp_ge B (tgt := 45) dX11_endEvents_8 (by decide +kernel) (fun h => absurd h (by decide +kernel)) (fun _ => ?_)
  refine v_aload_n B dX11_endEvents_11 rfl rfl ?_
  refine v_get B (C := RX11) (T := TX11) (N := 5) (ci := 11) (k0 := 0) hi_x_endEvents_X11 rfl rfl 0 (by decide +kernel) (List.mem_of_getElem? (i := 1) rfl) rfl dX11_endEvents_12 ?_
  refine v_iload_n B dX11_endEvents_15 rfl rfl ?_
  refine v_aald B (k0 := 1) (t0 := 5) (v := .ref (xa 5)) rfl rfl (vpi (by decide +kernel)) rfl dX11_endEvents_16 ?_
  refine v_aload_n B dX11_endEvents_17 rfl rfl ?_
  refine v_get B (C := RX11) (T := TX11) (N := 5) (ci := 11) (k0 := 0) hi_x_endEvents_X11 rfl rfl 4 (by decide +kernel) (List.mem_of_getElem? (i := 2) rfl) rfl dX11_endEvents_18 ?_
  refine v_callVi B (b := (xa 5)) (n := 1) (As := [.int t]) (rest := []) (wc := [((xa 5), .inr (3, [.int 1, .long (sa &&& 281474976710655), .int 0, .int 1, .int 0, .int 0, .ref (xa 58), .int 0, .long 0, .ref (xa 59), .long 0, .ref (xa 60), .ref (xa 61), .ref (xa 62), .ref (xa 63), .ref (xa 64), .ref (xa 65), .ref (xa 66), .ref (xa 67)]))]) (wr := [(h, .inr (11, [.ref (xa 0), .ref (xa 1), .ref (xa 2), .ref (xa 3), .int t])), ((xa 0), .inl (K 5, 2, .inr (.inr (.inr (.inr (va_up (va_up (fun _ => none) (0 : Int32).toNatClampNeg (some (xa 4))) (1 : Int32).toNatClampNeg (some (xa 5)))))))), ((xa 4), .inr (3, [.int 0, .long (fa &&& 281474976710655), .int 0, .int 0, .int 0, .int 0, .ref (xa 16), .int 0, .long 0, .ref (xa 17), .long 0, .ref (xa 18), .ref (xa 19), .ref (xa 20), .ref (xa 21), .ref (xa 22), .ref (xa 23), .ref (xa 24), .ref (xa 25)]))]) (x_hasEv_1 l D K h xa xf xg fa sa t) gd_x_endEvents_x_hasEv_1_483 rfl rfl rfl (by decide +kernel) ⟨by decide +kernel, by decide +kernel⟩ 0 rfl rfl rfl (sp_pl [2] [0, 1, 3] rfl rfl rfl rfl rfl) rfl rfl (Nat.le_of_ble_eq_true rfl) dX11_endEvents_21 ⟨by decide +kernel, by decide +kernel⟩ (fun r_6 u_4 hp_5 => ?_)
  subst hp_5
  show V _ _ _ _ _ _ _ _ _ _ _ _ _ _ (0, 0) [(h, .inr (11, [.ref (xa 0), .ref (xa 1), .ref (xa 2), .ref (xa 3), .int t])), ((xa 0), .inl (K 5, 2, .inr (.inr (.inr (.inr (va_up (va_up (fun _ => none) (0 : Int32).toNatClampNeg (some (xa 4))) (1 : Int32).toNatClampNeg (some (xa 5)))))))), ((xa 4), .inr (3, [.int 0, .long (fa &&& 281474976710655), .int 0, .int 0, .int 0, .int 0, .ref (xa 16), .int 0, .long 0, .ref (xa 17), .long 0, .ref (xa 18), .ref (xa 19), .ref (xa 20), .ref (xa 21), .ref (xa 22), .ref (xa 23), .ref (xa 24), .ref (xa 25)])), ((xa 5), .inr (3, [.int 1, .long (sa &&& 281474976710655), .int 0, .int 1, .int 0, .int 0, .ref (xa 58), .int 0, .long 0, .ref (xa 59), .long 0, .ref (xa 60), .ref (xa 61), .ref (xa 62), .ref (xa 63), .ref (xa 64), .ref (xa 65), .ref (xa 66), .ref (xa 67)]))] _ _ [.int 0]
  show V _ _ _ _ _ _ _ _ _ _ _ _ _ _ (0, 0) [(h, .inr (11, [.ref (xa 0), .ref (xa 1), .ref (xa 2), .ref (xa 3), .int t])), ((xa 0), .inl (K 5, 2, .inr (.inr (.inr (.inr (va_up (va_up (fun _ => none) (0 : Int32).toNatClampNeg (some (xa 4))) (1 : Int32).toNatClampNeg (some (xa 5)))))))), ((xa 4), .inr (3, [.int 0, .long (fa &&& 281474976710655), .int 0, .int 0, .int 0, .int 0, .ref (xa 16), .int 0, .long 0, .ref (xa 17), .long 0, .ref (xa 18), .ref (xa 19), .ref (xa 20), .ref (xa 21), .ref (xa 22), .ref (xa 23), .ref (xa 24), .ref (xa 25)])), ((xa 5), .inr (3, [.int 1, .long (sa &&& 281474976710655), .int 0, .int 1, .int 0, .int 0, .ref (xa 58), .int 0, .long 0, .ref (xa 59), .long 0, .ref (xa 60), .ref (xa 61), .ref (xa 62), .ref (xa 63), .ref (xa 64), .ref (xa 65), .ref (xa 66), .ref (xa 67)]))] _ _ _
  refine v_if_eq B (tgt := 39) dX11_endEvents_24 (by decide +kernel) (fun _ => ?_) (fun h => absurd (by decide +kernel) h)
  refine v_iinc B (k := 0) (v := 2) (lv' := [(1, .int 2), (0, .ref h)]) dX11_endEvents_39 rfl (by decide +kernel) (by decide +kernel) rfl ?_
  refine v_goto B (tgt := 2) dX11_endEvents_42 (by decide +kernel) ?_
  refine v_iload_n B dX11_endEvents_2 rfl rfl ?_
  refine v_aload_n B dX11_endEvents_3 rfl rfl ?_
  refine v_get B (C := RX11) (T := TX11) (N := 5) (ci := 11) (k0 := 0) hi_x_endEvents_X11 rfl rfl 0 (by decide +kernel) (List.mem_of_getElem? (i := 1) rfl) rfl dX11_endEvents_4 ?_
  refine v_alen B (k0 := 1) (t0 := 5) (v := 2) rfl rfl rfl dX11_endEvents_7 ?_
  refine v_icmp_ge B (tgt := 45) dX11_endEvents_8 (by decide +kernel) (fun _ => ?_) (fun h => absurd (by decide +kernel) h)
  exact v_vret B hr hlk () trivial rfl (by decide +kernel) (by decide +kernel) dX11_endEvents_45

def wp_x_endLinks : List Cond := .code yX11_endLinks cX11_endLinks 4 none :: ([.fieldLink RX11 9 "LowEnergy" "devices" "[LLowEnergy$Device;", .methodLink RX11 99 yX3_inLink, .instanceMethod yX3_inLink, .selects RX3 yX3_inLink yX3_inLink, .initialized RX3, .code yX3_inLink cX3_inLink 1 (some .boolean), .fieldLink RX3 93 "LowEnergy$Device" "state" "I"] ++ (wsX110 ++ (wsX30 ++ ([]))))
theorem hi_x_endLinks_X11 : ∀ x ∈ u_ws RX11 TX11 5, x ∈ wp_x_endLinks := fun _ h => List.mem_cons_of_mem _ (List.mem_append_right _ (List.mem_append_left _ h))
theorem hi_x_endLinks_X3 : ∀ x ∈ u_ws RX3 TX3 19, x ∈ wp_x_endLinks := fun _ h => List.mem_cons_of_mem _ (List.mem_append_right _ (List.mem_append_right _ (List.mem_append_left _ h)))
set_option maxRecDepth 100000 in
theorem gd_x_endLinks_x_inLink_0_99 : GoodIn wp_x_endLinks (wsV RX11 99 RX3 yX3_inLink wp_x_inLink_0) := goodIn_app (goodIn_r _ [2, 3, 4, 5] rfl rfl) (goodIn_ca (goodIn_r _ [6, 7] rfl rfl) (goodIn_app (goodIn_cls hi_x_endLinks_X3 gw_X3) (goodIn_nil)))
set_option maxRecDepth 100000 in
theorem gd_x_endLinks_x_inLink_1_99 : GoodIn wp_x_endLinks (wsV RX11 99 RX3 yX3_inLink wp_x_inLink_1) := goodIn_app (goodIn_r _ [2, 3, 4, 5] rfl rfl) (goodIn_ca (goodIn_r _ [6, 7] rfl rfl) (goodIn_app (goodIn_cls hi_x_endLinks_X3 gw_X3) (goodIn_nil)))
set_option maxHeartbeats 4000000 in
set_option maxRecDepth 100000 in
theorem x_endLinks (l : Launch) (D : va_G) (K : Nat → ClassId) (h : Nat) (xa : Nat → Nat) (xf : Nat → Option Nat) (xg : Nat → Option Nat) (fa : Int64) (sa : Int64) (t : Int32) : MG l yX11_endLinks wp_x_endLinks ({ frames := 1, cells := 0, slots := 0, locals := 20 }) D (tysA K) [.ref h] [(h, .inr (11, [.ref (xa 0), .ref (xa 1), .ref (xa 2), .ref (xa 3), .int t])), ((xa 0), .inl (K 5, 2, .inr (.inr (.inr (.inr (va_up (va_up (fun _ => none) (0 : Int32).toNatClampNeg (some (xa 4))) (1 : Int32).toNatClampNeg (some (xa 5)))))))), ((xa 4), .inr (3, [.int 0, .long (fa &&& 281474976710655), .int 0, .int 0, .int 0, .int 0, .ref (xa 16), .int 0, .long 0, .ref (xa 17), .long 0, .ref (xa 18), .ref (xa 19), .ref (xa 20), .ref (xa 21), .ref (xa 22), .ref (xa 23), .ref (xa 24), .ref (xa 25)])), ((xa 5), .inr (3, [.int 1, .long (sa &&& 281474976710655), .int 0, .int 1, .int 0, .int 0, .ref (xa 58), .int 0, .long 0, .ref (xa 59), .long 0, .ref (xa 60), .ref (xa 61), .ref (xa 62), .ref (xa 63), .ref (xa 64), .ref (xa 65), .ref (xa 66), .ref (xa 67)]))] (Qv D (fun _ : Unit => True) (fun _ => [(h, .inr (11, [.ref (xa 0), .ref (xa 1), .ref (xa 2), .ref (xa 3), .int t])), ((xa 0), .inl (K 5, 2, .inr (.inr (.inr (.inr (va_up (va_up (fun _ => none) (0 : Int32).toNatClampNeg (some (xa 4))) (1 : Int32).toNatClampNeg (some (xa 5)))))))), ((xa 4), .inr (3, [.int 0, .long (fa &&& 281474976710655), .int 0, .int 0, .int 0, .int 0, .ref (xa 16), .int 0, .long 0, .ref (xa 17), .long 0, .ref (xa 18), .ref (xa 19), .ref (xa 20), .ref (xa 21), .ref (xa 22), .ref (xa 23), .ref (xa 24), .ref (xa 25)])), ((xa 5), .inr (3, [.int 1, .long (sa &&& 281474976710655), .int 0, .int 1, .int 0, .int 0, .ref (xa 58), .int 0, .long 0, .ref (xa 59), .long 0, .ref (xa 60), .ref (xa 61), .ref (xa 62), .ref (xa 63), .ref (xa 64), .ref (xa 65), .ref (xa 66), .ref (xa 67)]))])) 0 0 := by
  refine mg_of (cc := cX11_endLinks) (maxL := 4) (ret := none) (by decide +kernel) rfl (Nat.le_of_ble_eq_true rfl) ?_
  intro p e s m below meth c A B hr hlk hnam
  show V _ _ _ _ _ _ _ _ _ _ _ _ _ _ _ _ [(0, .ref h)] _ _
  refine v_iconst B (v := 0) dX11_endLinks_0 (by decide +kernel) ?_
  refine v_istore_n B (lv' := [(1, .int 0), (0, .ref h)]) dX11_endLinks_1 rfl (by decide +kernel) rfl ?_
  refine v_iload_n B dX11_endLinks_2 rfl rfl ?_
  refine v_aload_n B dX11_endLinks_3 rfl rfl ?_
  refine v_get B (C := RX11) (T := TX11) (N := 5) (ci := 11) (k0 := 0) hi_x_endLinks_X11 rfl rfl 0 (by decide +kernel) (List.mem_of_getElem? (i := 1) rfl) rfl dX11_endLinks_4 ?_
  refine v_alen B (k0 := 1) (t0 := 5) (v := 2) rfl rfl rfl dX11_endLinks_7 ?_
  refine v_icmp_ge B (tgt := 57) dX11_endLinks_8 (by decide +kernel) (fun h => absurd h (by decide +kernel)) (fun _ => ?_)
  refine v_aload_n B dX11_endLinks_11 rfl rfl ?_
  refine v_get B (C := RX11) (T := TX11) (N := 5) (ci := 11) (k0 := 0) hi_x_endLinks_X11 rfl rfl 0 (by decide +kernel) (List.mem_of_getElem? (i := 1) rfl) rfl dX11_endLinks_12 ?_
  refine v_iload_n B dX11_endLinks_15 rfl rfl ?_
  refine v_aald B (k0 := 1) (t0 := 5) (v := .ref (xa 4)) rfl rfl (vpi (by decide +kernel)) rfl dX11_endLinks_16 ?_
  refine v_astore_n B (lv' := [(2, .ref (xa 4)), (1, .int 0), (0, .ref h)]) dX11_endLinks_17 rfl (by decide +kernel) rfl ?_
  refine v_aload_n B dX11_endLinks_18 rfl rfl ?_
  refine v_callVi B (b := (xa 4)) (n := 0) (As := []) (rest := []) (wc := [((xa 4), .inr (3, [.int 0, .long (fa &&& 281474976710655), .int 0, .int 0, .int 0, .int 0, .ref (xa 16), .int 0, .long 0, .ref (xa 17), .long 0, .ref (xa 18), .ref (xa 19), .ref (xa 20), .ref (xa 21), .ref (xa 22), .ref (xa 23), .ref (xa 24), .ref (xa 25)]))]) (wr := [(h, .inr (11, [.ref (xa 0), .ref (xa 1), .ref (xa 2), .ref (xa 3), .int t])), ((xa 0), .inl (K 5, 2, .inr (.inr (.inr (.inr (va_up (va_up (fun _ => none) (0 : Int32).toNatClampNeg (some (xa 4))) (1 : Int32).toNatClampNeg (some (xa 5)))))))), ((xa 5), .inr (3, [.int 1, .long (sa &&& 281474976710655), .int 0, .int 1, .int 0, .int 0, .ref (xa 58), .int 0, .long 0, .ref (xa 59), .long 0, .ref (xa 60), .ref (xa 61), .ref (xa 62), .ref (xa 63), .ref (xa 64), .ref (xa 65), .ref (xa 66), .ref (xa 67)]))]) (x_inLink_0 l D K h xa xf xg fa sa) gd_x_endLinks_x_inLink_0_99 rfl rfl rfl (by decide +kernel) ⟨by decide +kernel, by decide +kernel⟩ 0 rfl rfl rfl (sp_pl [2] [0, 1, 3] rfl rfl rfl rfl rfl) rfl rfl (Nat.le_of_ble_eq_true rfl) dX11_endLinks_19 ⟨by decide +kernel, by decide +kernel⟩ (fun r_3 u_1 hp_2 => ?_)
  subst hp_2
  show V _ _ _ _ _ _ _ _ _ _ _ _ _ _ (0, 0) [(h, .inr (11, [.ref (xa 0), .ref (xa 1), .ref (xa 2), .ref (xa 3), .int t])), ((xa 0), .inl (K 5, 2, .inr (.inr (.inr (.inr (va_up (va_up (fun _ => none) (0 : Int32).toNatClampNeg (some (xa 4))) (1 : Int32).toNatClampNeg (some (xa 5)))))))), ((xa 5), .inr (3, [.int 1, .long (sa &&& 281474976710655), .int 0, .int 1, .int 0, .int 0, .ref (xa 58), .int 0, .long 0, .ref (xa 59), .long 0, .ref (xa 60), .ref (xa 61), .ref (xa 62), .ref (xa 63), .ref (xa 64), .ref (xa 65), .ref (xa 66), .ref (xa 67)])), ((xa 4), .inr (3, [.int 0, .long (fa &&& 281474976710655), .int 0, .int 0, .int 0, .int 0, .ref (xa 16), .int 0, .long 0, .ref (xa 17), .long 0, .ref (xa 18), .ref (xa 19), .ref (xa 20), .ref (xa 21), .ref (xa 22), .ref (xa 23), .ref (xa 24), .ref (xa 25)]))] _ _ [.int 0]
  show V _ _ _ _ _ _ _ _ _ _ _ _ _ _ (0, 0) [(h, .inr (11, [.ref (xa 0), .ref (xa 1), .ref (xa 2), .ref (xa 3), .int t])), ((xa 0), .inl (K 5, 2, .inr (.inr (.inr (.inr (va_up (va_up (fun _ => none) (0 : Int32).toNatClampNeg (some (xa 4))) (1 : Int32).toNatClampNeg (some (xa 5)))))))), ((xa 5), .inr (3, [.int 1, .long (sa &&& 281474976710655), .int 0, .int 1, .int 0, .int 0, .ref (xa 58), .int 0, .long 0, .ref (xa 59), .long 0, .ref (xa 60), .ref (xa 61), .ref (xa 62), .ref (xa 63), .ref (xa 64), .ref (xa 65), .ref (xa 66), .ref (xa 67)])), ((xa 4), .inr (3, [.int 0, .long (fa &&& 281474976710655), .int 0, .int 0, .int 0, .int 0, .ref (xa 16), .int 0, .long 0, .ref (xa 17), .long 0, .ref (xa 18), .ref (xa 19), .ref (xa 20), .ref (xa 21), .ref (xa 22), .ref (xa 23), .ref (xa 24), .ref (xa 25)]))] _ _ _
  refine v_if_eq B (tgt := 39) dX11_endLinks_22 (by decide +kernel) (fun _ => ?_) (fun h => absurd (by decide +kernel) h)
  refine v_iconst B (v := (-1)) dX11_endLinks_39 (by decide +kernel) ?_
  refine v_istore_n B (lv' := [(3, .int (-1)), (2, .ref (xa 4)), (1, .int 0), (0, .ref h)]) dX11_endLinks_40 rfl (by decide +kernel) rfl ?_
  refine v_iload_n B dX11_endLinks_41 rfl rfl ?_
  refine v_iconst B (v := (-1)) dX11_endLinks_42 (by decide +kernel) ?_
  refine v_icmp_eq B (tgt := 51) dX11_endLinks_43 (by decide +kernel) (fun _ => ?_) (fun h => absurd (by decide +kernel) h)
  refine v_iinc B (k := 2) (v := 1) (lv' := [(1, .int 1), (3, .int (-1)), (2, .ref (xa 4)), (0, .ref h)]) dX11_endLinks_51 rfl (by decide +kernel) (by decide +kernel) rfl ?_
  refine v_goto B (tgt := 2) dX11_endLinks_54 (by decide +kernel) ?_
  refine v_iload_n B dX11_endLinks_2 rfl rfl ?_
  refine v_aload_n B dX11_endLinks_3 rfl rfl ?_
  refine v_get B (C := RX11) (T := TX11) (N := 5) (ci := 11) (k0 := 0) hi_x_endLinks_X11 rfl rfl 0 (by decide +kernel) (List.mem_of_getElem? (i := 1) rfl) rfl dX11_endLinks_4 ?_
  refine v_alen B (k0 := 1) (t0 := 5) (v := 2) rfl rfl rfl dX11_endLinks_7 ?_
  refine v_icmp_ge B (tgt := 57) dX11_endLinks_8 (by decide +kernel) (fun h => absurd h (by decide +kernel)) (fun _ => ?_)
  refine v_aload_n B dX11_endLinks_11 rfl rfl ?_
  refine v_get B (C := RX11) (T := TX11) (N := 5) (ci := 11) (k0 := 0) hi_x_endLinks_X11 rfl rfl 0 (by decide +kernel) (List.mem_of_getElem? (i := 1) rfl) rfl dX11_endLinks_12 ?_
  refine v_iload_n B dX11_endLinks_15 rfl rfl ?_
  refine v_aald B (k0 := 1) (t0 := 5) (v := .ref (xa 5)) rfl rfl (vpi (by decide +kernel)) rfl dX11_endLinks_16 ?_
  refine v_astore_n B (lv' := [(2, .ref (xa 5)), (1, .int 1), (3, .int (-1)), (0, .ref h)]) dX11_endLinks_17 rfl (by decide +kernel) rfl ?_
  refine v_aload_n B dX11_endLinks_18 rfl rfl ?_
  refine v_callVi B (b := (xa 5)) (n := 0) (As := []) (rest := []) (wc := [((xa 5), .inr (3, [.int 1, .long (sa &&& 281474976710655), .int 0, .int 1, .int 0, .int 0, .ref (xa 58), .int 0, .long 0, .ref (xa 59), .long 0, .ref (xa 60), .ref (xa 61), .ref (xa 62), .ref (xa 63), .ref (xa 64), .ref (xa 65), .ref (xa 66), .ref (xa 67)]))]) (wr := [(h, .inr (11, [.ref (xa 0), .ref (xa 1), .ref (xa 2), .ref (xa 3), .int t])), ((xa 0), .inl (K 5, 2, .inr (.inr (.inr (.inr (va_up (va_up (fun _ => none) (0 : Int32).toNatClampNeg (some (xa 4))) (1 : Int32).toNatClampNeg (some (xa 5)))))))), ((xa 4), .inr (3, [.int 0, .long (fa &&& 281474976710655), .int 0, .int 0, .int 0, .int 0, .ref (xa 16), .int 0, .long 0, .ref (xa 17), .long 0, .ref (xa 18), .ref (xa 19), .ref (xa 20), .ref (xa 21), .ref (xa 22), .ref (xa 23), .ref (xa 24), .ref (xa 25)]))]) (x_inLink_1 l D K h xa xf xg fa sa) gd_x_endLinks_x_inLink_1_99 rfl rfl rfl (by decide +kernel) ⟨by decide +kernel, by decide +kernel⟩ 0 rfl rfl rfl (sp_pl [2] [0, 1, 3] rfl rfl rfl rfl rfl) rfl rfl (Nat.le_of_ble_eq_true rfl) dX11_endLinks_19 ⟨by decide +kernel, by decide +kernel⟩ (fun r_6 u_4 hp_5 => ?_)
  subst hp_5
  show V _ _ _ _ _ _ _ _ _ _ _ _ _ _ (0, 0) [(h, .inr (11, [.ref (xa 0), .ref (xa 1), .ref (xa 2), .ref (xa 3), .int t])), ((xa 0), .inl (K 5, 2, .inr (.inr (.inr (.inr (va_up (va_up (fun _ => none) (0 : Int32).toNatClampNeg (some (xa 4))) (1 : Int32).toNatClampNeg (some (xa 5)))))))), ((xa 4), .inr (3, [.int 0, .long (fa &&& 281474976710655), .int 0, .int 0, .int 0, .int 0, .ref (xa 16), .int 0, .long 0, .ref (xa 17), .long 0, .ref (xa 18), .ref (xa 19), .ref (xa 20), .ref (xa 21), .ref (xa 22), .ref (xa 23), .ref (xa 24), .ref (xa 25)])), ((xa 5), .inr (3, [.int 1, .long (sa &&& 281474976710655), .int 0, .int 1, .int 0, .int 0, .ref (xa 58), .int 0, .long 0, .ref (xa 59), .long 0, .ref (xa 60), .ref (xa 61), .ref (xa 62), .ref (xa 63), .ref (xa 64), .ref (xa 65), .ref (xa 66), .ref (xa 67)]))] _ _ [.int 0]
  show V _ _ _ _ _ _ _ _ _ _ _ _ _ _ (0, 0) [(h, .inr (11, [.ref (xa 0), .ref (xa 1), .ref (xa 2), .ref (xa 3), .int t])), ((xa 0), .inl (K 5, 2, .inr (.inr (.inr (.inr (va_up (va_up (fun _ => none) (0 : Int32).toNatClampNeg (some (xa 4))) (1 : Int32).toNatClampNeg (some (xa 5)))))))), ((xa 4), .inr (3, [.int 0, .long (fa &&& 281474976710655), .int 0, .int 0, .int 0, .int 0, .ref (xa 16), .int 0, .long 0, .ref (xa 17), .long 0, .ref (xa 18), .ref (xa 19), .ref (xa 20), .ref (xa 21), .ref (xa 22), .ref (xa 23), .ref (xa 24), .ref (xa 25)])), ((xa 5), .inr (3, [.int 1, .long (sa &&& 281474976710655), .int 0, .int 1, .int 0, .int 0, .ref (xa 58), .int 0, .long 0, .ref (xa 59), .long 0, .ref (xa 60), .ref (xa 61), .ref (xa 62), .ref (xa 63), .ref (xa 64), .ref (xa 65), .ref (xa 66), .ref (xa 67)]))] _ _ _
  refine v_if_eq B (tgt := 39) dX11_endLinks_22 (by decide +kernel) (fun _ => ?_) (fun h => absurd (by decide +kernel) h)
  refine v_iconst B (v := (-1)) dX11_endLinks_39 (by decide +kernel) ?_
  refine v_istore_n B (lv' := [(3, .int (-1)), (2, .ref (xa 5)), (1, .int 1), (0, .ref h)]) dX11_endLinks_40 rfl (by decide +kernel) rfl ?_
  refine v_iload_n B dX11_endLinks_41 rfl rfl ?_
  refine v_iconst B (v := (-1)) dX11_endLinks_42 (by decide +kernel) ?_
  refine v_icmp_eq B (tgt := 51) dX11_endLinks_43 (by decide +kernel) (fun _ => ?_) (fun h => absurd (by decide +kernel) h)
  refine v_iinc B (k := 2) (v := 2) (lv' := [(1, .int 2), (3, .int (-1)), (2, .ref (xa 5)), (0, .ref h)]) dX11_endLinks_51 rfl (by decide +kernel) (by decide +kernel) rfl ?_
  refine v_goto B (tgt := 2) dX11_endLinks_54 (by decide +kernel) ?_
  refine v_iload_n B dX11_endLinks_2 rfl rfl ?_
  refine v_aload_n B dX11_endLinks_3 rfl rfl ?_
  refine v_get B (C := RX11) (T := TX11) (N := 5) (ci := 11) (k0 := 0) hi_x_endLinks_X11 rfl rfl 0 (by decide +kernel) (List.mem_of_getElem? (i := 1) rfl) rfl dX11_endLinks_4 ?_
  refine v_alen B (k0 := 1) (t0 := 5) (v := 2) rfl rfl rfl dX11_endLinks_7 ?_
  refine v_icmp_ge B (tgt := 57) dX11_endLinks_8 (by decide +kernel) (fun _ => ?_) (fun h => absurd (by decide +kernel) h)
  exact v_vret B hr hlk () trivial rfl (by decide +kernel) (by decide +kernel) dX11_endLinks_57

