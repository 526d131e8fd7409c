theorem tswD {offs : Array Int} {z lo hi : Int} {pc : Nat} (h : z < lo ∨ hi < z ∨ offs[(z - lo).toNat]? = none ∨ ∃ off : Int, offs[(z - lo).toNat]? = some off ∧ (pc : Int) + off < 0) (hs : hi - lo < offs.size) (hok : ∀ (i : Nat) (off : Int), offs[i]? = some off → 0 ≤ (pc : Int) + off) : z < lo ∨ hi < z := by
  rcases h with q | q | q | ⟨o, q1, q2⟩
  · exact Or.inl q
  · exact Or.inr q
  · have := Array.getElem?_eq_none_iff.mp q
    omega
  · have := hok _ _ q1
    omega
def wp_M_isHandle : List Cond := .code yX12_isHandle cX12_isHandle 3 (some .boolean) :: (([.fieldLink RX12 320 "LowEnergyModel" "attributes" "[I"] : List Cond) ++ (wsX120 ++ ([])))
theorem hi_M_isHandle_X12 : ∀ x ∈ u_ws RX12 TX12 123, x ∈ wp_M_isHandle := fun _ h => List.mem_cons_of_mem _ (List.mem_append_right _ (List.mem_append_left _ h))
set_option maxHeartbeats 4000000 in
set_option maxRecDepth 100000 in
theorem b_M_isHandle {p : Program} {l : Launch} {e : Env} {R : Room} {s : State} {m : MethodId} {args : Array Value} {below : List Frame} {meth : Method} {c : Code} {D : va_G} {K : Nat → ClassId} {A : Nat → Prop} {Q : State → Prop} {τ : Nat → Option Ty} {dom : List Nat} {zb zL : Nat} {zx : Nat → Int32} {zs : Nat → Nat} (hR : 0 ≤ R.frames ∧ 0 ≤ R.locals) (B : Bx p s m args c cX12_isHandle 3 RX12 wp_M_isHandle D (tysA K) A) (Z : Sk τ dom) (hz : ZL zb zL zx zs A s s.heap) (h : Nat) (q : Nat → Nat) (Y : MS τ h q) (d : Int) (x2 : Int) (r_d : 0 ≤ d ∧ d ≤ 1) (r_x2 : -2147483648 ≤ x2 ∧ x2 ≤ 2147483647) (σ0 : Nat → va_E) (G0 : GT K h q σ0) (hend : ∀ (z : Int) (lv : List (Nat × Value)) (pc : Nat), (0 ≤ z ∧ z ≤ 1) → (z = 1 → 1 ≤ x2 ∧ x2 ≤ 20) → decode cX12_isHandle pc = .ok (.ireturn, 1) → V p l e R s m args below meth c 3 D A Q (0, 0) (fd dom σ0) lv pc [.int (iI z)]) : V p l e R s m args below meth c 3 D A Q (0, 0) (fd dom σ0) [(0, .ref h), (1, .int (iI d)), (2, .int (iI x2))] 0 [] := by
  obtain ⟨z1, z2, z3, z4, z5, h6, r7, r8, r9, r10, r11⟩ := G0.o
  refine v_iload_n B dX12_isHandle_0 rfl rfl ?_
  refine u_if_le B (tgt := 18) (by omega) dX12_isHandle_1 (by decide +kernel) (fun c12 => ?_) (fun c12 => ?_)
  · refine v_iconst B (v := iI 0) dX12_isHandle_18 rfl ?_
    exact hend 0 _ _ ⟨by omega, by omega⟩ (fun q => by omega) dX12_isHandle_19
  · refine v_iload_n B dX12_isHandle_4 rfl rfl ?_
    refine v_aload_n B dX12_isHandle_5 rfl rfl ?_
    refine u_get B Z (C := RX12) (T := TX12) (N := 123) (ci := 12) hi_M_isHandle_X12 Y.o h6 rfl 100 (by decide +kernel) (List.mem_of_getElem? (i := 1) rfl) rfl dX12_isHandle_6 ?_
    refine v_iload_n B dX12_isHandle_9 rfl rfl ?_
    obtain ⟨f13, h14, e15⟩ := ga_100 G0
    obtain ⟨z16, e17, r18⟩ := e15 (d : Int).toNat
    refine u_iald B Z (t0 := 0) (ym_100 Y) h14 rfl (by omega) e17 dX12_isHandle_10 ?_
    refine u_icmp_gt B (tgt := 18) (by omega) (by omega) dX12_isHandle_11 (by decide +kernel) (fun c19 => ?_) (fun c19 => ?_)
    · refine v_iconst B (v := iI 0) dX12_isHandle_18 rfl ?_
      exact hend 0 _ _ ⟨by omega, by omega⟩ (fun q => by omega) dX12_isHandle_19
    · refine v_iconst B (v := iI 1) dX12_isHandle_14 rfl ?_
      refine v_goto B (tgt := 19) dX12_isHandle_15 (by decide +kernel) ?_
      exact hend 1 _ _ ⟨by omega, by omega⟩ (fun q => by omega) dX12_isHandle_19
set_option maxRecDepth 100000 in
theorem c_M_isHandle (l : Launch) (D : va_G) (K : Nat → ClassId) {τ : Nat → Option Ty} {dom : List Nat} (Z : Sk τ dom) (zb zL : Nat) (zx : Nat → Int32) (zs : Nat → Nat) (h : Nat) (q : Nat → Nat) (Y : MS τ h q) (d : Int) (x2 : Int) (r_d : 0 ≤ d ∧ d ≤ 1) (r_x2 : -2147483648 ≤ x2 ∧ x2 ≤ 2147483647) (σ0 : Nat → va_E) (G0 : GT K h q σ0) : MZ l yX12_isHandle wp_M_isHandle ({ frames := 0, cells := 0, slots := 0, locals := 0 }) D (tysA K) [.ref h, .int (iI d), .int (iI x2)] (fd dom σ0) zb zL zx zs (Qi D (fun r σ' => σ0 = σ' ∧ ∃ z : Int, r = iI z ∧ (0 ≤ z ∧ z ≤ 1) ∧ (z = 1 → 1 ≤ x2 ∧ x2 ≤ 20)) (fun σ' => fd dom σ')) 0 0 := by
  refine mz_of (cc := cX12_isHandle) (maxL := 3) (ret := (some .boolean)) (by decide +kernel) rfl (Nat.le_of_ble_eq_true rfl) ?_
  intro p e s m below meth c A B hr hlk _ hz
  exact b_M_isHandle ⟨Nat.le_refl _, Nat.le_refl _⟩ B Z hz h q Y d x2 r_d r_x2 σ0 G0 (fun z lv pc hZ hP hd => v_zret B hr hlk (nar01 (by omega)) σ0 ⟨rfl, z, rfl, hZ, hP⟩ rfl (Nat.le_refl _) (Nat.le_refl _) hd)

def wp_M_row : List Cond := .code yX12_row cX12_row 3 (some .int) :: (([] : List Cond) ++ ([]))
set_option maxHeartbeats 4000000 in
set_option maxRecDepth 100000 in
theorem b_M_row {p : Program} {l : Launch} {e : Env} {R : Room} {s : State} {m : MethodId} {args : Array Value} {below : List Frame} {meth : Method} {c : Code} {D : va_G} {K : Nat → ClassId} {A : Nat → Prop} {Q : State → Prop} {τ : Nat → Option Ty} {dom : List Nat} {zb zL : Nat} {zx : Nat → Int32} {zs : Nat → Nat} (hR : 0 ≤ R.frames ∧ 0 ≤ R.locals) (B : Bx p s m args c cX12_row 3 RX12 wp_M_row D (tysA K) A) (Z : Sk τ dom) (hz : ZL zb zL zx zs A s s.heap) (h : Nat) (q : Nat → Nat) (Y : MS τ h q) (d : Int) (x2 : Int) (r_d : 0 ≤ d ∧ d ≤ 1) (r_x2 : 1 ≤ x2 ∧ x2 ≤ 20) (σ0 : Nat → va_E) (G0 : GT K h q σ0) (hend : ∀ (z : Int) (lv : List (Nat × Value)) (pc : Nat), (0 ≤ z ∧ z ≤ 39) → (z = 20 * d + x2 + (-1)) → decode cX12_row pc = .ok (.ireturn, 1) → V p l e R s m args below meth c 3 D A Q (0, 0) (fd dom σ0) lv pc [.int (iI z)]) : V p l e R s m args below meth c 3 D A Q (0, 0) (fd dom σ0) [(0, .ref h), (1, .int (iI d)), (2, .int (iI x2))] 0 [] := by
  obtain ⟨z1, z2, z3, z4, z5, h6, r7, r8, r9, r10, r11⟩ := G0.o
  refine v_bipush B (v := iI 20) dX12_row_0 (by decide +kernel) ?_
  refine v_iload_n B dX12_row_2 rfl rfl ?_
  refine v_imul B (v := iI (20 * d)) dX12_row_3 ((iI_mul _ _).trans (congrArg iI (by omega))) ?_
  refine v_iload_n B dX12_row_4 rfl rfl ?_
  refine v_iadd B (v := iI (20 * d + x2)) dX12_row_5 ((iI_add _ _).trans (congrArg iI (by omega))) ?_
  refine v_iconst B (v := iI 1) dX12_row_6 rfl ?_
  refine v_isub B (v := iI (20 * d + x2 + (-1))) dX12_row_7 ((iI_sub _ _).trans (congrArg iI (by omega))) ?_
  exact hend (20 * d + x2 + (-1)) _ _ ⟨by omega, by omega⟩ (by omega) dX12_row_8
set_option maxRecDepth 100000 in
theorem c_M_row (l : Launch) (D : va_G) (K : Nat → ClassId) {τ : Nat → Option Ty} {dom : List Nat} (Z : Sk τ dom) (zb zL : Nat) (zx : Nat → Int32) (zs : Nat → Nat) (h : Nat) (q : Nat → Nat) (Y : MS τ h q) (d : Int) (x2 : Int) (r_d : 0 ≤ d ∧ d ≤ 1) (r_x2 : 1 ≤ x2 ∧ x2 ≤ 20) (σ0 : Nat → va_E) (G0 : GT K h q σ0) : MZ l yX12_row wp_M_row ({ frames := 0, cells := 0, slots := 0, locals := 0 }) D (tysA K) [.ref h, .int (iI d), .int (iI x2)] (fd dom σ0) zb zL zx zs (Qi D (fun r σ' => σ0 = σ' ∧ ∃ z : Int, r = iI z ∧ (0 ≤ z ∧ z ≤ 39) ∧ (z = 20 * d + x2 + (-1))) (fun σ' => fd dom σ')) 0 0 := by
  refine mz_of (cc := cX12_row) (maxL := 3) (ret := (some .int)) (by decide +kernel) rfl (Nat.le_of_ble_eq_true rfl) ?_
  intro p e s m below meth c A B hr hlk _ hz
  exact b_M_row ⟨Nat.le_refl _, Nat.le_refl _⟩ B Z hz h q Y d x2 r_d r_x2 σ0 G0 (fun z lv pc hZ hP hd => v_iret B hr hlk σ0 ⟨rfl, z, rfl, hZ, hP⟩ rfl (Nat.le_refl _) (Nat.le_refl _) hd)

def wp_M_error : List Cond := .code yX12_error cX12_error 5 none :: (([.fieldLink RX12 290 "LowEnergyModel" "said" "[B", .methodLink RX12 432 yX12_number, .static yX12_number, .initialized RX12, .code yX12_number cX12_number 6 none, .methodLink RX12 527 yX12_says, .instanceMethod yX12_says, .selects RX12 yX12_says yX12_says, .code yX12_says cX12_says 5 none, .fieldLink RX12 275 "LowEnergyModel" "messages" "[I", .fieldLink RX12 266 "LowEnergyModel" "message" "[B", .methodLink RX12 29 yX12_copy, .static yX12_copy, .code yX12_copy cX12_copy 6 none, .fieldLink RX12 272 "LowEnergyModel" "messageMany" "[I"] : List Cond) ++ (wsX120 ++ ([])))
theorem hi_M_error_X12 : ∀ x ∈ u_ws RX12 TX12 123, x ∈ wp_M_error := fun _ h => List.mem_cons_of_mem _ (List.mem_append_right _ (List.mem_append_left _ h))
set_option maxRecDepth 100000 in
theorem gd_M_error_M_numberP_432 : GoodIn wp_M_error (va_wsS RX12 432 yX12_number wp_M_numberP) := goodIn_app (goodIn_r _ [2, 3, 4] rfl rfl) (goodIn_ca (goodIn_r _ [5] rfl rfl) (goodIn_nil))
set_option maxRecDepth 100000 in
theorem gd_M_error_M_says_527 : GoodIn wp_M_error (wsV RX12 527 RX12 yX12_says wp_M_says) := goodIn_app (goodIn_r _ [6, 7, 8, 4] rfl rfl) (goodIn_ca (goodIn_r _ [9, 10, 11, 2, 3, 4, 5, 1, 12, 13, 14, 15] rfl rfl) (goodIn_app (goodIn_cls hi_M_error_X12 gw_X12) (goodIn_nil)))
set_option maxHeartbeats 4000000 in
set_option maxRecDepth 100000 in
theorem b_M_error {p : Program} {l : Launch} {e : Env} {R : Room} {s : State} {m : MethodId} {args : Array Value} {below : List Frame} {meth : Method} {c : Code} {D : va_G} {K : Nat → ClassId} {A : Nat → Prop} {Q : State → Prop} {τ : Nat → Option Ty} {dom : List Nat} {zb zL : Nat} {zx : Nat → Int32} {zs : Nat → Nat} (hR : 2 ≤ R.frames ∧ 49 ≤ R.locals) (B : Bx p s m args c cX12_error 5 RX12 wp_M_error D (tysA K) A) (Z : Sk τ dom) (hz : ZL zb zL zx zs A s s.heap) (h : Nat) (q : Nat → Nat) (Y : MS τ h q) (d : Int) (x2 : Int) (x3 : Int) (x4 : Int) (r_d : 0 ≤ d ∧ d ≤ 1) (r_x2 : -2147483648 ≤ x2 ∧ x2 ≤ 2147483647) (r_x3 : -2147483648 ≤ x3 ∧ x3 ≤ 2147483647) (r_x4 : -2147483648 ≤ x4 ∧ x4 ≤ 2147483647) (σ0 : Nat → va_E) (G0 : GM K h q σ0) (hM : At σ0 (q 85) (d : Int).toNat (0) (7)) (hend : ∀ (σ' : Nat → va_E) (lv : List (Nat × Value)) (pc : Nat), GM K h q σ' → Fr τ [(190, 0), (182, 0), (184, 0), (185, 0)] σ0 σ' → decode cX12_error pc = .ok (.return_, 1) → V p l e R s m args below meth c 5 D A Q (0, 0) (fd dom σ') lv pc []) : V p l e R s m args below meth c 5 D A Q (0, 0) (fd dom σ0) [(0, .ref h), (1, .int (iI d)), (2, .int (iI x2)), (3, .int (iI x3)), (4, .int (iI x4))] 0 [] := by
  have F0 : Fr τ [(190, 0), (182, 0), (184, 0), (185, 0)] σ0 σ0 := Fr.rf
  obtain ⟨z1, z2, z3, z4, z5, h6, r7, r8, r9, r10, r11⟩ := G0.t.o
  obtain ⟨f12, h13, e14⟩ := ga_85 G0.t
  obtain ⟨z15, e16, r17⟩ := e14 (d : Int).toNat
  have r18 := hM.use h13 e16 (by omega)
  refine v_aload_n B dX12_error_0 rfl rfl ?_
  refine u_get B Z (C := RX12) (T := TX12) (N := 123) (ci := 12) hi_M_error_X12 Y.o h6 rfl 90 (by decide +kernel) (List.mem_of_getElem? (i := 1) rfl) rfl dX12_error_1 ?_
  refine v_iconst B (v := iI 0) dX12_error_4 rfl ?_
  refine v_iconst B (v := iI 1) dX12_error_5 rfl ?_
  obtain ⟨f19, h20, e21⟩ := ga_90 G0.t
  refine u_bast B Z (t0 := 2) (x := iI 1) (y := iI 1) (ym_90 Y) h20 rfl (by omega) (nar8 (by omega)) dX12_error_6 (fun σ22 h23 n24 => ?_)
  have F25 := F0.put (ym_90 Y) (by simp) n24
  have G26 := gp_90 Y G0 ⟨_, h23, el_upd (z := 1) e21 ⟨by omega, by omega⟩ _⟩ n24
  refine v_aload_n B dX12_error_7 rfl rfl ?_
  have h27 := (n24 h (ne_ty Y.o (ym_90 Y) (by decide))).trans (h6)
  refine u_get B Z (C := RX12) (T := TX12) (N := 123) (ci := 12) hi_M_error_X12 Y.o h27 rfl 90 (by decide +kernel) (List.mem_of_getElem? (i := 1) rfl) rfl dX12_error_8 ?_
  refine v_iconst B (v := iI 1) dX12_error_11 rfl ?_
  refine v_iload_n B dX12_error_12 rfl rfl ?_
  obtain ⟨z28, e29, r30⟩ := iI_i8 x2
  refine v_i2b B (v := iI z28) dX12_error_13 e29 ?_
  obtain ⟨f31, h32, e33⟩ := ga_90 G26.t
  refine u_bast B Z (t0 := 2) (x := iI z28) (y := iI z28) (ym_90 Y) h32 rfl (by omega) (nar8 (by omega)) dX12_error_14 (fun σ34 h35 n36 => ?_)
  have F37 := F25.put (ym_90 Y) (by simp) n36
  have G38 := gp_90 Y G26 ⟨_, h35, el_upd (z := z28) e33 ⟨by omega, by omega⟩ _⟩ n36
  refine v_aload_n B dX12_error_15 rfl rfl ?_
  have h39 := (n36 h (ne_ty Y.o (ym_90 Y) (by decide))).trans (h27)
  refine u_get B Z (C := RX12) (T := TX12) (N := 123) (ci := 12) hi_M_error_X12 Y.o h39 rfl 90 (by decide +kernel) (List.mem_of_getElem? (i := 1) rfl) rfl dX12_error_16 ?_
  refine v_iconst B (v := iI 2) dX12_error_19 rfl ?_
  refine v_iload_n B dX12_error_20 rfl rfl ?_
  refine v_i2l B (v := lI x3) dX12_error_21 (lI_i (by omega)) ?_
  refine v_iconst B (v := iI 2) dX12_error_22 rfl ?_
  refine u_callSv B Z hz (n := 4) (As := [.ref (q 90), .int (iI 2), .long (lI x3), .int (iI 2)]) (rest := []) (c_M_numberP l D K Z _ _ _ _ h q Y 90 96 2 x3 2 rfl ⟨by omega, by omega⟩ ⟨by omega, by omega⟩ ⟨by omega, by omega⟩ σ34 G38 (by omega)) gd_M_error_M_numberP_432 rfl rfl rfl (by decide +kernel) ⟨Nat.le_trans (by decide +kernel) hR.1, Nat.le_trans (by decide +kernel) hR.2⟩ rfl rfl (Nat.le_of_ble_eq_true rfl) dX12_error_23 ⟨Nat.zero_le _, Nat.zero_le _⟩ (fun σ40 p41 => ?_)
  obtain ⟨G43, F44⟩ := p41
  have F45 := F37.call F44 (by first | rfl | simp)
  refine v_aload_n B dX12_error_26 rfl rfl ?_
  have h46 := (F44 h _ Y.o (by first | rfl | simp)).trans (h39)
  refine u_get B Z (C := RX12) (T := TX12) (N := 123) (ci := 12) hi_M_error_X12 Y.o h46 rfl 90 (by decide +kernel) (List.mem_of_getElem? (i := 1) rfl) rfl dX12_error_27 ?_
  refine v_iconst B (v := iI 4) dX12_error_30 rfl ?_
  refine v_iload B dX12_error_31 rfl ?_
  obtain ⟨z47, e48, r49⟩ := iI_i8 x4
  refine v_i2b B (v := iI z47) dX12_error_33 e48 ?_
  obtain ⟨f50, h51, e52⟩ := ga_90 G43.t
  refine u_bast B Z (t0 := 2) (x := iI z47) (y := iI z47) (ym_90 Y) h51 rfl (by omega) (nar8 (by omega)) dX12_error_34 (fun σ53 h54 n55 => ?_)
  have F56 := F45.put (ym_90 Y) (by simp) n55
  have G57 := gp_90 Y G43 ⟨_, h54, el_upd (z := z47) e52 ⟨by omega, by omega⟩ _⟩ n55
  refine v_aload_n B dX12_error_35 rfl rfl ?_
  refine v_iload_n B dX12_error_36 rfl rfl ?_
  refine v_iconst B (v := iI 4) dX12_error_37 rfl ?_
  refine v_iconst B (v := iI 5) dX12_error_38 rfl ?_
  have h58 := (n55 (q 85) (ne_ty (ym_85 Y) (ym_90 Y) (by decide))).trans ((F44 (q 85) _ (ym_85 Y) (by first | rfl | simp)).trans ((n36 (q 85) (ne_ty (ym_85 Y) (ym_90 Y) (by decide))).trans ((n24 (q 85) (ne_ty (ym_85 Y) (ym_90 Y) (by decide))).trans (h13))))
  refine u_callVv B Z hz (n := 3) (As := [.int (iI d), .int (iI 4), .int (iI 5)]) (rest := []) (c_M_says l D K Z _ _ _ _ h q Y d 4 5 ⟨by omega, by omega⟩ ⟨by omega, by omega⟩ ⟨by omega, by omega⟩ σ53 G57 (At.mk h58 e16 (by omega) ⟨by omega, by omega⟩) (by omega)) gd_M_error_M_says_527 rfl rfl rfl (by decide +kernel) ⟨Nat.le_trans (by decide +kernel) hR.1, Nat.le_trans (by decide +kernel) hR.2⟩ Y.o (clsM G57.t) rfl rfl rfl rfl (Nat.le_of_ble_eq_true rfl) dX12_error_39 ⟨Nat.zero_le _, Nat.zero_le _⟩ (fun σ59 p60 => ?_)
  obtain ⟨G62, F63⟩ := p60
  have F64 := F56.call F63 (by first | rfl | simp)
  exact hend σ59 _ _ G62 F64 dX12_error_42
set_option maxRecDepth 100000 in
theorem c_M_error (l : Launch) (D : va_G) (K : Nat → ClassId) {τ : Nat → Option Ty} {dom : List Nat} (Z : Sk τ dom) (zb zL : Nat) (zx : Nat → Int32) (zs : Nat → Nat) (h : Nat) (q : Nat → Nat) (Y : MS τ h q) (d : Int) (x2 : Int) (x3 : Int) (x4 : Int) (r_d : 0 ≤ d ∧ d ≤ 1) (r_x2 : -2147483648 ≤ x2 ∧ x2 ≤ 2147483647) (r_x3 : -2147483648 ≤ x3 ∧ x3 ≤ 2147483647) (r_x4 : -2147483648 ≤ x4 ∧ x4 ≤ 2147483647) (σ0 : Nat → va_E) (G0 : GM K h q σ0) (hM : At σ0 (q 85) (d : Int).toNat (0) (7)) : MZ l yX12_error wp_M_error ({ frames := 2, cells := 0, slots := 0, locals := 49 }) D (tysA K) [.ref h, .int (iI d), .int (iI x2), .int (iI x3), .int (iI x4)] (fd dom σ0) zb zL zx zs (Qv D (fun σ' => GM K h q σ' ∧ Fr τ [(190, 0), (182, 0), (184, 0), (185, 0)] σ0 σ') (fun σ' => fd dom σ')) 0 0 := by
  refine mz_of (cc := cX12_error) (maxL := 5) (ret := none) (by decide +kernel) rfl (Nat.le_of_ble_eq_true rfl) ?_
  intro p e s m below meth c A B hr hlk _ hz
  exact b_M_error ⟨Nat.le_refl _, Nat.le_refl _⟩ B Z hz h q Y d x2 x3 x4 r_d r_x2 r_x3 r_x4 σ0 G0 hM (fun σ' lv pc G F hd => v_vret B hr hlk σ' ⟨G, F⟩ rfl (Nat.le_refl _) (Nat.le_refl _) hd)

def wp_M_lacks : List Cond := .code yX12_lacks cX12_lacks 5 (some .int) :: (([.fieldLink RX12 326 "LowEnergyModel" "rights" "[I", .methodLink RX12 547 yX12_row, .instanceMethod yX12_row, .selects RX12 yX12_row yX12_row, .initialized RX12, .code yX12_row cX12_row 3 (some .int), .fieldLink RX12 239 "LowEnergyModel" "isSecure" "[Z"] : List Cond) ++ (wsX120 ++ ([])))
theorem hi_M_lacks_X12 : ∀ x ∈ u_ws RX12 TX12 123, x ∈ wp_M_lacks := fun _ h => List.mem_cons_of_mem _ (List.mem_append_right _ (List.mem_append_left _ h))
set_option maxRecDepth 100000 in
theorem gd_M_lacks_M_row_547 : GoodIn wp_M_lacks (wsV RX12 547 RX12 yX12_row wp_M_row) := goodIn_app (goodIn_r _ [2, 3, 4, 5] rfl rfl) (goodIn_ca (goodIn_r _ [6] rfl rfl) (goodIn_nil))
set_option maxHeartbeats 4000000 in
set_option maxRecDepth 100000 in
theorem b_M_lacks {p : Program} {l : Launch} {e : Env} {R : Room} {s : State} {m : MethodId} {args : Array Value} {below : List Frame} {meth : Method} {c : Code} {D : va_G} {K : Nat → ClassId} {A : Nat → Prop} {Q : State → Prop} {τ : Nat → Option Ty} {dom : List Nat} {zb zL : Nat} {zx : Nat → Int32} {zs : Nat → Nat} (hR : 1 ≤ R.frames ∧ 22 ≤ R.locals) (B : Bx p s m args c cX12_lacks 5 RX12 wp_M_lacks D (tysA K) A) (Z : Sk τ dom) (hz : ZL zb zL zx zs A s s.heap) (h : Nat) (q : Nat → Nat) (Y : MS τ h q) (d : Int) (x2 : Int) (x3 : Int) (r_d : 0 ≤ d ∧ d ≤ 1) (r_x2 : 1 ≤ x2 ∧ x2 ≤ 20) (r_x3 : 1 ≤ x3 ∧ x3 ≤ 2) (σ0 : Nat → va_E) (G0 : GT K h q σ0) (hend : ∀ (z : Int) (lv : List (Nat × Value)) (pc : Nat), (0 ≤ z ∧ z ≤ 5) → decode cX12_lacks pc = .ok (.ireturn, 1) → V p l e R s m args below meth c 5 D A Q (0, 0) (fd dom σ0) lv pc [.int (iI z)]) : V p l e R s m args below meth c 5 D A Q (0, 0) (fd dom σ0) [(0, .ref h), (1, .int (iI d)), (2, .int (iI x2)), (3, .int (iI x3))] 0 [] := by
  obtain ⟨z1, z2, z3, z4, z5, h6, r7, r8, r9, r10, r11⟩ := G0.o
  refine v_aload_n B dX12_lacks_0 rfl rfl ?_
  refine u_get B Z (C := RX12) (T := TX12) (N := 123) (ci := 12) hi_M_lacks_X12 Y.o h6 rfl 102 (by decide +kernel) (List.mem_of_getElem? (i := 1) rfl) rfl dX12_lacks_1 ?_
  refine v_aload_n B dX12_lacks_4 rfl rfl ?_
  refine v_iload_n B dX12_lacks_5 rfl rfl ?_
  refine v_iload_n B dX12_lacks_6 rfl rfl ?_
  refine u_callVi B Z hz (n := 2) (As := [.int (iI d), .int (iI x2)]) (rest := [.ref (q 102)]) (c_M_row l D K Z _ _ _ _ h q Y d x2 ⟨by omega, by omega⟩ ⟨by omega, by omega⟩ σ0 (G0)) gd_M_lacks_M_row_547 rfl rfl rfl (by decide +kernel) ⟨Nat.le_trans (by decide +kernel) hR.1, Nat.le_trans (by decide +kernel) hR.2⟩ Y.o (clsM G0) rfl rfl rfl rfl (Nat.le_of_ble_eq_true rfl) dX12_lacks_7 ⟨Nat.zero_le _, Nat.zero_le _⟩ (fun v14 σ12 p13 => ?_)
  obtain ⟨rfl, z15, e16, r17, po18⟩ := p13
  subst e16
  subst po18
  show V _ _ _ _ _ _ _ _ _ _ _ _ _ _ _ _ _ _ [.int (iI (20 * d + x2 + (-1))), .ref (q 102)]
  obtain ⟨f19, h20, e21⟩ := ga_102 G0
  obtain ⟨z22, e23, r24⟩ := e21 ((20 * d + x2 + (-1)) : Int).toNat
  refine u_iald B Z (t0 := 0) (ym_102 Y) h20 rfl (by omega) e23 dX12_lacks_10 ?_
  refine v_istore B (lv' := [(4, .int (iI z22)), (0, .ref h), (1, .int (iI d)), (2, .int (iI x2)), (3, .int (iI x3))]) dX12_lacks_11 (by decide +kernel) rfl ?_
  refine v_iload B dX12_lacks_13 rfl ?_
  refine v_iload_n B dX12_lacks_15 rfl rfl ?_
  obtain ⟨z25, e26, r27⟩ := iI_any (iI z22 &&& iI x3)
  refine v_iand B (v := iI z25) dX12_lacks_16 e26 ?_
  refine u_if_ne B (tgt := 24) (by omega) dX12_lacks_17 (by decide +kernel) (fun c28 => ?_) (fun c28 => ?_)
  · refine v_iload B dX12_lacks_24 rfl ?_
    refine v_iconst B (v := iI 4) dX12_lacks_26 rfl ?_
    obtain ⟨z29, e30, r31⟩ := iI_and z22 (c := 4) (by decide) (by decide)
    refine v_iand B (v := iI z29) dX12_lacks_27 e30 ?_
    refine u_if_eq B (tgt := 44) (by omega) dX12_lacks_28 (by decide +kernel) (fun c32 => ?_) (fun c32 => ?_)
    · refine v_iconst B (v := iI 0) dX12_lacks_44 rfl ?_
      exact hend 0 _ _ ⟨by omega, by omega⟩ dX12_lacks_45
    · refine v_aload_n B dX12_lacks_31 rfl rfl ?_
      refine u_get B Z (C := RX12) (T := TX12) (N := 123) (ci := 12) hi_M_lacks_X12 Y.o h6 rfl 73 (by decide +kernel) (List.mem_of_getElem? (i := 7) rfl) rfl dX12_lacks_32 ?_
      refine v_iload_n B dX12_lacks_35 rfl rfl ?_
      obtain ⟨f33, h34, e35⟩ := ga_73 G0
      obtain ⟨z36, e37, r38⟩ := e35 (d : Int).toNat
      refine u_zald B Z (t0 := 3) (ym_73 Y) h34 rfl (by omega) e37 dX12_lacks_36 ?_
      refine u_if_ne B (tgt := 44) (by omega) dX12_lacks_37 (by decide +kernel) (fun c39 => ?_) (fun c39 => ?_)
      · refine v_iconst B (v := iI 0) dX12_lacks_44 rfl ?_
        exact hend 0 _ _ ⟨by omega, by omega⟩ dX12_lacks_45
      · refine v_iconst B (v := iI 5) dX12_lacks_40 rfl ?_
        refine v_goto B (tgt := 45) dX12_lacks_41 (by decide +kernel) ?_
        exact hend 5 _ _ ⟨by omega, by omega⟩ dX12_lacks_45
  · refine v_iload_n B dX12_lacks_20 rfl rfl ?_
    refine v_iconst B (v := iI 1) dX12_lacks_21 rfl ?_
    refine v_iadd B (v := iI (x3 + 1)) dX12_lacks_22 ((iI_add _ _).trans (congrArg iI (by omega))) ?_
    exact hend (x3 + 1) _ _ ⟨by omega, by omega⟩ dX12_lacks_23
set_option maxRecDepth 100000 in
theorem c_M_lacks (l : Launch) (D : va_G) (K : Nat → ClassId) {τ : Nat → Option Ty} {dom : List Nat} (Z : Sk τ dom) (zb zL : Nat) (zx : Nat → Int32) (zs : Nat → Nat) (h : Nat) (q : Nat → Nat) (Y : MS τ h q) (d : Int) (x2 : Int) (x3 : Int) (r_d : 0 ≤ d ∧ d ≤ 1) (r_x2 : 1 ≤ x2 ∧ x2 ≤ 20) (r_x3 : 1 ≤ x3 ∧ x3 ≤ 2) (σ0 : Nat → va_E) (G0 : GT K h q σ0) : MZ l yX12_lacks wp_M_lacks ({ frames := 1, cells := 0, slots := 0, locals := 22 }) D (tysA K) [.ref h, .int (iI d), .int (iI x2), .int (iI x3)] (fd dom σ0) zb zL zx zs (Qi D (fun r σ' => σ0 = σ' ∧ ∃ z : Int, r = iI z ∧ (0 ≤ z ∧ z ≤ 5)) (fun σ' => fd dom σ')) 0 0 := by
  refine mz_of (cc := cX12_lacks) (maxL := 5) (ret := (some .int)) (by decide +kernel) rfl (Nat.le_of_ble_eq_true rfl) ?_
  intro p e s m below meth c A B hr hlk _ hz
  exact b_M_lacks ⟨Nat.le_refl _, Nat.le_refl _⟩ B Z hz h q Y d x2 x3 r_d r_x2 r_x3 σ0 G0 (fun z lv pc hZ hd => v_iret B hr hlk σ0 ⟨rfl, z, rfl, hZ⟩ rfl (Nat.le_refl _) (Nat.le_refl _) hd)

def wp_M_endOf : List Cond := .code yX12_endOf cX12_endOf 4 (some .int) :: (([.fieldLink RX12 320 "LowEnergyModel" "attributes" "[I", .fieldLink RX12 323 "LowEnergyModel" "type" "[I", .methodLink RX12 547 yX12_row, .instanceMethod yX12_row, .selects RX12 yX12_row yX12_row, .initialized RX12, .code yX12_row cX12_row 3 (some .int)] : List Cond) ++ (wsX120 ++ ([])))
theorem hi_M_endOf_X12 : ∀ x ∈ u_ws RX12 TX12 123, x ∈ wp_M_endOf := fun _ h => List.mem_cons_of_mem _ (List.mem_append_right _ (List.mem_append_left _ h))
set_option maxRecDepth 100000 in
theorem gd_M_endOf_M_row_547 : GoodIn wp_M_endOf (wsV RX12 547 RX12 yX12_row wp_M_row) := goodIn_app (goodIn_r _ [3, 4, 5, 6] rfl rfl) (goodIn_ca (goodIn_r _ [7] rfl rfl) (goodIn_nil))
set_option maxHeartbeats 4000000 in
set_option maxRecDepth 100000 in
theorem b_M_endOf {p : Program} {l : Launch} {e : Env} {R : Room} {s : State} {m : MethodId} {args : Array Value} {below : List Frame} {meth : Method} {c : Code} {D : va_G} {K : Nat → ClassId} {A : Nat → Prop} {Q : State → Prop} {τ : Nat → Option Ty} {dom : List Nat} {zb zL : Nat} {zx : Nat → Int32} {zs : Nat → Nat} (hR : 1 ≤ R.frames ∧ 22 ≤ R.locals) (B : Bx p s m args c cX12_endOf 4 RX12 wp_M_endOf D (tysA K) A) (Z : Sk τ dom) (hz : ZL zb zL zx zs A s s.heap) (h : Nat) (q : Nat → Nat) (Y : MS τ h q) (d : Int) (x2 : Int) (r_d : 0 ≤ d ∧ d ≤ 1) (r_x2 : 1 ≤ x2 ∧ x2 ≤ 20) (σ0 : Nat → va_E) (G0 : GT K h q σ0) (hend : ∀ (z : Int) (lv : List (Nat × Value)) (pc : Nat), (0 ≤ z ∧ z ≤ 20) → decode cX12_endOf pc = .ok (.ireturn, 1) → V p l e R s m args below meth c 4 D A Q (0, 0) (fd dom σ0) lv pc [.int (iI z)]) : V p l e R s m args below meth c 4 D A Q (0, 0) (fd dom σ0) [(0, .ref h), (1, .int (iI d)), (2, .int (iI x2))] 0 [] := by
  obtain ⟨z1, z2, z3, z4, z5, h6, r7, r8, r9, r10, r11⟩ := G0.o
  have J4 : ∀ (k4 : Nat) (z4_3 : Int), (2147483648 - z4_3).toNat ≤ k4 → (2 ≤ z4_3 ∧ z4_3 ≤ 21) → V p l e R s m args below meth c 4 D A Q (0, 0) (fd dom σ0) [(0, .ref h), (1, .int (iI d)), (3, .int (iI z4_3))] 4 [] := by
    intro k4
    induction k4 with
    | zero => intro z4_3 m4 r4_3; omega
    | succ k4 IH4 =>
      intro z4_3 m4 r4_3
      have J48 : (2 ≤ z4_3 ∧ z4_3 ≤ 20) → V p l e R s m args below meth c 4 D A Q (0, 0) (fd dom σ0) [(3, .int (iI z4_3))] 48 [] := by
        intro rv48_z4_3
        refine v_iload_n B dX12_endOf_48 rfl rfl ?_
        refine v_iconst B (v := iI 1) dX12_endOf_49 rfl ?_
        refine v_isub B (v := iI (z4_3 + (-1))) dX12_endOf_50 ((iI_sub _ _).trans (congrArg iI (by omega))) ?_
        exact hend (z4_3 + (-1)) _ _ ⟨by omega, by omega⟩ dX12_endOf_51
      refine v_iload_n B dX12_endOf_4 rfl rfl ?_
      refine v_aload_n B dX12_endOf_5 rfl rfl ?_
      refine u_get B Z (C := RX12) (T := TX12) (N := 123) (ci := 12) hi_M_endOf_X12 Y.o h6 rfl 100 (by decide +kernel) (List.mem_of_getElem? (i := 1) rfl) rfl dX12_endOf_6 ?_
      refine v_iload_n B dX12_endOf_9 rfl rfl ?_
      obtain ⟨f12, h13, e14⟩ := ga_100 G0
      obtain ⟨z15, e16, r17⟩ := e14 (d : Int).toNat
      refine u_iald B Z (t0 := 0) (ym_100 Y) h13 rfl (by omega) e16 dX12_endOf_10 ?_
      refine u_icmp_gt B (tgt := 58) (by omega) (by omega) dX12_endOf_11 (by decide +kernel) (fun c18 => ?_) (fun c18 => ?_)
      · refine v_aload_n B dX12_endOf_58 rfl rfl ?_
        refine u_get B Z (C := RX12) (T := TX12) (N := 123) (ci := 12) hi_M_endOf_X12 Y.o h6 rfl 100 (by decide +kernel) (List.mem_of_getElem? (i := 1) rfl) rfl dX12_endOf_59 ?_
        refine v_iload_n B dX12_endOf_62 rfl rfl ?_
        refine u_iald B Z (t0 := 0) (ym_100 Y) h13 rfl (by omega) e16 dX12_endOf_63 ?_
        exact hend z15 _ _ ⟨by omega, by omega⟩ dX12_endOf_64
      · refine v_aload_n B dX12_endOf_14 rfl rfl ?_
        refine u_get B Z (C := RX12) (T := TX12) (N := 123) (ci := 12) hi_M_endOf_X12 Y.o h6 rfl 101 (by decide +kernel) (List.mem_of_getElem? (i := 2) rfl) rfl dX12_endOf_15 ?_
        refine v_aload_n B dX12_endOf_18 rfl rfl ?_
        refine v_iload_n B dX12_endOf_19 rfl rfl ?_
        refine v_iload_n B dX12_endOf_20 rfl rfl ?_
        refine u_callVi B Z hz (n := 2) (As := [.int (iI d), .int (iI z4_3)]) (rest := [.ref (q 101)]) (c_M_row l D K Z _ _ _ _ h q Y d z4_3 ⟨by omega, by omega⟩ ⟨by omega, by omega⟩ σ0 (G0)) gd_M_endOf_M_row_547 rfl rfl rfl (by decide +kernel) ⟨Nat.le_trans (by decide +kernel) hR.1, Nat.le_trans (by decide +kernel) hR.2⟩ Y.o (clsM G0) rfl rfl rfl rfl (Nat.le_of_ble_eq_true rfl) dX12_endOf_21 ⟨Nat.zero_le _, Nat.zero_le _⟩ (fun v21 σ19 p20 => ?_)
        obtain ⟨rfl, z22, e23, r24, po25⟩ := p20
        subst e23
        subst po25
        show V _ _ _ _ _ _ _ _ _ _ _ _ _ _ _ _ _ _ [.int (iI (20 * d + z4_3 + (-1))), .ref (q 101)]
        obtain ⟨f26, h27, e28⟩ := ga_101 G0
        obtain ⟨z29, e30, r31⟩ := e28 ((20 * d + z4_3 + (-1)) : Int).toNat
        refine u_iald B Z (t0 := 0) (ym_101 Y) h27 rfl (by omega) e30 dX12_endOf_24 ?_
        refine v_sipush B (v := iI 10240) dX12_endOf_25 (by decide +kernel) ?_
        refine u_icmp_eq B (tgt := 48) (by omega) (by omega) dX12_endOf_28 (by decide +kernel) (fun c32 => ?_) (fun c32 => ?_)
        · refine v_lv [2] rfl ?_
          exact J48 ⟨by omega, by omega⟩
        · refine v_aload_n B dX12_endOf_31 rfl rfl ?_
          refine u_get B Z (C := RX12) (T := TX12) (N := 123) (ci := 12) hi_M_endOf_X12 Y.o h6 rfl 101 (by decide +kernel) (List.mem_of_getElem? (i := 2) rfl) rfl dX12_endOf_32 ?_
          refine v_aload_n B dX12_endOf_35 rfl rfl ?_
          refine v_iload_n B dX12_endOf_36 rfl rfl ?_
          refine v_iload_n B dX12_endOf_37 rfl rfl ?_
          refine u_callVi B Z hz (n := 2) (As := [.int (iI d), .int (iI z4_3)]) (rest := [.ref (q 101)]) (c_M_row l D K Z _ _ _ _ h q Y d z4_3 ⟨by omega, by omega⟩ ⟨by omega, by omega⟩ σ0 (G0)) gd_M_endOf_M_row_547 rfl rfl rfl (by decide +kernel) ⟨Nat.le_trans (by decide +kernel) hR.1, Nat.le_trans (by decide +kernel) hR.2⟩ Y.o (clsM G0) rfl rfl rfl rfl (Nat.le_of_ble_eq_true rfl) dX12_endOf_38 ⟨Nat.zero_le _, Nat.zero_le _⟩ (fun v35 σ33 p34 => ?_)
          obtain ⟨rfl, z36, e37, r38, po39⟩ := p34
          subst e37
          subst po39
          show V _ _ _ _ _ _ _ _ _ _ _ _ _ _ _ _ _ _ [.int (iI (20 * d + z4_3 + (-1))), .ref (q 101)]
          refine u_iald B Z (t0 := 0) (ym_101 Y) h27 rfl (by omega) e30 dX12_endOf_41 ?_
          refine v_sipush B (v := iI 10241) dX12_endOf_42 (by decide +kernel) ?_
          refine u_icmp_ne B (tgt := 52) (by omega) (by omega) dX12_endOf_45 (by decide +kernel) (fun c40 => ?_) (fun c40 => ?_)
          · refine v_iinc B (k := 2) (v := iI (z4_3 + 1)) (lv' := [(3, .int (iI (z4_3 + 1))), (0, .ref h), (1, .int (iI d))]) dX12_endOf_52 rfl ((iI_add _ _).trans (congrArg iI (by omega))) (by decide +kernel) rfl ?_
            refine v_goto B (tgt := 4) dX12_endOf_55 (by decide +kernel) ?_
            refine v_lv [1, 2, 0] rfl ?_
            exact IH4 (z4_3 + 1) (by omega) ⟨by omega, by omega⟩
          · refine v_lv [2] rfl ?_
            exact J48 ⟨by omega, by omega⟩
  refine v_iload_n B dX12_endOf_0 rfl rfl ?_
  refine v_iconst B (v := iI 1) dX12_endOf_1 rfl ?_
  refine v_iadd B (v := iI (x2 + 1)) dX12_endOf_2 ((iI_add _ _).trans (congrArg iI (by omega))) ?_
  refine v_istore_n B (lv' := [(3, .int (iI (x2 + 1))), (0, .ref h), (1, .int (iI d)), (2, .int (iI x2))]) dX12_endOf_3 rfl (by decide +kernel) rfl ?_
  refine v_lv [1, 2, 0] rfl ?_
  exact J4 _ (x2 + 1) (Nat.le_refl _) ⟨by omega, by omega⟩
set_option maxRecDepth 100000 in
theorem c_M_endOf (l : Launch) (D : va_G) (K : Nat → ClassId) {τ : Nat → Option Ty} {dom : List Nat} (Z : Sk τ dom) (zb zL : Nat) (zx : Nat → Int32) (zs : Nat → Nat) (h : Nat) (q : Nat → Nat) (Y : MS τ h q) (d : Int) (x2 : Int) (r_d : 0 ≤ d ∧ d ≤ 1) (r_x2 : 1 ≤ x2 ∧ x2 ≤ 20) (σ0 : Nat → va_E) (G0 : GT K h q σ0) : MZ l yX12_endOf wp_M_endOf ({ frames := 1, cells := 0, slots := 0, locals := 22 }) D (tysA K) [.ref h, .int (iI d), .int (iI x2)] (fd dom σ0) zb zL zx zs (Qi D (fun r σ' => σ0 = σ' ∧ ∃ z : Int, r = iI z ∧ (0 ≤ z ∧ z ≤ 20)) (fun σ' => fd dom σ')) 0 0 := by
  refine mz_of (cc := cX12_endOf) (maxL := 4) (ret := (some .int)) (by decide +kernel) rfl (Nat.le_of_ble_eq_true rfl) ?_
  intro p e s m below meth c A B hr hlk _ hz
  exact b_M_endOf ⟨Nat.le_refl _, Nat.le_refl _⟩ B Z hz h q Y d x2 r_d r_x2 σ0 G0 (fun z lv pc hZ hd => v_iret B hr hlk σ0 ⟨rfl, z, rfl, hZ⟩ rfl (Nat.le_refl _) (Nat.le_refl _) hd)

def wp_M_writes : List Cond := .code yX12_writes cX12_writes 4 none :: (([.fieldLink RX12 329 "LowEnergyModel" "length" "[I", .methodLink RX12 547 yX12_row, .instanceMethod yX12_row, .selects RX12 yX12_row yX12_row, .initialized RX12, .code yX12_row cX12_row 3 (some .int), .fieldLink RX12 293 "LowEnergyModel" "asks" "[B", .fieldLink RX12 341 "LowEnergyModel" "values" "[B", .methodLink RX12 29 yX12_copy, .static yX12_copy, .code yX12_copy cX12_copy 6 none] : List Cond) ++ (wsX120 ++ ([])))
theorem hi_M_writes_X12 : ∀ x ∈ u_ws RX12 TX12 123, x ∈ wp_M_writes := fun _ h => List.mem_cons_of_mem _ (List.mem_append_right _ (List.mem_append_left _ h))
set_option maxRecDepth 100000 in
theorem gd_M_writes_M_row_547 : GoodIn wp_M_writes (wsV RX12 547 RX12 yX12_row wp_M_row) := goodIn_app (goodIn_r _ [2, 3, 4, 5] rfl rfl) (goodIn_ca (goodIn_r _ [6] rfl rfl) (goodIn_nil))
set_option maxRecDepth 100000 in
theorem gd_M_writes_M_copy_29 : GoodIn wp_M_writes (va_wsS RX12 29 yX12_copy wp_M_copy) := goodIn_app (goodIn_r _ [9, 10, 5] rfl rfl) (goodIn_ca (goodIn_r _ [11] rfl rfl) (goodIn_nil))
set_option maxHeartbeats 4000000 in
set_option maxRecDepth 100000 in
theorem b_M_writes {p : Program} {l : Launch} {e : Env} {R : Room} {s : State} {m : MethodId} {args : Array Value} {below : List Frame} {meth : Method} {c : Code} {D : va_G} {K : Nat → ClassId} {A : Nat → Prop} {Q : State → Prop} {τ : Nat → Option Ty} {dom : List Nat} {zb zL : Nat} {zx : Nat → Int32} {zs : Nat → Nat} (hR : 1 ≤ R.frames ∧ 25 ≤ R.locals) (B : Bx p s m args c cX12_writes 4 RX12 wp_M_writes D (tysA K) A) (Z : Sk τ dom) (hz : ZL zb zL zx zs A s s.heap) (h : Nat) (q : Nat → Nat) (Y : MS τ h q) (d : Int) (x2 : Int) (x3 : Int) (r_d : 0 ≤ d ∧ d ≤ 1) (r_x2 : 1 ≤ x2 ∧ x2 ≤ 20) (r_x3 : -4 ≤ x3 ∧ x3 ≤ 92) (σ0 : Nat → va_E) (G0 : GM K h q σ0) (hn : 3 ≤ x3 ∧ x3 ≤ 43) (hend : ∀ (σ' : Nat → va_E) (lv : List (Nat × Value)) (pc : Nat), GM K h q σ' → Fr τ [(203, 0), (207, 0)] σ0 σ' → decode cX12_writes pc = .ok (.return_, 1) → V p l e R s m args below meth c 4 D A Q (0, 0) (fd dom σ') lv pc []) : V p l e R s m args below meth c 4 D A Q (0, 0) (fd dom σ0) [(0, .ref h), (1, .int (iI d)), (2, .int (iI x2)), (3, .int (iI x3))] 0 [] := by
  have F0 : Fr τ [(203, 0), (207, 0)] σ0 σ0 := Fr.rf
  obtain ⟨z1, z2, z3, z4, z5, h6, r7, r8, r9, r10, r11⟩ := G0.t.o
  refine v_aload_n B dX12_writes_0 rfl rfl ?_
  refine u_get B Z (C := RX12) (T := TX12) (N := 123) (ci := 12) hi_M_writes_X12 Y.o h6 rfl 103 (by decide +kernel) (List.mem_of_getElem? (i := 1) rfl) rfl dX12_writes_1 ?_
  refine v_aload_n B dX12_writes_4 rfl rfl ?_
  refine v_iload_n B dX12_writes_5 rfl rfl ?_
  refine v_iload_n B dX12_writes_6 rfl rfl ?_
  refine u_callVi B Z hz (n := 2) (As := [.int (iI d), .int (iI x2)]) (rest := [.ref (q 103)]) (c_M_row l D K Z _ _ _ _ h q Y d x2 ⟨by omega, by omega⟩ ⟨by omega, by omega⟩ σ0 (G0.t)) gd_M_writes_M_row_547 rfl rfl rfl (by decide +kernel) ⟨Nat.le_trans (by decide +kernel) hR.1, Nat.le_trans (by decide +kernel) hR.2⟩ Y.o (clsM G0.t) rfl rfl rfl rfl (Nat.le_of_ble_eq_true rfl) dX12_writes_7 ⟨Nat.zero_le _, Nat.zero_le _⟩ (fun v14 σ12 p13 => ?_)
  obtain ⟨rfl, z15, e16, r17, po18⟩ := p13
  subst e16
  subst po18
  show V _ _ _ _ _ _ _ _ _ _ _ _ _ _ _ _ _ _ [.int (iI (20 * d + x2 + (-1))), .ref (q 103)]
  refine v_iload_n B dX12_writes_10 rfl rfl ?_
  refine v_iconst B (v := iI 3) dX12_writes_11 rfl ?_
  refine v_isub B (v := iI (x3 + (-3))) dX12_writes_12 ((iI_sub _ _).trans (congrArg iI (by omega))) ?_
  obtain ⟨f19, h20, e21⟩ := ga_103 G0.t
  refine u_iast B Z (t0 := 0) (x := iI (x3 + (-3))) (ym_103 Y) h20 rfl (by omega) dX12_writes_13 (fun σ22 h23 n24 => ?_)
  have e25 := el_upd (z := (x3 + (-3))) e21 ⟨by omega, by omega⟩ ((20 * d + x2 + (-1)) : Int).toNat
  have F26 := F0.put (ym_103 Y) (by simp) n24
  have G27 := gp_103 Y G0 ⟨_, h23, e25⟩ n24
  refine v_aload_n B dX12_writes_14 rfl rfl ?_
  have h28 := (n24 h (ne_ty Y.o (ym_103 Y) (by decide))).trans (h6)
  refine u_get B Z (C := RX12) (T := TX12) (N := 123) (ci := 12) hi_M_writes_X12 Y.o h28 rfl 91 (by decide +kernel) (List.mem_of_getElem? (i := 7) rfl) rfl dX12_writes_15 ?_
  refine v_iconst B (v := iI 3) dX12_writes_18 rfl ?_
  refine v_aload_n B dX12_writes_19 rfl rfl ?_
  refine u_get B Z (C := RX12) (T := TX12) (N := 123) (ci := 12) hi_M_writes_X12 Y.o h28 rfl 107 (by decide +kernel) (List.mem_of_getElem? (i := 8) rfl) rfl dX12_writes_20 ?_
  refine v_bipush B (v := iI 40) dX12_writes_23 (by decide +kernel) ?_
  refine v_aload_n B dX12_writes_25 rfl rfl ?_
  refine v_iload_n B dX12_writes_26 rfl rfl ?_
  refine v_iload_n B dX12_writes_27 rfl rfl ?_
  refine u_callVi B Z hz (n := 2) (As := [.int (iI d), .int (iI x2)]) (rest := [.int (iI 40), .ref (q 107), .int (iI 3), .ref (q 91)]) (c_M_row l D K Z _ _ _ _ h q Y d x2 ⟨by omega, by omega⟩ ⟨by omega, by omega⟩ σ22 (G27.t)) gd_M_writes_M_row_547 rfl rfl rfl (by decide +kernel) ⟨Nat.le_trans (by decide +kernel) hR.1, Nat.le_trans (by decide +kernel) hR.2⟩ Y.o (clsM G27.t) rfl rfl rfl rfl (Nat.le_of_ble_eq_true rfl) dX12_writes_28 ⟨Nat.zero_le _, Nat.zero_le _⟩ (fun v31 σ29 p30 => ?_)
  obtain ⟨rfl, z32, e33, r34, po35⟩ := p30
  subst e33
  subst po35
  show V _ _ _ _ _ _ _ _ _ _ _ _ _ _ _ _ _ _ [.int (iI (20 * d + x2 + (-1))), .int (iI 40), .ref (q 107), .int (iI 3), .ref (q 91)]
  refine v_imul B (v := iI (800 * d + 40 * x2 + (-40))) dX12_writes_31 ((iI_mul _ _).trans (congrArg iI (by omega))) ?_
  refine v_iload_n B dX12_writes_32 rfl rfl ?_
  refine v_iconst B (v := iI 3) dX12_writes_33 rfl ?_
  refine v_isub B (v := iI (x3 + (-3))) dX12_writes_34 ((iI_sub _ _).trans (congrArg iI (by omega))) ?_
  refine u_callSv B Z hz (n := 5) (As := [.ref (q 91), .int (iI 3), .ref (q 107), .int (iI (800 * d + 40 * x2 + (-40))), .int (iI (x3 + (-3)))]) (rest := []) (c_M_copy l D K Z _ _ _ _ h q Y 91 96 3 107 1600 (800 * d + 40 * x2 + (-40)) (x3 + (-3)) rfl ⟨by omega, by omega⟩ rfl ⟨by omega, by omega⟩ ⟨by omega, by omega⟩ σ22 G27 (by omega)) gd_M_writes_M_copy_29 rfl rfl rfl (by decide +kernel) ⟨Nat.le_trans (by decide +kernel) hR.1, Nat.le_trans (by decide +kernel) hR.2⟩ rfl rfl (Nat.le_of_ble_eq_true rfl) dX12_writes_35 ⟨Nat.zero_le _, Nat.zero_le _⟩ (fun σ36 p37 => ?_)
  obtain ⟨G39, F40⟩ := p37
  have F41 := F26.call F40 (by first | rfl | simp)
  exact hend σ36 _ _ G39 F41 dX12_writes_38
set_option maxRecDepth 100000 in
theorem c_M_writes (l : Launch) (D : va_G) (K : Nat → ClassId) {τ : Nat → Option Ty} {dom : List Nat} (Z : Sk τ dom) (zb zL : Nat) (zx : Nat → Int32) (zs : Nat → Nat) (h : Nat) (q : Nat → Nat) (Y : MS τ h q) (d : Int) (x2 : Int) (x3 : Int) (r_d : 0 ≤ d ∧ d ≤ 1) (r_x2 : 1 ≤ x2 ∧ x2 ≤ 20) (r_x3 : -4 ≤ x3 ∧ x3 ≤ 92) (σ0 : Nat → va_E) (G0 : GM K h q σ0) (hn : 3 ≤ x3 ∧ x3 ≤ 43) : MZ l yX12_writes wp_M_writes ({ frames := 1, cells := 0, slots := 0, locals := 25 }) D (tysA K) [.ref h, .int (iI d), .int (iI x2), .int (iI x3)] (fd dom σ0) zb zL zx zs (Qv D (fun σ' => GM K h q σ' ∧ Fr τ [(203, 0), (207, 0)] σ0 σ') (fun σ' => fd dom σ')) 0 0 := by
  refine mz_of (cc := cX12_writes) (maxL := 4) (ret := none) (by decide +kernel) rfl (Nat.le_of_ble_eq_true rfl) ?_
  intro p e s m below meth c A B hr hlk _ hz
  exact b_M_writes ⟨Nat.le_refl _, Nat.le_refl _⟩ B Z hz h q Y d x2 x3 r_d r_x2 r_x3 σ0 G0 hn (fun σ' lv pc G F hd => v_vret B hr hlk σ' ⟨G, F⟩ rfl (Nat.le_refl _) (Nat.le_refl _) hd)

def wp_M_confirmed : List Cond := .code yX12_confirmed cX12_confirmed 3 none :: (([.fieldLink RX12 362 "LowEnergyModel" "waits30" "[Z", .methodLink RX12 504 yX12_complete_, .instanceMethod yX12_complete_, .selects RX12 yX12_complete_ yX12_complete_, .initialized RX12, .code yX12_complete_ cX12_complete_ 6 none, .fieldLink RX12 10 "LowEnergyModel" "tape" "[B", .methodLink RX12 409 yX12_complete, .instanceMethod yX12_complete, .selects RX12 yX12_complete yX12_complete, .code yX12_complete cX12_complete 11 none, .fieldLink RX12 155 "LowEnergyModel" "kept" "[I", .fieldLink RX12 158 "LowEnergyModel" "keptMany" "[I", .methodLink RX12 404 Lib.Math.min.name, .static Lib.Math.min.name, .initialized "java/lang/Math", .code Lib.Math.min.name Lib.Math.min.code 2 (some .int), .fieldLink RX12 161 "LowEnergyModel" "notKept" "[I"] : List Cond) ++ (wsX120 ++ ([])))
theorem hi_M_confirmed_X12 : ∀ x ∈ u_ws RX12 TX12 123, x ∈ wp_M_confirmed := fun _ h => List.mem_cons_of_mem _ (List.mem_append_right _ (List.mem_append_left _ h))
set_option maxRecDepth 100000 in
theorem gd_M_confirmed_M_complete5_504 : GoodIn wp_M_confirmed (wsV RX12 504 RX12 yX12_complete_ wp_M_complete5) := goodIn_app (goodIn_r _ [2, 3, 4, 5] rfl rfl) (goodIn_ca (goodIn_r _ [6, 7, 8, 9, 10, 5, 11, 12, 13, 14, 15, 16, 17, 18] rfl rfl) (goodIn_app (goodIn_cls hi_M_confirmed_X12 gw_X12) (goodIn_nil)))
set_option maxHeartbeats 4000000 in
set_option maxRecDepth 100000 in
theorem b_M_confirmed {p : Program} {l : Launch} {e : Env} {R : Room} {s : State} {m : MethodId} {args : Array Value} {below : List Frame} {meth : Method} {c : Code} {D : va_G} {K : Nat → ClassId} {A : Nat → Prop} {Q : State → Prop} {τ : Nat → Option Ty} {dom : List Nat} {zb zL : Nat} {zx : Nat → Int32} {zs : Nat → Nat} (hR : 3 ≤ R.frames ∧ 70 ≤ R.locals) (B : Bx p s m args c cX12_confirmed 3 RX12 wp_M_confirmed D (tysA K) A) (Z : Sk τ dom) (hz : ZL zb zL zx zs A s s.heap) (h : Nat) (q : Nat → Nat) (Y : MS τ h q) (d : Int) (x2 : Int) (r_d : 0 ≤ d ∧ d ≤ 1) (r_x2 : -4 ≤ x2 ∧ x2 ≤ 92) (σ0 : Nat → va_E) (G0 : GM K h q σ0) (hend : ∀ (σ' : Nat → va_E) (lv : List (Nat × Value)) (pc : Nat), GM K h q σ' → Fr τ [(214, 0), (145, 0), (144, 0), (146, 0)] σ0 σ' → decode cX12_confirmed pc = .ok (.return_, 1) → V p l e R s m args below meth c 3 D A Q (0, 0) (fd dom σ') lv pc []) : V p l e R s m args below meth c 3 D A Q (0, 0) (fd dom σ0) [(0, .ref h), (1, .int (iI d)), (2, .int (iI x2))] 0 [] := by
  have F0 : Fr τ [(214, 0), (145, 0), (144, 0), (146, 0)] σ0 σ0 := Fr.rf
  obtain ⟨z1, z2, z3, z4, z5, h6, r7, r8, r9, r10, r11⟩ := G0.t.o
  refine v_iload_n B dX12_confirmed_0 rfl rfl ?_
  refine v_iconst B (v := iI 1) dX12_confirmed_1 rfl ?_
  refine u_icmp_ne B (tgt := 14) (by omega) (by omega) dX12_confirmed_2 (by decide +kernel) (fun c12 => ?_) (fun c12 => ?_)
  · exact hend σ0 _ _ G0 F0 dX12_confirmed_14
  · refine v_aload_n B dX12_confirmed_5 rfl rfl ?_
    refine u_get B Z (C := RX12) (T := TX12) (N := 123) (ci := 12) hi_M_confirmed_X12 Y.o h6 rfl 114 (by decide +kernel) (List.mem_of_getElem? (i := 1) rfl) rfl dX12_confirmed_6 ?_
    refine v_iload_n B dX12_confirmed_9 rfl rfl ?_
    obtain ⟨f13, h14, e15⟩ := ga_114 G0.t
    obtain ⟨z16, e17, r18⟩ := e15 (d : Int).toNat
    refine u_zald B Z (t0 := 3) (ym_114 Y) h14 rfl (by omega) e17 dX12_confirmed_10 ?_
    refine u_if_ne B (tgt := 15) (by omega) dX12_confirmed_11 (by decide +kernel) (fun c19 => ?_) (fun c19 => ?_)
    · refine v_aload_n B dX12_confirmed_15 rfl rfl ?_
      refine u_get B Z (C := RX12) (T := TX12) (N := 123) (ci := 12) hi_M_confirmed_X12 Y.o h6 rfl 114 (by decide +kernel) (List.mem_of_getElem? (i := 1) rfl) rfl dX12_confirmed_16 ?_
      refine v_iload_n B dX12_confirmed_19 rfl rfl ?_
      refine v_iconst B (v := iI 0) dX12_confirmed_20 rfl ?_
      refine u_zast B Z (t0 := 3) (x := iI 0) (y := iI 0) (ym_114 Y) h14 rfl (by omega) (narZ (by omega)) dX12_confirmed_21 (fun σ20 h21 n22 => ?_)
      have e23 := el_upd (z := 0) e15 ⟨by omega, by omega⟩ (d : Int).toNat
      have F24 := F0.put (ym_114 Y) (by simp) n22
      have G25 := gp_114 Y G0 ⟨_, h21, e23⟩ n22
      refine v_aload_n B dX12_confirmed_22 rfl rfl ?_
      refine v_iload_n B dX12_confirmed_23 rfl rfl ?_
      refine v_bipush B (v := iI 18) dX12_confirmed_24 (by decide +kernel) ?_
      refine v_iconst B (v := iI 0) dX12_confirmed_26 rfl ?_
      refine v_iconst B (v := iI 0) dX12_confirmed_27 rfl ?_
      refine v_iconst B (v := iI 0) dX12_confirmed_28 rfl ?_
      refine u_callVv B Z hz (n := 5) (As := [.int (iI d), .int (iI 18), .int (iI 0), .int (iI 0), .int (iI 0)]) (rest := []) (c_M_complete5 l D K Z _ _ _ _ h q Y d 18 0 0 0 ⟨by omega, by omega⟩ ⟨by omega, by omega⟩ ⟨by omega, by omega⟩ ⟨by omega, by omega⟩ ⟨by omega, by omega⟩ σ20 G25) gd_M_confirmed_M_complete5_504 rfl rfl rfl (by decide +kernel) ⟨Nat.le_trans (by decide +kernel) hR.1, Nat.le_trans (by decide +kernel) hR.2⟩ Y.o (clsM G25.t) rfl rfl rfl rfl (Nat.le_of_ble_eq_true rfl) dX12_confirmed_29 ⟨Nat.zero_le _, Nat.zero_le _⟩ (fun σ26 p27 => ?_)
      obtain ⟨G29, F30⟩ := p27
      have F31 := F24.call F30 (by first | rfl | simp)
      exact hend σ26 _ _ G29 F31 dX12_confirmed_32
    · exact hend σ0 _ _ G0 F0 dX12_confirmed_14
set_option maxRecDepth 100000 in
theorem c_M_confirmed (l : Launch) (D : va_G) (K : Nat → ClassId) {τ : Nat → Option Ty} {dom : List Nat} (Z : Sk τ dom) (zb zL : Nat) (zx : Nat → Int32) (zs : Nat → Nat) (h : Nat) (q : Nat → Nat) (Y : MS τ h q) (d : Int) (x2 : Int) (r_d : 0 ≤ d ∧ d ≤ 1) (r_x2 : -4 ≤ x2 ∧ x2 ≤ 92) (σ0 : Nat → va_E) (G0 : GM K h q σ0) : MZ l yX12_confirmed wp_M_confirmed ({ frames := 3, cells := 0, slots := 0, locals := 70 }) D (tysA K) [.ref h, .int (iI d), .int (iI x2)] (fd dom σ0) zb zL zx zs (Qv D (fun σ' => GM K h q σ' ∧ Fr τ [(214, 0), (145, 0), (144, 0), (146, 0)] σ0 σ') (fun σ' => fd dom σ')) 0 0 := by
  refine mz_of (cc := cX12_confirmed) (maxL := 3) (ret := none) (by decide +kernel) rfl (Nat.le_of_ble_eq_true rfl) ?_
  intro p e s m below meth c A B hr hlk _ hz
  exact b_M_confirmed ⟨Nat.le_refl _, Nat.le_refl _⟩ B Z hz h q Y d x2 r_d r_x2 σ0 G0 (fun σ' lv pc G F hd => v_vret B hr hlk σ' ⟨G, F⟩ rfl (Nat.le_refl _) (Nat.le_refl _) hd)

def wp_M_toldOf : List Cond := .code yX12_toldOf cX12_toldOf 4 none :: (([.fieldLink RX12 293 "LowEnergyModel" "asks" "[B", .methodLink RX12 489 yX12_two, .static yX12_two, .initialized RX12, .code yX12_two cX12_two 2 (some .int), .methodLink RX12 409 yX12_complete, .instanceMethod yX12_complete, .selects RX12 yX12_complete yX12_complete, .code yX12_complete cX12_complete 11 none, .fieldLink RX12 155 "LowEnergyModel" "kept" "[I", .fieldLink RX12 158 "LowEnergyModel" "keptMany" "[I", .methodLink RX12 404 Lib.Math.min.name, .static Lib.Math.min.name, .initialized "java/lang/Math", .code Lib.Math.min.name Lib.Math.min.code 2 (some .int), .fieldLink RX12 161 "LowEnergyModel" "notKept" "[I", .fieldLink RX12 290 "LowEnergyModel" "said" "[B", .methodLink RX12 527 yX12_says, .instanceMethod yX12_says, .selects RX12 yX12_says yX12_says, .code yX12_says cX12_says 5 none, .fieldLink RX12 275 "LowEnergyModel" "messages" "[I", .fieldLink RX12 266 "LowEnergyModel" "message" "[B", .methodLink RX12 432 yX12_number, .static yX12_number, .code yX12_number cX12_number 6 none, .methodLink RX12 29 yX12_copy, .static yX12_copy, .code yX12_copy cX12_copy 6 none, .fieldLink RX12 272 "LowEnergyModel" "messageMany" "[I", .fieldLink RX12 332 "LowEnergyModel" "mtu" "[I"] : List Cond) ++ (wsX120 ++ ([])))
theorem hi_M_toldOf_X12 : ∀ x ∈ u_ws RX12 TX12 123, x ∈ wp_M_toldOf := fun _ h => List.mem_cons_of_mem _ (List.mem_append_right _ (List.mem_append_left _ h))
set_option maxRecDepth 100000 in
theorem gd_M_toldOf_M_two_489 : GoodIn wp_M_toldOf (va_wsS RX12 489 yX12_two wp_M_two) := goodIn_app (goodIn_r _ [2, 3, 4] rfl rfl) (goodIn_ca (goodIn_r _ [5] rfl rfl) (goodIn_nil))
set_option maxRecDepth 100000 in
theorem gd_M_toldOf_M_complete_409 : GoodIn wp_M_toldOf (wsV RX12 409 RX12 yX12_complete wp_M_complete) := goodIn_app (goodIn_r _ [6, 7, 8, 4] rfl rfl) (goodIn_ca (goodIn_r _ [9, 10, 11, 12, 13, 14, 15, 16] rfl rfl) (goodIn_app (goodIn_cls hi_M_toldOf_X12 gw_X12) (goodIn_nil)))
set_option maxRecDepth 100000 in
theorem gd_M_toldOf_M_says_527 : GoodIn wp_M_toldOf (wsV RX12 527 RX12 yX12_says wp_M_says) := goodIn_app (goodIn_r _ [18, 19, 20, 4] rfl rfl) (goodIn_ca (goodIn_r _ [21, 22, 23, 24, 25, 4, 26, 17, 27, 28, 29, 30] rfl rfl) (goodIn_app (goodIn_cls hi_M_toldOf_X12 gw_X12) (goodIn_nil)))
set_option maxHeartbeats 4000000 in
set_option maxRecDepth 100000 in
theorem b_M_toldOf {p : Program} {l : Launch} {e : Env} {R : Room} {s : State} {m : MethodId} {args : Array Value} {below : List Frame} {meth : Method} {c : Code} {D : va_G} {K : Nat → ClassId} {A : Nat → Prop} {Q : State → Prop} {τ : Nat → Option Ty} {dom : List Nat} {zb zL : Nat} {zx : Nat → Int32} {zs : Nat → Nat} (hR : 2 ≤ R.frames ∧ 49 ≤ R.locals) (B : Bx p s m args c cX12_toldOf 4 RX12 wp_M_toldOf D (tysA K) A) (Z : Sk τ dom) (hz : ZL zb zL zx zs A s s.heap) (h : Nat) (q : Nat → Nat) (Y : MS τ h q) (d : Int) (x2 : Int) (x3 : Int) (r_d : 0 ≤ d ∧ d ≤ 1) (r_x2 : -2147483648 ≤ x2 ∧ x2 ≤ 2147483647) (r_x3 : -4 ≤ x3 ∧ x3 ≤ 92) (σ0 : Nat → va_E) (G0 : GM K h q σ0) (hM : At σ0 (q 85) (d : Int).toNat (0) (7)) (hend : ∀ (σ' : Nat → va_E) (lv : List (Nat × Value)) (pc : Nat), GM K h q σ' → Fr τ [(145, 0), (144, 0), (146, 0), (190, 0), (182, 0), (184, 0), (185, 0)] σ0 σ' → decode cX12_toldOf pc = .ok (.return_, 1) → V p l e R s m args below meth c 4 D A Q (0, 0) (fd dom σ') lv pc []) : V p l e R s m args below meth c 4 D A Q (0, 0) (fd dom σ0) [(0, .ref h), (1, .int (iI d)), (2, .int (iI x2)), (3, .int (iI x3))] 0 [] := by
  have F0 : Fr τ [(145, 0), (144, 0), (146, 0), (190, 0), (182, 0), (184, 0), (185, 0)] σ0 σ0 := Fr.rf
  obtain ⟨z1, z2, z3, z4, z5, h6, r7, r8, r9, r10, r11⟩ := G0.t.o
  obtain ⟨f12, h13, e14⟩ := ga_85 G0.t
  obtain ⟨z15, e16, r17⟩ := e14 (d : Int).toNat
  have r18 := hM.use h13 e16 (by omega)
  have J31 : ∀ (z31_s0 : Int) (z31_s1 : Int), (3 ≤ x3 ∧ x3 ≤ 64) → (16 ≤ z31_s0 ∧ z31_s0 ≤ 17) → (0 ≤ z31_s1 ∧ z31_s1 ≤ 1) → V p l e R s m args below meth c 4 D A Q (0, 0) (fd dom σ0) [(0, .ref h), (1, .int (iI d)), (2, .int (iI x2)), (3, .int (iI x3))] 31 [.int (iI z31_s0), .int (iI z31_s1), .ref h] := by
    intro z31_s0 z31_s1 rv31_x3 r31_s0 r31_s1
    refine v_aload_n B dX12_toldOf_31 rfl rfl ?_
    refine u_get B Z (C := RX12) (T := TX12) (N := 123) (ci := 12) hi_M_toldOf_X12 Y.o h6 rfl 91 (by decide +kernel) (List.mem_of_getElem? (i := 1) rfl) rfl dX12_toldOf_32 ?_
    refine v_iconst B (v := iI 1) dX12_toldOf_35 rfl ?_
    refine u_callSi B Z hz (n := 2) (As := [.ref (q 91), .int (iI 1)]) (rest := [.int (iI z31_s0), .int (iI z31_s1), .ref h]) (c_M_two l D K Z _ _ _ _ h q Y 91 96 1 rfl ⟨by omega, by omega⟩ σ0 (G0.t) (by omega)) gd_M_toldOf_M_two_489 rfl rfl rfl (by decide +kernel) ⟨Nat.le_trans (by decide +kernel) hR.1, Nat.le_trans (by decide +kernel) hR.2⟩ rfl rfl (Nat.le_of_ble_eq_true rfl) dX12_toldOf_36 ⟨Nat.zero_le _, Nat.zero_le _⟩ (fun v21 σ19 p20 => ?_)
    obtain ⟨rfl, z22, e23, r24⟩ := p20
    subst e23
    refine v_iconst B (v := iI 0) dX12_toldOf_39 rfl ?_
    refine v_iconst B (v := iI 0) dX12_toldOf_40 rfl ?_
    refine v_aload_n B dX12_toldOf_41 rfl rfl ?_
    refine u_get B Z (C := RX12) (T := TX12) (N := 123) (ci := 12) hi_M_toldOf_X12 Y.o h6 rfl 91 (by decide +kernel) (List.mem_of_getElem? (i := 1) rfl) rfl dX12_toldOf_42 ?_
    refine v_iconst B (v := iI 3) dX12_toldOf_45 rfl ?_
    refine v_iload_n B dX12_toldOf_46 rfl rfl ?_
    refine v_iconst B (v := iI 3) dX12_toldOf_47 rfl ?_
    refine v_isub B (v := iI (x3 + (-3))) dX12_toldOf_48 ((iI_sub _ _).trans (congrArg iI (by omega))) ?_
    refine u_callVv B Z hz (n := 8) (As := [.int (iI z31_s1), .int (iI z31_s0), .int (iI z22), .int (iI 0), .int (iI 0), .ref (q 91), .int (iI 3), .int (iI (x3 + (-3)))]) (rest := []) (c_M_complete l D K Z _ _ _ _ h q Y z31_s1 z31_s0 z22 0 0 91 96 3 (x3 + (-3)) ⟨by omega, by omega⟩ ⟨by omega, by omega⟩ ⟨by omega, by omega⟩ ⟨by omega, by omega⟩ ⟨by omega, by omega⟩ rfl ⟨by omega, by omega⟩ ⟨by omega, by omega⟩ σ0 G0 (by omega)) gd_M_toldOf_M_complete_409 rfl rfl rfl (by decide +kernel) ⟨Nat.le_trans (by decide +kernel) hR.1, Nat.le_trans (by decide +kernel) hR.2⟩ Y.o (clsM G0.t) rfl rfl rfl rfl (Nat.le_of_ble_eq_true rfl) dX12_toldOf_49 ⟨Nat.zero_le _, Nat.zero_le _⟩ (fun σ25 p26 => ?_)
    obtain ⟨G28, F29⟩ := p26
    have F30 := F0.call F29 (by first | rfl | simp)
    refine v_iload_n B dX12_toldOf_52 rfl rfl ?_
    refine v_bipush B (v := iI 27) dX12_toldOf_53 (by decide +kernel) ?_
    refine u_icmp_ne B (tgt := 59) (by omega) (by omega) dX12_toldOf_55 (by decide +kernel) (fun c31 => ?_) (fun c31 => ?_)
    · refine v_aload_n B dX12_toldOf_59 rfl rfl ?_
      have h32 := (F29 h _ Y.o (by first | rfl | simp)).trans (h6)
      refine u_get B Z (C := RX12) (T := TX12) (N := 123) (ci := 12) hi_M_toldOf_X12 Y.o h32 rfl 90 (by decide +kernel) (List.mem_of_getElem? (i := 17) rfl) rfl dX12_toldOf_60 ?_
      refine v_iconst B (v := iI 0) dX12_toldOf_63 rfl ?_
      refine v_bipush B (v := iI 30) dX12_toldOf_64 (by decide +kernel) ?_
      obtain ⟨f33, h34, e35⟩ := ga_90 G28.t
      refine u_bast B Z (t0 := 2) (x := iI 30) (y := iI 30) (ym_90 Y) h34 rfl (by omega) (nar8 (by omega)) dX12_toldOf_66 (fun σ36 h37 n38 => ?_)
      have F39 := F30.put (ym_90 Y) (by simp) n38
      have G40 := gp_90 Y G28 ⟨_, h37, el_upd (z := 30) e35 ⟨by omega, by omega⟩ _⟩ n38
      refine v_aload_n B dX12_toldOf_67 rfl rfl ?_
      refine v_iload_n B dX12_toldOf_68 rfl rfl ?_
      refine v_iconst B (v := iI 4) dX12_toldOf_69 rfl ?_
      refine v_iconst B (v := iI 1) dX12_toldOf_70 rfl ?_
      have h41 := (n38 (q 85) (ne_ty (ym_85 Y) (ym_90 Y) (by decide))).trans ((F29 (q 85) _ (ym_85 Y) (by first | rfl | simp)).trans (h13))
      refine u_callVv B Z hz (n := 3) (As := [.int (iI d), .int (iI 4), .int (iI 1)]) (rest := []) (c_M_says l D K Z _ _ _ _ h q Y d 4 1 ⟨by omega, by omega⟩ ⟨by omega, by omega⟩ ⟨by omega, by omega⟩ σ36 G40 (At.mk h41 e16 (by omega) ⟨by omega, by omega⟩) (by omega)) gd_M_toldOf_M_says_527 rfl rfl rfl (by decide +kernel) ⟨Nat.le_trans (by decide +kernel) hR.1, Nat.le_trans (by decide +kernel) hR.2⟩ Y.o (clsM G40.t) rfl rfl rfl rfl (Nat.le_of_ble_eq_true rfl) dX12_toldOf_71 ⟨Nat.zero_le _, Nat.zero_le _⟩ (fun σ42 p43 => ?_)
      obtain ⟨G45, F46⟩ := p43
      have F47 := F39.call F46 (by first | rfl | simp)
      exact hend σ42 _ _ G45 F47 dX12_toldOf_74
    · exact hend σ25 _ _ G28 F30 dX12_toldOf_58
  refine v_iload_n B dX12_toldOf_0 rfl rfl ?_
  refine v_iconst B (v := iI 3) dX12_toldOf_1 rfl ?_
  refine u_icmp_lt B (tgt := 15) (by omega) (by omega) dX12_toldOf_2 (by decide +kernel) (fun c48 => ?_) (fun c48 => ?_)
  · exact hend σ0 _ _ G0 F0 dX12_toldOf_15
  · refine v_iload_n B dX12_toldOf_5 rfl rfl ?_
    refine v_aload_n B dX12_toldOf_6 rfl rfl ?_
    refine u_get B Z (C := RX12) (T := TX12) (N := 123) (ci := 12) hi_M_toldOf_X12 Y.o h6 rfl 104 (by decide +kernel) (List.mem_of_getElem? (i := 31) rfl) rfl dX12_toldOf_7 ?_
    refine v_iload_n B dX12_toldOf_10 rfl rfl ?_
    obtain ⟨f49, h50, e51⟩ := ga_104 G0.t
    obtain ⟨z52, e53, r54⟩ := e51 (d : Int).toNat
    refine u_iald B Z (t0 := 0) (ym_104 Y) h50 rfl (by omega) e53 dX12_toldOf_11 ?_
    refine u_icmp_le B (tgt := 16) (by omega) (by omega) dX12_toldOf_12 (by decide +kernel) (fun c55 => ?_) (fun c55 => ?_)
    · refine v_aload_n B dX12_toldOf_16 rfl rfl ?_
      refine v_iload_n B dX12_toldOf_17 rfl rfl ?_
      refine v_iload_n B dX12_toldOf_18 rfl rfl ?_
      refine v_bipush B (v := iI 27) dX12_toldOf_19 (by decide +kernel) ?_
      refine u_icmp_ne B (tgt := 29) (by omega) (by omega) dX12_toldOf_21 (by decide +kernel) (fun c56 => ?_) (fun c56 => ?_)
      · refine v_bipush B (v := iI 17) dX12_toldOf_29 (by decide +kernel) ?_
        exact J31 17 d ⟨by omega, by omega⟩ ⟨by omega, by omega⟩ ⟨by omega, by omega⟩
      · refine v_bipush B (v := iI 16) dX12_toldOf_24 (by decide +kernel) ?_
        refine v_goto B (tgt := 31) dX12_toldOf_26 (by decide +kernel) ?_
        exact J31 16 d ⟨by omega, by omega⟩ ⟨by omega, by omega⟩ ⟨by omega, by omega⟩
    · exact hend σ0 _ _ G0 F0 dX12_toldOf_15
set_option maxRecDepth 100000 in
theorem c_M_toldOf (l : Launch) (D : va_G) (K : Nat → ClassId) {τ : Nat → Option Ty} {dom : List Nat} (Z : Sk τ dom) (zb zL : Nat) (zx : Nat → Int32) (zs : Nat → Nat) (h : Nat) (q : Nat → Nat) (Y : MS τ h q) (d : Int) (x2 : Int) (x3 : Int) (r_d : 0 ≤ d ∧ d ≤ 1) (r_x2 : -2147483648 ≤ x2 ∧ x2 ≤ 2147483647) (r_x3 : -4 ≤ x3 ∧ x3 ≤ 92) (σ0 : Nat → va_E) (G0 : GM K h q σ0) (hM : At σ0 (q 85) (d : Int).toNat (0) (7)) : MZ l yX12_toldOf wp_M_toldOf ({ frames := 2, cells := 0, slots := 0, locals := 49 }) D (tysA K) [.ref h, .int (iI d), .int (iI x2), .int (iI x3)] (fd dom σ0) zb zL zx zs (Qv D (fun σ' => GM K h q σ' ∧ Fr τ [(145, 0), (144, 0), (146, 0), (190, 0), (182, 0), (184, 0), (185, 0)] σ0 σ') (fun σ' => fd dom σ')) 0 0 := by
  refine mz_of (cc := cX12_toldOf) (maxL := 4) (ret := none) (by decide +kernel) rfl (Nat.le_of_ble_eq_true rfl) ?_
  intro p e s m below meth c A B hr hlk _ hz
  exact b_M_toldOf ⟨Nat.le_refl _, Nat.le_refl _⟩ B Z hz h q Y d x2 x3 r_d r_x2 r_x3 σ0 G0 hM (fun σ' lv pc G F hd => v_vret B hr hlk σ' ⟨G, F⟩ rfl (Nat.le_refl _) (Nat.le_refl _) hd)

def wp_M_writesAlone : List Cond := .code yX12_writesAlone cX12_writesAlone 4 none :: (([.fieldLink RX12 332 "LowEnergyModel" "mtu" "[I", .fieldLink RX12 293 "LowEnergyModel" "asks" "[B", .methodLink RX12 489 yX12_two, .static yX12_two, .initialized RX12, .code yX12_two cX12_two 2 (some .int), .methodLink RX12 567 yX12_isHandle, .instanceMethod yX12_isHandle, .selects RX12 yX12_isHandle yX12_isHandle, .code yX12_isHandle cX12_isHandle 3 (some .boolean), .fieldLink RX12 320 "LowEnergyModel" "attributes" "[I", .methodLink RX12 570 yX12_lacks, .instanceMethod yX12_lacks, .selects RX12 yX12_lacks yX12_lacks, .code yX12_lacks cX12_lacks 5 (some .int), .fieldLink RX12 326 "LowEnergyModel" "rights" "[I", .methodLink RX12 547 yX12_row, .instanceMethod yX12_row, .selects RX12 yX12_row yX12_row, .code yX12_row cX12_row 3 (some .int), .fieldLink RX12 239 "LowEnergyModel" "isSecure" "[Z", .methodLink RX12 574 yX12_writes, .instanceMethod yX12_writes, .selects RX12 yX12_writes yX12_writes, .code yX12_writes cX12_writes 4 none, .fieldLink RX12 329 "LowEnergyModel" "length" "[I", .fieldLink RX12 341 "LowEnergyModel" "values" "[B", .methodLink RX12 29 yX12_copy, .static yX12_copy, .code yX12_copy cX12_copy 6 none] : List Cond) ++ (wsX120 ++ ([])))
theorem hi_M_writesAlone_X12 : ∀ x ∈ u_ws RX12 TX12 123, x ∈ wp_M_writesAlone := fun _ h => List.mem_cons_of_mem _ (List.mem_append_right _ (List.mem_append_left _ h))
set_option maxRecDepth 100000 in
theorem gd_M_writesAlone_M_two_489 : GoodIn wp_M_writesAlone (va_wsS RX12 489 yX12_two wp_M_two) := goodIn_app (goodIn_r _ [3, 4, 5] rfl rfl) (goodIn_ca (goodIn_r _ [6] rfl rfl) (goodIn_nil))
set_option maxRecDepth 100000 in
theorem gd_M_writesAlone_M_isHandle_567 : GoodIn wp_M_writesAlone (wsV RX12 567 RX12 yX12_isHandle wp_M_isHandle) := goodIn_app (goodIn_r _ [7, 8, 9, 5] rfl rfl) (goodIn_ca (goodIn_r _ [10, 11] rfl rfl) (goodIn_app (goodIn_cls hi_M_writesAlone_X12 gw_X12) (goodIn_nil)))
set_option maxRecDepth 100000 in
theorem gd_M_writesAlone_M_lacks_570 : GoodIn wp_M_writesAlone (wsV RX12 570 RX12 yX12_lacks wp_M_lacks) := goodIn_app (goodIn_r _ [12, 13, 14, 5] rfl rfl) (goodIn_ca (goodIn_r _ [15, 16, 17, 18, 19, 5, 20, 21] rfl rfl) (goodIn_app (goodIn_cls hi_M_writesAlone_X12 gw_X12) (goodIn_nil)))
set_option maxRecDepth 100000 in
theorem gd_M_writesAlone_M_writes_574 : GoodIn wp_M_writesAlone (wsV RX12 574 RX12 yX12_writes wp_M_writes) := goodIn_app (goodIn_r _ [22, 23, 24, 5] rfl rfl) (goodIn_ca (goodIn_r _ [25, 26, 17, 18, 19, 5, 20, 2, 27, 28, 29, 30] rfl rfl) (goodIn_app (goodIn_cls hi_M_writesAlone_X12 gw_X12) (goodIn_nil)))
set_option maxHeartbeats 4000000 in
set_option maxRecDepth 100000 in
theorem b_M_writesAlone {p : Program} {l : Launch} {e : Env} {R : Room} {s : State} {m : MethodId} {args : Array Value} {below : List Frame} {meth : Method} {c : Code} {D : va_G} {K : Nat → ClassId} {A : Nat → Prop} {Q : State → Prop} {τ : Nat → Option Ty} {dom : List Nat} {zb zL : Nat} {zx : Nat → Int32} {zs : Nat → Nat} (hR : 2 ≤ R.frames ∧ 48 ≤ R.locals) (B : Bx p s m args c cX12_writesAlone 4 RX12 wp_M_writesAlone D (tysA K) A) (Z : Sk τ dom) (hz : ZL zb zL zx zs A s s.heap) (h : Nat) (q : Nat → Nat) (Y : MS τ h q) (d : Int) (x2 : Int) (r_d : 0 ≤ d ∧ d ≤ 1) (r_x2 : -4 ≤ x2 ∧ x2 ≤ 92) (σ0 : Nat → va_E) (G0 : GM K h q σ0) (hend : ∀ (σ' : Nat → va_E) (lv : List (Nat × Value)) (pc : Nat), GM K h q σ' → Fr τ [(203, 0), (207, 0)] σ0 σ' → decode cX12_writesAlone pc = .ok (.return_, 1) → V p l e R s m args below meth c 4 D A Q (0, 0) (fd dom σ') lv pc []) : V p l e R s m args below meth c 4 D A Q (0, 0) (fd dom σ0) [(0, .ref h), (1, .int (iI d)), (2, .int (iI x2))] 0 [] := by
  have F0 : Fr τ [(203, 0), (207, 0)] σ0 σ0 := Fr.rf
  obtain ⟨z1, z2, z3, z4, z5, h6, r7, r8, r9, r10, r11⟩ := G0.t.o
  refine v_iload_n B dX12_writesAlone_0 rfl rfl ?_
  refine v_iconst B (v := iI 3) dX12_writesAlone_1 rfl ?_
  refine u_icmp_lt B (tgt := 21) (by omega) (by omega) dX12_writesAlone_2 (by decide +kernel) (fun c12 => ?_) (fun c12 => ?_)
  · exact hend σ0 _ _ G0 F0 dX12_writesAlone_21
  · refine v_iload_n B dX12_writesAlone_5 rfl rfl ?_
    refine v_aload_n B dX12_writesAlone_6 rfl rfl ?_
    refine u_get B Z (C := RX12) (T := TX12) (N := 123) (ci := 12) hi_M_writesAlone_X12 Y.o h6 rfl 104 (by decide +kernel) (List.mem_of_getElem? (i := 1) rfl) rfl dX12_writesAlone_7 ?_
    refine v_iload_n B dX12_writesAlone_10 rfl rfl ?_
    obtain ⟨f13, h14, e15⟩ := ga_104 G0.t
    obtain ⟨z16, e17, r18⟩ := e15 (d : Int).toNat
    refine u_iald B Z (t0 := 0) (ym_104 Y) h14 rfl (by omega) e17 dX12_writesAlone_11 ?_
    refine u_icmp_gt B (tgt := 21) (by omega) (by omega) dX12_writesAlone_12 (by decide +kernel) (fun c19 => ?_) (fun c19 => ?_)
    · exact hend σ0 _ _ G0 F0 dX12_writesAlone_21
    · refine v_iload_n B dX12_writesAlone_15 rfl rfl ?_
      refine v_bipush B (v := iI 43) dX12_writesAlone_16 (by decide +kernel) ?_
      refine u_icmp_le B (tgt := 22) (by omega) (by omega) dX12_writesAlone_18 (by decide +kernel) (fun c20 => ?_) (fun c20 => ?_)
      · refine v_aload_n B dX12_writesAlone_22 rfl rfl ?_
        refine u_get B Z (C := RX12) (T := TX12) (N := 123) (ci := 12) hi_M_writesAlone_X12 Y.o h6 rfl 91 (by decide +kernel) (List.mem_of_getElem? (i := 2) rfl) rfl dX12_writesAlone_23 ?_
        refine v_iconst B (v := iI 1) dX12_writesAlone_26 rfl ?_
        refine u_callSi B Z hz (n := 2) (As := [.ref (q 91), .int (iI 1)]) (rest := []) (c_M_two l D K Z _ _ _ _ h q Y 91 96 1 rfl ⟨by omega, by omega⟩ σ0 (G0.t) (by omega)) gd_M_writesAlone_M_two_489 rfl rfl rfl (by decide +kernel) ⟨Nat.le_trans (by decide +kernel) hR.1, Nat.le_trans (by decide +kernel) hR.2⟩ rfl rfl (Nat.le_of_ble_eq_true rfl) dX12_writesAlone_27 ⟨Nat.zero_le _, Nat.zero_le _⟩ (fun v23 σ21 p22 => ?_)
        obtain ⟨rfl, z24, e25, r26⟩ := p22
        subst e25
        refine v_istore_n B (lv' := [(3, .int (iI z24)), (0, .ref h), (1, .int (iI d)), (2, .int (iI x2))]) dX12_writesAlone_30 rfl (by decide +kernel) rfl ?_
        refine v_aload_n B dX12_writesAlone_31 rfl rfl ?_
        refine v_iload_n B dX12_writesAlone_32 rfl rfl ?_
        refine v_iload_n B dX12_writesAlone_33 rfl rfl ?_
        refine u_callVi B Z hz (n := 2) (As := [.int (iI d), .int (iI z24)]) (rest := []) (c_M_isHandle l D K Z _ _ _ _ h q Y d z24 ⟨by omega, by omega⟩ ⟨by omega, by omega⟩ σ0 (G0.t)) gd_M_writesAlone_M_isHandle_567 rfl rfl rfl (by decide +kernel) ⟨Nat.le_trans (by decide +kernel) hR.1, Nat.le_trans (by decide +kernel) hR.2⟩ Y.o (clsM G0.t) rfl rfl rfl rfl (Nat.le_of_ble_eq_true rfl) dX12_writesAlone_34 ⟨Nat.zero_le _, Nat.zero_le _⟩ (fun v29 σ27 p28 => ?_)
        obtain ⟨rfl, z30, e31, r32, po33⟩ := p28
        subst e31
        refine u_if_eq B (tgt := 57) (by omega) dX12_writesAlone_37 (by decide +kernel) (fun c34 => ?_) (fun c34 => ?_)
        · exact hend σ0 _ _ G0 F0 dX12_writesAlone_57
        · refine v_aload_n B dX12_writesAlone_40 rfl rfl ?_
          refine v_iload_n B dX12_writesAlone_41 rfl rfl ?_
          refine v_iload_n B dX12_writesAlone_42 rfl rfl ?_
          refine v_iconst B (v := iI 2) dX12_writesAlone_43 rfl ?_
          refine u_callVi B Z hz (n := 3) (As := [.int (iI d), .int (iI z24), .int (iI 2)]) (rest := []) (c_M_lacks l D K Z _ _ _ _ h q Y d z24 2 ⟨by omega, by omega⟩ ⟨by omega, by omega⟩ ⟨by omega, by omega⟩ σ0 (G0.t)) gd_M_writesAlone_M_lacks_570 rfl rfl rfl (by decide +kernel) ⟨Nat.le_trans (by decide +kernel) hR.1, Nat.le_trans (by decide +kernel) hR.2⟩ Y.o (clsM G0.t) rfl rfl rfl rfl (Nat.le_of_ble_eq_true rfl) dX12_writesAlone_44 ⟨Nat.zero_le _, Nat.zero_le _⟩ (fun v37 σ35 p36 => ?_)
          obtain ⟨rfl, z38, e39, r40⟩ := p36
          subst e39
          refine u_if_ne B (tgt := 57) (by omega) dX12_writesAlone_47 (by decide +kernel) (fun c41 => ?_) (fun c41 => ?_)
          · exact hend σ0 _ _ G0 F0 dX12_writesAlone_57
          · refine v_aload_n B dX12_writesAlone_50 rfl rfl ?_
            refine v_iload_n B dX12_writesAlone_51 rfl rfl ?_
            refine v_iload_n B dX12_writesAlone_52 rfl rfl ?_
            refine v_iload_n B dX12_writesAlone_53 rfl rfl ?_
            refine u_callVv B Z hz (n := 3) (As := [.int (iI d), .int (iI z24), .int (iI x2)]) (rest := []) (c_M_writes l D K Z _ _ _ _ h q Y d z24 x2 ⟨by omega, by omega⟩ ⟨by omega, by omega⟩ ⟨by omega, by omega⟩ σ0 G0 (by omega)) gd_M_writesAlone_M_writes_574 rfl rfl rfl (by decide +kernel) ⟨Nat.le_trans (by decide +kernel) hR.1, Nat.le_trans (by decide +kernel) hR.2⟩ Y.o (clsM G0.t) rfl rfl rfl rfl (Nat.le_of_ble_eq_true rfl) dX12_writesAlone_54 ⟨Nat.zero_le _, Nat.zero_le _⟩ (fun σ42 p43 => ?_)
            obtain ⟨G45, F46⟩ := p43
            have F47 := F0.call F46 (by first | rfl | simp)
            exact hend σ42 _ _ G45 F47 dX12_writesAlone_57
      · exact hend σ0 _ _ G0 F0 dX12_writesAlone_21
set_option maxRecDepth 100000 in
theorem c_M_writesAlone (l : Launch) (D : va_G) (K : Nat → ClassId) {τ : Nat → Option Ty} {dom : List Nat} (Z : Sk τ dom) (zb zL : Nat) (zx : Nat → Int32) (zs : Nat → Nat) (h : Nat) (q : Nat → Nat) (Y : MS τ h q) (d : Int) (x2 : Int) (r_d : 0 ≤ d ∧ d ≤ 1) (r_x2 : -4 ≤ x2 ∧ x2 ≤ 92) (σ0 : Nat → va_E) (G0 : GM K h q σ0) : MZ l yX12_writesAlone wp_M_writesAlone ({ frames := 2, cells := 0, slots := 0, locals := 48 }) D (tysA K) [.ref h, .int (iI d), .int (iI x2)] (fd dom σ0) zb zL zx zs (Qv D (fun σ' => GM K h q σ' ∧ Fr τ [(203, 0), (207, 0)] σ0 σ') (fun σ' => fd dom σ')) 0 0 := by
  refine mz_of (cc := cX12_writesAlone) (maxL := 4) (ret := none) (by decide +kernel) rfl (Nat.le_of_ble_eq_true rfl) ?_
  intro p e s m below meth c A B hr hlk _ hz
  exact b_M_writesAlone ⟨Nat.le_refl _, Nat.le_refl _⟩ B Z hz h q Y d x2 r_d r_x2 σ0 G0 (fun σ' lv pc G F hd => v_vret B hr hlk σ' ⟨G, F⟩ rfl (Nat.le_refl _) (Nat.le_refl _) hd)

def wp_M_hasBytes : List Cond := .code yX12_hasBytes cX12_hasBytes 4 (some .boolean) :: (([.fieldLink RX12 332 "LowEnergyModel" "mtu" "[I", .fieldLink RX12 293 "LowEnergyModel" "asks" "[B", .methodLink RX12 489 yX12_two, .static yX12_two, .initialized RX12, .code yX12_two cX12_two 2 (some .int)] : List Cond) ++ (wsX120 ++ ([])))
theorem hi_M_hasBytes_X12 : ∀ x ∈ u_ws RX12 TX12 123, x ∈ wp_M_hasBytes := fun _ h => List.mem_cons_of_mem _ (List.mem_append_right _ (List.mem_append_left _ h))
set_option maxRecDepth 100000 in
theorem gd_M_hasBytes_M_two_489 : GoodIn wp_M_hasBytes (va_wsS RX12 489 yX12_two wp_M_two) := goodIn_app (goodIn_r _ [3, 4, 5] rfl rfl) (goodIn_ca (goodIn_r _ [6] rfl rfl) (goodIn_nil))
set_option maxHeartbeats 4000000 in
set_option maxRecDepth 100000 in
theorem b_M_hasBytes {p : Program} {l : Launch} {e : Env} {R : Room} {s : State} {m : MethodId} {args : Array Value} {below : List Frame} {meth : Method} {c : Code} {D : va_G} {K : Nat → ClassId} {A : Nat → Prop} {Q : State → Prop} {τ : Nat → Option Ty} {dom : List Nat} {zb zL : Nat} {zx : Nat → Int32} {zs : Nat → Nat} (hR : 1 ≤ R.frames ∧ 21 ≤ R.locals) (B : Bx p s m args c cX12_hasBytes 4 RX12 wp_M_hasBytes D (tysA K) A) (Z : Sk τ dom) (hz : ZL zb zL zx zs A s s.heap) (h : Nat) (q : Nat → Nat) (Y : MS τ h q) (d : Int) (x2 : Int) (x3 : Int) (r_d : 0 ≤ d ∧ d ≤ 1) (r_x2 : 0 ≤ x2 ∧ x2 ≤ 255) (r_x3 : -4 ≤ x3 ∧ x3 ≤ 92) (σ0 : Nat → va_E) (G0 : GT K h q σ0) (hend : ∀ (z : Int) (lv : List (Nat × Value)) (pc : Nat), (0 ≤ z ∧ z ≤ 1) → (z = 1 → x3 ≤ 64 ∧ (x2 = 18 → 3 ≤ x3) ∧ (x2 = 22 → 5 ≤ x3)) → decode cX12_hasBytes pc = .ok (.ireturn, 1) → V p l e R s m args below meth c 4 D A Q (0, 0) (fd dom σ0) lv pc [.int (iI z)]) : V p l e R s m args below meth c 4 D A Q (0, 0) (fd dom σ0) [(0, .ref h), (1, .int (iI d)), (2, .int (iI x2)), (3, .int (iI x3))] 0 [] := by
  obtain ⟨z1, z2, z3, z4, z5, h6, r7, r8, r9, r10, r11⟩ := G0.o
  refine v_iload_n B dX12_hasBytes_0 rfl rfl ?_
  refine v_aload_n B dX12_hasBytes_1 rfl rfl ?_
  refine u_get B Z (C := RX12) (T := TX12) (N := 123) (ci := 12) hi_M_hasBytes_X12 Y.o h6 rfl 104 (by decide +kernel) (List.mem_of_getElem? (i := 1) rfl) rfl dX12_hasBytes_2 ?_
  refine v_iload_n B dX12_hasBytes_5 rfl rfl ?_
  obtain ⟨f12, h13, e14⟩ := ga_104 G0
  obtain ⟨z15, e16, r17⟩ := e14 (d : Int).toNat
  refine u_iald B Z (t0 := 0) (ym_104 Y) h13 rfl (by omega) e16 dX12_hasBytes_6 ?_
  refine u_icmp_le B (tgt := 12) (by omega) (by omega) dX12_hasBytes_7 (by decide +kernel) (fun c18 => ?_) (fun c18 => ?_)
  · refine v_iload_n B dX12_hasBytes_12 rfl rfl ?_
    refine u_tsw B (tgtd := 204) (by omega) dX12_hasBytes_13 (by decide +kernel) ?_ ?_ (tswM (by decide +kernel)) (by decide +kernel)
    · intro i19 o20 g21 o22 x23 t24
      match i19, o22, x23 with
      | 0, o22, x23 =>
        replace o22 : o20 = 99 := by simp at o22; omega
        obtain rfl : g21 = 112 := by omega
        refine v_iload_n B dX12_hasBytes_112 rfl rfl ?_
        refine v_iconst B (v := iI 3) dX12_hasBytes_113 rfl ?_
        refine u_icmp_ne B (tgt := 134) (by omega) (by omega) dX12_hasBytes_114 (by decide +kernel) (fun c25 => ?_) (fun c25 => ?_)
        · refine v_iconst B (v := iI 0) dX12_hasBytes_134 rfl ?_
          exact hend 0 _ _ ⟨by omega, by omega⟩ (fun q => by omega) dX12_hasBytes_135
        · refine v_aload_n B dX12_hasBytes_117 rfl rfl ?_
          refine u_get B Z (C := RX12) (T := TX12) (N := 123) (ci := 12) hi_M_hasBytes_X12 Y.o h6 rfl 91 (by decide +kernel) (List.mem_of_getElem? (i := 2) rfl) rfl dX12_hasBytes_118 ?_
          refine v_iconst B (v := iI 1) dX12_hasBytes_121 rfl ?_
          refine u_callSi B Z hz (n := 2) (As := [.ref (q 91), .int (iI 1)]) (rest := []) (c_M_two l D K Z _ _ _ _ h q Y 91 96 1 rfl ⟨by omega, by omega⟩ σ0 (G0) (by omega)) gd_M_hasBytes_M_two_489 rfl rfl rfl (by decide +kernel) ⟨Nat.le_trans (by decide +kernel) hR.1, Nat.le_trans (by decide +kernel) hR.2⟩ rfl rfl (Nat.le_of_ble_eq_true rfl) dX12_hasBytes_122 ⟨Nat.zero_le _, Nat.zero_le _⟩ (fun v28 σ26 p27 => ?_)
          obtain ⟨rfl, z29, e30, r31⟩ := p27
          subst e30
          refine v_bipush B (v := iI 22) dX12_hasBytes_125 (by decide +kernel) ?_
          refine u_icmp_le B (tgt := 134) (by omega) (by omega) dX12_hasBytes_127 (by decide +kernel) (fun c32 => ?_) (fun c32 => ?_)
          · refine v_iconst B (v := iI 0) dX12_hasBytes_134 rfl ?_
            exact hend 0 _ _ ⟨by omega, by omega⟩ (fun q => by omega) dX12_hasBytes_135
          · refine v_iconst B (v := iI 1) dX12_hasBytes_130 rfl ?_
            refine v_goto B (tgt := 135) dX12_hasBytes_131 (by decide +kernel) ?_
            exact hend 1 _ _ ⟨by omega, by omega⟩ (fun q => by omega) dX12_hasBytes_135
      | 1, o22, x23 =>
        replace o22 : o20 = 191 := by simp at o22; omega
        obtain rfl : g21 = 204 := by omega
        refine v_iload_n B dX12_hasBytes_204 rfl rfl ?_
        refine v_iconst B (v := iI 2) dX12_hasBytes_205 rfl ?_
        refine u_icmp_ne B (tgt := 213) (by omega) (by omega) dX12_hasBytes_206 (by decide +kernel) (fun c33 => ?_) (fun c33 => ?_)
        · refine v_iconst B (v := iI 0) dX12_hasBytes_213 rfl ?_
          exact hend 0 _ _ ⟨by omega, by omega⟩ (fun q => by omega) dX12_hasBytes_214
        · refine v_iconst B (v := iI 1) dX12_hasBytes_209 rfl ?_
          refine v_goto B (tgt := 214) dX12_hasBytes_210 (by decide +kernel) ?_
          exact hend 1 _ _ ⟨by omega, by omega⟩ (fun q => by omega) dX12_hasBytes_214
      | 2, o22, x23 =>
        replace o22 : o20 = 123 := by simp at o22; omega
        obtain rfl : g21 = 136 := by omega
        refine v_iload_n B dX12_hasBytes_136 rfl rfl ?_
        refine v_iconst B (v := iI 5) dX12_hasBytes_137 rfl ?_
        refine u_icmp_ne B (tgt := 145) (by omega) (by omega) dX12_hasBytes_138 (by decide +kernel) (fun c34 => ?_) (fun c34 => ?_)
        · refine v_iconst B (v := iI 0) dX12_hasBytes_145 rfl ?_
          exact hend 0 _ _ ⟨by omega, by omega⟩ (fun q => by omega) dX12_hasBytes_146
        · refine v_iconst B (v := iI 1) dX12_hasBytes_141 rfl ?_
          refine v_goto B (tgt := 146) dX12_hasBytes_142 (by decide +kernel) ?_
          exact hend 1 _ _ ⟨by omega, by omega⟩ (fun q => by omega) dX12_hasBytes_146
      | 3, o22, x23 =>
        replace o22 : o20 = 191 := by simp at o22; omega
        obtain rfl : g21 = 204 := by omega
        refine v_iload_n B dX12_hasBytes_204 rfl rfl ?_
        refine v_iconst B (v := iI 2) dX12_hasBytes_205 rfl ?_
        refine u_icmp_ne B (tgt := 213) (by omega) (by omega) dX12_hasBytes_206 (by decide +kernel) (fun c35 => ?_) (fun c35 => ?_)
        · refine v_iconst B (v := iI 0) dX12_hasBytes_213 rfl ?_
          exact hend 0 _ _ ⟨by omega, by omega⟩ (fun q => by omega) dX12_hasBytes_214
        · refine v_iconst B (v := iI 1) dX12_hasBytes_209 rfl ?_
          refine v_goto B (tgt := 214) dX12_hasBytes_210 (by decide +kernel) ?_
          exact hend 1 _ _ ⟨by omega, by omega⟩ (fun q => by omega) dX12_hasBytes_214
      | 4, o22, x23 =>
        replace o22 : o20 = 134 := by simp at o22; omega
        obtain rfl : g21 = 147 := by omega
        refine v_iload_n B dX12_hasBytes_147 rfl rfl ?_
        refine v_bipush B (v := iI 7) dX12_hasBytes_148 (by decide +kernel) ?_
        refine u_icmp_lt B (tgt := 157) (by omega) (by omega) dX12_hasBytes_150 (by decide +kernel) (fun c36 => ?_) (fun c36 => ?_)
        · refine v_iconst B (v := iI 0) dX12_hasBytes_157 rfl ?_
          exact hend 0 _ _ ⟨by omega, by omega⟩ (fun q => by omega) dX12_hasBytes_158
        · refine v_iconst B (v := iI 1) dX12_hasBytes_153 rfl ?_
          refine v_goto B (tgt := 158) dX12_hasBytes_154 (by decide +kernel) ?_
          exact hend 1 _ _ ⟨by omega, by omega⟩ (fun q => by omega) dX12_hasBytes_158
      | 5, o22, x23 =>
        replace o22 : o20 = 191 := by simp at o22; omega
        obtain rfl : g21 = 204 := by omega
        refine v_iload_n B dX12_hasBytes_204 rfl rfl ?_
        refine v_iconst B (v := iI 2) dX12_hasBytes_205 rfl ?_
        refine u_icmp_ne B (tgt := 213) (by omega) (by omega) dX12_hasBytes_206 (by decide +kernel) (fun c37 => ?_) (fun c37 => ?_)
        · refine v_iconst B (v := iI 0) dX12_hasBytes_213 rfl ?_
          exact hend 0 _ _ ⟨by omega, by omega⟩ (fun q => by omega) dX12_hasBytes_214
        · refine v_iconst B (v := iI 1) dX12_hasBytes_209 rfl ?_
          refine v_goto B (tgt := 214) dX12_hasBytes_210 (by decide +kernel) ?_
          exact hend 1 _ _ ⟨by omega, by omega⟩ (fun q => by omega) dX12_hasBytes_214
      | 6, o22, x23 =>
        replace o22 : o20 = 146 := by simp at o22; omega
        obtain rfl : g21 = 159 := by omega
        refine v_iload_n B dX12_hasBytes_159 rfl rfl ?_
        refine v_bipush B (v := iI 7) dX12_hasBytes_160 (by decide +kernel) ?_
        refine u_icmp_ne B (tgt := 169) (by omega) (by omega) dX12_hasBytes_162 (by decide +kernel) (fun c38 => ?_) (fun c38 => ?_)
        · refine v_iconst B (v := iI 0) dX12_hasBytes_169 rfl ?_
          exact hend 0 _ _ ⟨by omega, by omega⟩ (fun q => by omega) dX12_hasBytes_170
        · refine v_iconst B (v := iI 1) dX12_hasBytes_165 rfl ?_
          refine v_goto B (tgt := 170) dX12_hasBytes_166 (by decide +kernel) ?_
          exact hend 1 _ _ ⟨by omega, by omega⟩ (fun q => by omega) dX12_hasBytes_170
      | 7, o22, x23 =>
        replace o22 : o20 = 191 := by simp at o22; omega
        obtain rfl : g21 = 204 := by omega
        refine v_iload_n B dX12_hasBytes_204 rfl rfl ?_
        refine v_iconst B (v := iI 2) dX12_hasBytes_205 rfl ?_
        refine u_icmp_ne B (tgt := 213) (by omega) (by omega) dX12_hasBytes_206 (by decide +kernel) (fun c39 => ?_) (fun c39 => ?_)
        · refine v_iconst B (v := iI 0) dX12_hasBytes_213 rfl ?_
          exact hend 0 _ _ ⟨by omega, by omega⟩ (fun q => by omega) dX12_hasBytes_214
        · refine v_iconst B (v := iI 1) dX12_hasBytes_209 rfl ?_
          refine v_goto B (tgt := 214) dX12_hasBytes_210 (by decide +kernel) ?_
          exact hend 1 _ _ ⟨by omega, by omega⟩ (fun q => by omega) dX12_hasBytes_214
      | 8, o22, x23 =>
        replace o22 : o20 = 158 := by simp at o22; omega
        obtain rfl : g21 = 171 := by omega
        refine v_iload_n B dX12_hasBytes_171 rfl rfl ?_
        refine v_iconst B (v := iI 3) dX12_hasBytes_172 rfl ?_
        refine u_icmp_ne B (tgt := 180) (by omega) (by omega) dX12_hasBytes_173 (by decide +kernel) (fun c40 => ?_) (fun c40 => ?_)
        · refine v_iconst B (v := iI 0) dX12_hasBytes_180 rfl ?_
          exact hend 0 _ _ ⟨by omega, by omega⟩ (fun q => by omega) dX12_hasBytes_181
        · refine v_iconst B (v := iI 1) dX12_hasBytes_176 rfl ?_
          refine v_goto B (tgt := 181) dX12_hasBytes_177 (by decide +kernel) ?_
          exact hend 1 _ _ ⟨by omega, by omega⟩ (fun q => by omega) dX12_hasBytes_181
      | 9, o22, x23 =>
        replace o22 : o20 = 191 := by simp at o22; omega
        obtain rfl : g21 = 204 := by omega
        refine v_iload_n B dX12_hasBytes_204 rfl rfl ?_
        refine v_iconst B (v := iI 2) dX12_hasBytes_205 rfl ?_
        refine u_icmp_ne B (tgt := 213) (by omega) (by omega) dX12_hasBytes_206 (by decide +kernel) (fun c41 => ?_) (fun c41 => ?_)
        · refine v_iconst B (v := iI 0) dX12_hasBytes_213 rfl ?_
          exact hend 0 _ _ ⟨by omega, by omega⟩ (fun q => by omega) dX12_hasBytes_214
        · refine v_iconst B (v := iI 1) dX12_hasBytes_209 rfl ?_
          refine v_goto B (tgt := 214) dX12_hasBytes_210 (by decide +kernel) ?_
          exact hend 1 _ _ ⟨by omega, by omega⟩ (fun q => by omega) dX12_hasBytes_214
      | 10, o22, x23 =>
        replace o22 : o20 = 123 := by simp at o22; omega
        obtain rfl : g21 = 136 := by omega
        refine v_iload_n B dX12_hasBytes_136 rfl rfl ?_
        refine v_iconst B (v := iI 5) dX12_hasBytes_137 rfl ?_
        refine u_icmp_ne B (tgt := 145) (by omega) (by omega) dX12_hasBytes_138 (by decide +kernel) (fun c42 => ?_) (fun c42 => ?_)
        · refine v_iconst B (v := iI 0) dX12_hasBytes_145 rfl ?_
          exact hend 0 _ _ ⟨by omega, by omega⟩ (fun q => by omega) dX12_hasBytes_146
        · refine v_iconst B (v := iI 1) dX12_hasBytes_141 rfl ?_
          refine v_goto B (tgt := 146) dX12_hasBytes_142 (by decide +kernel) ?_
          exact hend 1 _ _ ⟨by omega, by omega⟩ (fun q => by omega) dX12_hasBytes_146
      | 11, o22, x23 =>
        replace o22 : o20 = 191 := by simp at o22; omega
        obtain rfl : g21 = 204 := by omega
        refine v_iload_n B dX12_hasBytes_204 rfl rfl ?_
        refine v_iconst B (v := iI 2) dX12_hasBytes_205 rfl ?_
        refine u_icmp_ne B (tgt := 213) (by omega) (by omega) dX12_hasBytes_206 (by decide +kernel) (fun c43 => ?_) (fun c43 => ?_)
        · refine v_iconst B (v := iI 0) dX12_hasBytes_213 rfl ?_
          exact hend 0 _ _ ⟨by omega, by omega⟩ (fun q => by omega) dX12_hasBytes_214
        · refine v_iconst B (v := iI 1) dX12_hasBytes_209 rfl ?_
          refine v_goto B (tgt := 214) dX12_hasBytes_210 (by decide +kernel) ?_
          exact hend 1 _ _ ⟨by omega, by omega⟩ (fun q => by omega) dX12_hasBytes_214
      | 12, o22, x23 =>
        replace o22 : o20 = 191 := by simp at o22; omega
        obtain rfl : g21 = 204 := by omega
        refine v_iload_n B dX12_hasBytes_204 rfl rfl ?_
        refine v_iconst B (v := iI 2) dX12_hasBytes_205 rfl ?_
        refine u_icmp_ne B (tgt := 213) (by omega) (by omega) dX12_hasBytes_206 (by decide +kernel) (fun c44 => ?_) (fun c44 => ?_)
        · refine v_iconst B (v := iI 0) dX12_hasBytes_213 rfl ?_
          exact hend 0 _ _ ⟨by omega, by omega⟩ (fun q => by omega) dX12_hasBytes_214
        · refine v_iconst B (v := iI 1) dX12_hasBytes_209 rfl ?_
          refine v_goto B (tgt := 214) dX12_hasBytes_210 (by decide +kernel) ?_
          exact hend 1 _ _ ⟨by omega, by omega⟩ (fun q => by omega) dX12_hasBytes_214
      | 13, o22, x23 =>
        replace o22 : o20 = 191 := by simp at o22; omega
        obtain rfl : g21 = 204 := by omega
        refine v_iload_n B dX12_hasBytes_204 rfl rfl ?_
        refine v_iconst B (v := iI 2) dX12_hasBytes_205 rfl ?_
        refine u_icmp_ne B (tgt := 213) (by omega) (by omega) dX12_hasBytes_206 (by decide +kernel) (fun c45 => ?_) (fun c45 => ?_)
        · refine v_iconst B (v := iI 0) dX12_hasBytes_213 rfl ?_
          exact hend 0 _ _ ⟨by omega, by omega⟩ (fun q => by omega) dX12_hasBytes_214
        · refine v_iconst B (v := iI 1) dX12_hasBytes_209 rfl ?_
          refine v_goto B (tgt := 214) dX12_hasBytes_210 (by decide +kernel) ?_
          exact hend 1 _ _ ⟨by omega, by omega⟩ (fun q => by omega) dX12_hasBytes_214
      | 14, o22, x23 =>
        replace o22 : o20 = 146 := by simp at o22; omega
        obtain rfl : g21 = 159 := by omega
        refine v_iload_n B dX12_hasBytes_159 rfl rfl ?_
        refine v_bipush B (v := iI 7) dX12_hasBytes_160 (by decide +kernel) ?_
        refine u_icmp_ne B (tgt := 169) (by omega) (by omega) dX12_hasBytes_162 (by decide +kernel) (fun c46 => ?_) (fun c46 => ?_)
        · refine v_iconst B (v := iI 0) dX12_hasBytes_169 rfl ?_
          exact hend 0 _ _ ⟨by omega, by omega⟩ (fun q => by omega) dX12_hasBytes_170
        · refine v_iconst B (v := iI 1) dX12_hasBytes_165 rfl ?_
          refine v_goto B (tgt := 170) dX12_hasBytes_166 (by decide +kernel) ?_
          exact hend 1 _ _ ⟨by omega, by omega⟩ (fun q => by omega) dX12_hasBytes_170
      | 15, o22, x23 =>
        replace o22 : o20 = 191 := by simp at o22; omega
        obtain rfl : g21 = 204 := by omega
        refine v_iload_n B dX12_hasBytes_204 rfl rfl ?_
        refine v_iconst B (v := iI 2) dX12_hasBytes_205 rfl ?_
        refine u_icmp_ne B (tgt := 213) (by omega) (by omega) dX12_hasBytes_206 (by decide +kernel) (fun c47 => ?_) (fun c47 => ?_)
        · refine v_iconst B (v := iI 0) dX12_hasBytes_213 rfl ?_
          exact hend 0 _ _ ⟨by omega, by omega⟩ (fun q => by omega) dX12_hasBytes_214
        · refine v_iconst B (v := iI 1) dX12_hasBytes_209 rfl ?_
          refine v_goto B (tgt := 214) dX12_hasBytes_210 (by decide +kernel) ?_
          exact hend 1 _ _ ⟨by omega, by omega⟩ (fun q => by omega) dX12_hasBytes_214
      | 16, o22, x23 =>
        replace o22 : o20 = 169 := by simp at o22; omega
        obtain rfl : g21 = 182 := by omega
        refine v_iload_n B dX12_hasBytes_182 rfl rfl ?_
        refine v_iconst B (v := iI 3) dX12_hasBytes_183 rfl ?_
        refine u_icmp_lt B (tgt := 191) (by omega) (by omega) dX12_hasBytes_184 (by decide +kernel) (fun c48 => ?_) (fun c48 => ?_)
        · refine v_iconst B (v := iI 0) dX12_hasBytes_191 rfl ?_
          exact hend 0 _ _ ⟨by omega, by omega⟩ (fun q => by omega) dX12_hasBytes_192
        · refine v_iconst B (v := iI 1) dX12_hasBytes_187 rfl ?_
          refine v_goto B (tgt := 192) dX12_hasBytes_188 (by decide +kernel) ?_
          exact hend 1 _ _ ⟨by omega, by omega⟩ (fun q => by omega) dX12_hasBytes_192
      | 17, o22, x23 =>
        replace o22 : o20 = 191 := by simp at o22; omega
        obtain rfl : g21 = 204 := by omega
        refine v_iload_n B dX12_hasBytes_204 rfl rfl ?_
        refine v_iconst B (v := iI 2) dX12_hasBytes_205 rfl ?_
        refine u_icmp_ne B (tgt := 213) (by omega) (by omega) dX12_hasBytes_206 (by decide +kernel) (fun c49 => ?_) (fun c49 => ?_)
        · refine v_iconst B (v := iI 0) dX12_hasBytes_213 rfl ?_
          exact hend 0 _ _ ⟨by omega, by omega⟩ (fun q => by omega) dX12_hasBytes_214
        · refine v_iconst B (v := iI 1) dX12_hasBytes_209 rfl ?_
          refine v_goto B (tgt := 214) dX12_hasBytes_210 (by decide +kernel) ?_
          exact hend 1 _ _ ⟨by omega, by omega⟩ (fun q => by omega) dX12_hasBytes_214
      | 18, o22, x23 =>
        replace o22 : o20 = 191 := by simp at o22; omega
        obtain rfl : g21 = 204 := by omega
        refine v_iload_n B dX12_hasBytes_204 rfl rfl ?_
        refine v_iconst B (v := iI 2) dX12_hasBytes_205 rfl ?_
        refine u_icmp_ne B (tgt := 213) (by omega) (by omega) dX12_hasBytes_206 (by decide +kernel) (fun c50 => ?_) (fun c50 => ?_)
        · refine v_iconst B (v := iI 0) dX12_hasBytes_213 rfl ?_
          exact hend 0 _ _ ⟨by omega, by omega⟩ (fun q => by omega) dX12_hasBytes_214
        · refine v_iconst B (v := iI 1) dX12_hasBytes_209 rfl ?_
          refine v_goto B (tgt := 214) dX12_hasBytes_210 (by decide +kernel) ?_
          exact hend 1 _ _ ⟨by omega, by omega⟩ (fun q => by omega) dX12_hasBytes_214
      | 19, o22, x23 =>
        replace o22 : o20 = 191 := by simp at o22; omega
        obtain rfl : g21 = 204 := by omega
        refine v_iload_n B dX12_hasBytes_204 rfl rfl ?_
        refine v_iconst B (v := iI 2) dX12_hasBytes_205 rfl ?_
        refine u_icmp_ne B (tgt := 213) (by omega) (by omega) dX12_hasBytes_206 (by decide +kernel) (fun c51 => ?_) (fun c51 => ?_)
        · refine v_iconst B (v := iI 0) dX12_hasBytes_213 rfl ?_
          exact hend 0 _ _ ⟨by omega, by omega⟩ (fun q => by omega) dX12_hasBytes_214
        · refine v_iconst B (v := iI 1) dX12_hasBytes_209 rfl ?_
          refine v_goto B (tgt := 214) dX12_hasBytes_210 (by decide +kernel) ?_
          exact hend 1 _ _ ⟨by omega, by omega⟩ (fun q => by omega) dX12_hasBytes_214
      | 20, o22, x23 =>
        replace o22 : o20 = 180 := by simp at o22; omega
        obtain rfl : g21 = 193 := by omega
        refine v_iload_n B dX12_hasBytes_193 rfl rfl ?_
        refine v_iconst B (v := iI 5) dX12_hasBytes_194 rfl ?_
        refine u_icmp_lt B (tgt := 202) (by omega) (by omega) dX12_hasBytes_195 (by decide +kernel) (fun c52 => ?_) (fun c52 => ?_)
        · refine v_iconst B (v := iI 0) dX12_hasBytes_202 rfl ?_
          exact hend 0 _ _ ⟨by omega, by omega⟩ (fun q => by omega) dX12_hasBytes_203
        · refine v_iconst B (v := iI 1) dX12_hasBytes_198 rfl ?_
          refine v_goto B (tgt := 203) dX12_hasBytes_199 (by decide +kernel) ?_
          exact hend 1 _ _ ⟨by omega, by omega⟩ (fun q => by omega) dX12_hasBytes_203
      | i19 + 21, o22, x23 => exact absurd (o22.symm.trans (Array.getElem?_eq_none (by simp))) (by simp)
    · intro x23
      have rx23 := tswD x23 (by decide +kernel) (tswM (by decide +kernel))
      refine v_iload_n B dX12_hasBytes_204 rfl rfl ?_
      refine v_iconst B (v := iI 2) dX12_hasBytes_205 rfl ?_
      refine u_icmp_ne B (tgt := 213) (by omega) (by omega) dX12_hasBytes_206 (by decide +kernel) (fun c53 => ?_) (fun c53 => ?_)
      · refine v_iconst B (v := iI 0) dX12_hasBytes_213 rfl ?_
        exact hend 0 _ _ ⟨by omega, by omega⟩ (fun q => by omega) dX12_hasBytes_214
      · refine v_iconst B (v := iI 1) dX12_hasBytes_209 rfl ?_
        refine v_goto B (tgt := 214) dX12_hasBytes_210 (by decide +kernel) ?_
        exact hend 1 _ _ ⟨by omega, by omega⟩ (fun q => by omega) dX12_hasBytes_214
  · refine v_iconst B (v := iI 0) dX12_hasBytes_10 rfl ?_
    exact hend 0 _ _ ⟨by omega, by omega⟩ (fun q => by omega) dX12_hasBytes_11
set_option maxRecDepth 100000 in
theorem c_M_hasBytes (l : Launch) (D : va_G) (K : Nat → ClassId) {τ : Nat → Option Ty} {dom : List Nat} (Z : Sk τ dom) (zb zL : Nat) (zx : Nat → Int32) (zs : Nat → Nat) (h : Nat) (q : Nat → Nat) (Y : MS τ h q) (d : Int) (x2 : Int) (x3 : Int) (r_d : 0 ≤ d ∧ d ≤ 1) (r_x2 : 0 ≤ x2 ∧ x2 ≤ 255) (r_x3 : -4 ≤ x3 ∧ x3 ≤ 92) (σ0 : Nat → va_E) (G0 : GT K h q σ0) : MZ l yX12_hasBytes wp_M_hasBytes ({ frames := 1, cells := 0, slots := 0, locals := 21 }) D (tysA K) [.ref h, .int (iI d), .int (iI x2), .int (iI x3)] (fd dom σ0) zb zL zx zs (Qi D (fun r σ' => σ0 = σ' ∧ ∃ z : Int, r = iI z ∧ (0 ≤ z ∧ z ≤ 1) ∧ (z = 1 → x3 ≤ 64 ∧ (x2 = 18 → 3 ≤ x3) ∧ (x2 = 22 → 5 ≤ x3))) (fun σ' => fd dom σ')) 0 0 := by
  refine mz_of (cc := cX12_hasBytes) (maxL := 4) (ret := (some .boolean)) (by decide +kernel) rfl (Nat.le_of_ble_eq_true rfl) ?_
  intro p e s m below meth c A B hr hlk _ hz
  exact b_M_hasBytes ⟨Nat.le_refl _, Nat.le_refl _⟩ B Z hz h q Y d x2 x3 r_d r_x2 r_x3 σ0 G0 (fun z lv pc hZ hP hd => v_zret B hr hlk (nar01 (by omega)) σ0 ⟨rfl, z, rfl, hZ, hP⟩ rfl (Nat.le_refl _) (Nat.le_refl _) hd)

def wp_M_mtus : List Cond := .code yX12_mtus cX12_mtus 3 none :: (([.fieldLink RX12 332 "LowEnergyModel" "mtu" "[I", .fieldLink RX12 335 "LowEnergyModel" "ownMtu" "[I", .methodLink RX12 404 Lib.Math.min.name, .static Lib.Math.min.name, .initialized "java/lang/Math", .code Lib.Math.min.name Lib.Math.min.code 2 (some .int), .methodLink RX12 596 Lib.Math.max.name, .static Lib.Math.max.name, .code Lib.Math.max.name Lib.Math.max.code 2 (some .int), .fieldLink RX12 290 "LowEnergyModel" "said" "[B", .methodLink RX12 432 yX12_number, .static yX12_number, .initialized RX12, .code yX12_number cX12_number 6 none, .methodLink RX12 527 yX12_says, .instanceMethod yX12_says, .selects RX12 yX12_says yX12_says, .code yX12_says cX12_says 5 none, .fieldLink RX12 275 "LowEnergyModel" "messages" "[I", .fieldLink RX12 266 "LowEnergyModel" "message" "[B", .methodLink RX12 29 yX12_copy, .static yX12_copy, .code yX12_copy cX12_copy 6 none, .fieldLink RX12 272 "LowEnergyModel" "messageMany" "[I"] : List Cond) ++ (wsX120 ++ ([])))
theorem hi_M_mtus_X12 : ∀ x ∈ u_ws RX12 TX12 123, x ∈ wp_M_mtus := fun _ h => List.mem_cons_of_mem _ (List.mem_append_right _ (List.mem_append_left _ h))
set_option maxRecDepth 100000 in
theorem gd_M_mtus_M_numberP_432 : GoodIn wp_M_mtus (va_wsS RX12 432 yX12_number wp_M_numberP) := goodIn_app (goodIn_r _ [11, 12, 13] rfl rfl) (goodIn_ca (goodIn_r _ [14] rfl rfl) (goodIn_nil))
set_option maxRecDepth 100000 in
theorem gd_M_mtus_M_says_527 : GoodIn wp_M_mtus (wsV RX12 527 RX12 yX12_says wp_M_says) := goodIn_app (goodIn_r _ [15, 16, 17, 13] rfl rfl) (goodIn_ca (goodIn_r _ [18, 19, 20, 11, 12, 13, 14, 10, 21, 22, 23, 24] rfl rfl) (goodIn_app (goodIn_cls hi_M_mtus_X12 gw_X12) (goodIn_nil)))
set_option maxHeartbeats 4000000 in
set_option maxRecDepth 100000 in
theorem b_M_mtus {p : Program} {l : Launch} {e : Env} {R : Room} {s : State} {m : MethodId} {args : Array Value} {below : List Frame} {meth : Method} {c : Code} {D : va_G} {K : Nat → ClassId} {A : Nat → Prop} {Q : State → Prop} {τ : Nat → Option Ty} {dom : List Nat} {zb zL : Nat} {zx : Nat → Int32} {zs : Nat → Nat} (hR : 2 ≤ R.frames ∧ 49 ≤ R.locals) (B : Bx p s m args c cX12_mtus 3 RX12 wp_M_mtus D (tysA K) A) (Z : Sk τ dom) (hz : ZL zb zL zx zs A s s.heap) (h : Nat) (q : Nat → Nat) (Y : MS τ h q) (d : Int) (x2 : Int) (r_d : 0 ≤ d ∧ d ≤ 1) (r_x2 : 0 ≤ x2 ∧ x2 ≤ 65535) (σ0 : Nat → va_E) (G0 : GM K h q σ0) (hM : At σ0 (q 85) (d : Int).toNat (0) (7)) (hend : ∀ (σ' : Nat → va_E) (lv : List (Nat × Value)) (pc : Nat), GM K h q σ' → Fr τ [(204, 0), (190, 0), (182, 0), (184, 0), (185, 0)] σ0 σ' → decode cX12_mtus pc = .ok (.return_, 1) → V p l e R s m args below meth c 3 D A Q (0, 0) (fd dom σ') lv pc []) : V p l e R s m args below meth c 3 D A Q (0, 0) (fd dom σ0) [(0, .ref h), (1, .int (iI d)), (2, .int (iI x2))] 0 [] := by
  have F0 : Fr τ [(204, 0), (190, 0), (182, 0), (184, 0), (185, 0)] σ0 σ0 := Fr.rf
  obtain ⟨z1, z2, z3, z4, z5, h6, r7, r8, r9, r10, r11⟩ := G0.t.o
  obtain ⟨f12, h13, e14⟩ := ga_85 G0.t
  obtain ⟨z15, e16, r17⟩ := e14 (d : Int).toNat
  have r18 := hM.use h13 e16 (by omega)
  refine v_aload_n B dX12_mtus_0 rfl rfl ?_
  refine u_get B Z (C := RX12) (T := TX12) (N := 123) (ci := 12) hi_M_mtus_X12 Y.o h6 rfl 104 (by decide +kernel) (List.mem_of_getElem? (i := 1) rfl) rfl dX12_mtus_1 ?_
  refine v_iload_n B dX12_mtus_4 rfl rfl ?_
  refine v_bipush B (v := iI 23) dX12_mtus_5 (by decide +kernel) ?_
  refine v_iload_n B dX12_mtus_7 rfl rfl ?_
  refine v_aload_n B dX12_mtus_8 rfl rfl ?_
  refine u_get B Z (C := RX12) (T := TX12) (N := 123) (ci := 12) hi_M_mtus_X12 Y.o h6 rfl 105 (by decide +kernel) (List.mem_of_getElem? (i := 2) rfl) rfl dX12_mtus_9 ?_
  refine v_iload_n B dX12_mtus_12 rfl rfl ?_
  obtain ⟨f19, h20, e21⟩ := ga_105 G0.t
  obtain ⟨z22, e23, r24⟩ := e21 (d : Int).toNat
  refine u_iald B Z (t0 := 0) (ym_105 Y) h20 rfl (by omega) e23 dX12_mtus_13 ?_
  obtain ⟨z25, e26, r27⟩ := iI_min (a := x2) (b := z22) (by omega) (by omega)
  refine v_mmin B (v := iI z25) (List.mem_of_getElem? (i := 3) rfl) (List.mem_of_getElem? (i := 4) rfl) (List.mem_of_getElem? (i := 5) rfl) (List.mem_of_getElem? (i := 6) rfl) (Nat.le_trans (by decide +kernel) hR.1) (Nat.le_trans (Nat.le_of_ble_eq_true rfl) hR.2) (Nat.zero_le _) (Nat.zero_le _) e26 dX12_mtus_14 ?_
  obtain ⟨z28, e29, r30⟩ := iI_max (a := 23) (b := z25) (by omega) (by omega)
  refine v_mmax B (v := iI z28) (List.mem_of_getElem? (i := 7) rfl) (List.mem_of_getElem? (i := 8) rfl) (List.mem_of_getElem? (i := 5) rfl) (List.mem_of_getElem? (i := 9) rfl) (Nat.le_trans (by decide +kernel) hR.1) (Nat.le_trans (Nat.le_of_ble_eq_true rfl) hR.2) (Nat.zero_le _) (Nat.zero_le _) e29 dX12_mtus_17 ?_
  obtain ⟨f31, h32, e33⟩ := ga_104 G0.t
  refine u_iast B Z (t0 := 0) (x := iI z28) (ym_104 Y) h32 rfl (by omega) dX12_mtus_20 (fun σ34 h35 n36 => ?_)
  have e37 := el_upd (z := z28) e33 ⟨by omega, by omega⟩ (d : Int).toNat
  have F38 := F0.put (ym_104 Y) (by simp) n36
  have G39 := gp_104 Y G0 ⟨_, h35, e37⟩ n36
  refine v_aload_n B dX12_mtus_21 rfl rfl ?_
  have h40 := (n36 h (ne_ty Y.o (ym_104 Y) (by decide))).trans (h6)
  refine u_get B Z (C := RX12) (T := TX12) (N := 123) (ci := 12) hi_M_mtus_X12 Y.o h40 rfl 90 (by decide +kernel) (List.mem_of_getElem? (i := 10) rfl) rfl dX12_mtus_22 ?_
  refine v_iconst B (v := iI 0) dX12_mtus_25 rfl ?_
  refine v_iconst B (v := iI 3) dX12_mtus_26 rfl ?_
  obtain ⟨f41, h42, e43⟩ := ga_90 G39.t
  refine u_bast B Z (t0 := 2) (x := iI 3) (y := iI 3) (ym_90 Y) h42 rfl (by omega) (nar8 (by omega)) dX12_mtus_27 (fun σ44 h45 n46 => ?_)
  have F47 := F38.put (ym_90 Y) (by simp) n46
  have G48 := gp_90 Y G39 ⟨_, h45, el_upd (z := 3) e43 ⟨by omega, by omega⟩ _⟩ n46
  refine v_aload_n B dX12_mtus_28 rfl rfl ?_
  have h49 := (n46 h (ne_ty Y.o (ym_90 Y) (by decide))).trans (h40)
  refine u_get B Z (C := RX12) (T := TX12) (N := 123) (ci := 12) hi_M_mtus_X12 Y.o h49 rfl 90 (by decide +kernel) (List.mem_of_getElem? (i := 10) rfl) rfl dX12_mtus_29 ?_
  refine v_iconst B (v := iI 1) dX12_mtus_32 rfl ?_
  refine v_aload_n B dX12_mtus_33 rfl rfl ?_
  refine u_get B Z (C := RX12) (T := TX12) (N := 123) (ci := 12) hi_M_mtus_X12 Y.o h49 rfl 105 (by decide +kernel) (List.mem_of_getElem? (i := 2) rfl) rfl dX12_mtus_34 ?_
  refine v_iload_n B dX12_mtus_37 rfl rfl ?_
  have h50 := (n46 (q 105) (ne_ty (ym_105 Y) (ym_90 Y) (by decide))).trans ((n36 (q 105) (ne_ty (ym_105 Y) (ym_104 Y) (by decide))).trans (h20))
  refine u_iald B Z (t0 := 0) (ym_105 Y) h50 rfl (by omega) e23 dX12_mtus_38 ?_
  refine v_i2l B (v := lI z22) dX12_mtus_39 (lI_i (by omega)) ?_
  refine v_iconst B (v := iI 2) dX12_mtus_40 rfl ?_
  refine u_callSv B Z hz (n := 4) (As := [.ref (q 90), .int (iI 1), .long (lI z22), .int (iI 2)]) (rest := []) (c_M_numberP l D K Z _ _ _ _ h q Y 90 96 1 z22 2 rfl ⟨by omega, by omega⟩ ⟨by omega, by omega⟩ ⟨by omega, by omega⟩ σ44 G48 (by omega)) gd_M_mtus_M_numberP_432 rfl rfl rfl (by decide +kernel) ⟨Nat.le_trans (by decide +kernel) hR.1, Nat.le_trans (by decide +kernel) hR.2⟩ rfl rfl (Nat.le_of_ble_eq_true rfl) dX12_mtus_41 ⟨Nat.zero_le _, Nat.zero_le _⟩ (fun σ51 p52 => ?_)
  obtain ⟨G54, F55⟩ := p52
  have F56 := F47.call F55 (by first | rfl | simp)
  refine v_aload_n B dX12_mtus_44 rfl rfl ?_
  refine v_iload_n B dX12_mtus_45 rfl rfl ?_
  refine v_iconst B (v := iI 4) dX12_mtus_46 rfl ?_
  refine v_iconst B (v := iI 3) dX12_mtus_47 rfl ?_
  have h57 := (F55 (q 85) _ (ym_85 Y) (by first | rfl | simp)).trans ((n46 (q 85) (ne_ty (ym_85 Y) (ym_90 Y) (by decide))).trans ((n36 (q 85) (ne_ty (ym_85 Y) (ym_104 Y) (by decide))).trans (h13)))
  refine u_callVv B Z hz (n := 3) (As := [.int (iI d), .int (iI 4), .int (iI 3)]) (rest := []) (c_M_says l D K Z _ _ _ _ h q Y d 4 3 ⟨by omega, by omega⟩ ⟨by omega, by omega⟩ ⟨by omega, by omega⟩ σ51 G54 (At.mk h57 e16 (by omega) ⟨by omega, by omega⟩) (by omega)) gd_M_mtus_M_says_527 rfl rfl rfl (by decide +kernel) ⟨Nat.le_trans (by decide +kernel) hR.1, Nat.le_trans (by decide +kernel) hR.2⟩ Y.o (clsM G54.t) rfl rfl rfl rfl (Nat.le_of_ble_eq_true rfl) dX12_mtus_48 ⟨Nat.zero_le _, Nat.zero_le _⟩ (fun σ58 p59 => ?_)
  obtain ⟨G61, F62⟩ := p59
  have F63 := F56.call F62 (by first | rfl | simp)
  exact hend σ58 _ _ G61 F63 dX12_mtus_51
set_option maxRecDepth 100000 in
theorem c_M_mtus (l : Launch) (D : va_G) (K : Nat → ClassId) {τ : Nat → Option Ty} {dom : List Nat} (Z : Sk τ dom) (zb zL : Nat) (zx : Nat → Int32) (zs : Nat → Nat) (h : Nat) (q : Nat → Nat) (Y : MS τ h q) (d : Int) (x2 : Int) (r_d : 0 ≤ d ∧ d ≤ 1) (r_x2 : 0 ≤ x2 ∧ x2 ≤ 65535) (σ0 : Nat → va_E) (G0 : GM K h q σ0) (hM : At σ0 (q 85) (d : Int).toNat (0) (7)) : MZ l yX12_mtus wp_M_mtus ({ frames := 2, cells := 0, slots := 0, locals := 49 }) D (tysA K) [.ref h, .int (iI d), .int (iI x2)] (fd dom σ0) zb zL zx zs (Qv D (fun σ' => GM K h q σ' ∧ Fr τ [(204, 0), (190, 0), (182, 0), (184, 0), (185, 0)] σ0 σ') (fun σ' => fd dom σ')) 0 0 := by
  refine mz_of (cc := cX12_mtus) (maxL := 3) (ret := none) (by decide +kernel) rfl (Nat.le_of_ble_eq_true rfl) ?_
  intro p e s m below meth c A B hr hlk _ hz
  exact b_M_mtus ⟨Nat.le_refl _, Nat.le_refl _⟩ B Z hz h q Y d x2 r_d r_x2 σ0 G0 hM (fun σ' lv pc G F hd => v_vret B hr hlk σ' ⟨G, F⟩ rfl (Nat.le_refl _) (Nat.le_refl _) hd)

def wp_M_reads : List Cond := .code yX12_reads cX12_reads 9 none :: (([.methodLink RX12 564 yX12_error, .instanceMethod yX12_error, .selects RX12 yX12_error yX12_error, .initialized RX12, .code yX12_error cX12_error 5 none, .fieldLink RX12 290 "LowEnergyModel" "said" "[B", .methodLink RX12 432 yX12_number, .static yX12_number, .code yX12_number cX12_number 6 none, .methodLink RX12 527 yX12_says, .instanceMethod yX12_says, .selects RX12 yX12_says yX12_says, .code yX12_says cX12_says 5 none, .fieldLink RX12 275 "LowEnergyModel" "messages" "[I", .fieldLink RX12 266 "LowEnergyModel" "message" "[B", .methodLink RX12 29 yX12_copy, .static yX12_copy, .code yX12_copy cX12_copy 6 none, .fieldLink RX12 272 "LowEnergyModel" "messageMany" "[I", .fieldLink RX12 329 "LowEnergyModel" "length" "[I", .fieldLink RX12 332 "LowEnergyModel" "mtu" "[I", .methodLink RX12 404 Lib.Math.min.name, .static Lib.Math.min.name, .initialized "java/lang/Math", .code Lib.Math.min.name Lib.Math.min.code 2 (some .int), .fieldLink RX12 341 "LowEnergyModel" "values" "[B", .methodLink RX12 570 yX12_lacks, .instanceMethod yX12_lacks, .selects RX12 yX12_lacks yX12_lacks, .code yX12_lacks cX12_lacks 5 (some .int), .fieldLink RX12 326 "LowEnergyModel" "rights" "[I", .methodLink RX12 547 yX12_row, .instanceMethod yX12_row, .selects RX12 yX12_row yX12_row, .code yX12_row cX12_row 3 (some .int), .fieldLink RX12 239 "LowEnergyModel" "isSecure" "[Z"] : List Cond) ++ (wsX120 ++ ([])))
theorem hi_M_reads_X12 : ∀ x ∈ u_ws RX12 TX12 123, x ∈ wp_M_reads := fun _ h => List.mem_cons_of_mem _ (List.mem_append_right _ (List.mem_append_left _ h))
set_option maxRecDepth 100000 in
theorem gd_M_reads_M_error_564 : GoodIn wp_M_reads (wsV RX12 564 RX12 yX12_error wp_M_error) := goodIn_app (goodIn_r _ [1, 2, 3, 4] rfl rfl) (goodIn_ca (goodIn_r _ [5, 6, 7, 8, 4, 9, 10, 11, 12, 13, 14, 15, 16, 17, 18, 19] rfl rfl) (goodIn_app (goodIn_cls hi_M_reads_X12 gw_X12) (goodIn_nil)))
set_option maxRecDepth 100000 in
theorem gd_M_reads_M_copy_29 : GoodIn wp_M_reads (va_wsS RX12 29 yX12_copy wp_M_copy) := goodIn_app (goodIn_r _ [16, 17, 4] rfl rfl) (goodIn_ca (goodIn_r _ [18] rfl rfl) (goodIn_nil))
set_option maxRecDepth 100000 in
theorem gd_M_reads_M_says_527 : GoodIn wp_M_reads (wsV RX12 527 RX12 yX12_says wp_M_says) := goodIn_app (goodIn_r _ [10, 11, 12, 4] rfl rfl) (goodIn_ca (goodIn_r _ [13, 14, 15, 7, 8, 4, 9, 6, 16, 17, 18, 19] rfl rfl) (goodIn_app (goodIn_cls hi_M_reads_X12 gw_X12) (goodIn_nil)))
set_option maxRecDepth 100000 in
theorem gd_M_reads_M_lacks_570 : GoodIn wp_M_reads (wsV RX12 570 RX12 yX12_lacks wp_M_lacks) := goodIn_app (goodIn_r _ [27, 28, 29, 4] rfl rfl) (goodIn_ca (goodIn_r _ [30, 31, 32, 33, 34, 4, 35, 36] rfl rfl) (goodIn_app (goodIn_cls hi_M_reads_X12 gw_X12) (goodIn_nil)))
set_option maxRecDepth 100000 in
theorem gd_M_reads_M_row_547 : GoodIn wp_M_reads (wsV RX12 547 RX12 yX12_row wp_M_row) := goodIn_app (goodIn_r _ [32, 33, 34, 4] rfl rfl) (goodIn_ca (goodIn_r _ [35] rfl rfl) (goodIn_nil))
set_option maxHeartbeats 4000000 in
set_option maxRecDepth 100000 in
theorem b_M_reads {p : Program} {l : Launch} {e : Env} {R : Room} {s : State} {m : MethodId} {args : Array Value} {below : List Frame} {meth : Method} {c : Code} {D : va_G} {K : Nat → ClassId} {A : Nat → Prop} {Q : State → Prop} {τ : Nat → Option Ty} {dom : List Nat} {zb zL : Nat} {zx : Nat → Int32} {zs : Nat → Nat} (hR : 3 ≤ R.frames ∧ 73 ≤ R.locals) (B : Bx p s m args c cX12_reads 9 RX12 wp_M_reads D (tysA K) A) (Z : Sk τ dom) (hz : ZL zb zL zx zs A s s.heap) (h : Nat) (q : Nat → Nat) (Y : MS τ h q) (d : Int) (x2 : Int) (x3 : Int) (x4 : Int) (r_d : 0 ≤ d ∧ d ≤ 1) (r_x2 : -2147483648 ≤ x2 ∧ x2 ≤ 2147483647) (r_x3 : 1 ≤ x3 ∧ x3 ≤ 20) (r_x4 : 0 ≤ x4 ∧ x4 ≤ 65535) (σ0 : Nat → va_E) (G0 : GM K h q σ0) (hM : At σ0 (q 85) (d : Int).toNat (0) (7)) (hend : ∀ (σ' : Nat → va_E) (lv : List (Nat × Value)) (pc : Nat), GM K h q σ' → Fr τ [(190, 0), (182, 0), (184, 0), (185, 0)] σ0 σ' → decode cX12_reads pc = .ok (.return_, 1) → V p l e R s m args below meth c 9 D A Q (0, 0) (fd dom σ') lv pc []) : V p l e R s m args below meth c 9 D A Q (0, 0) (fd dom σ0) [(0, .ref h), (1, .int (iI d)), (2, .int (iI x2)), (3, .int (iI x3)), (4, .int (iI x4))] 0 [] := by
  have F0 : Fr τ [(190, 0), (182, 0), (184, 0), (185, 0)] σ0 σ0 := Fr.rf
  obtain ⟨z1, z2, z3, z4, z5, h6, r7, r8, r9, r10, r11⟩ := G0.t.o
  obtain ⟨f12, h13, e14⟩ := ga_85 G0.t
  obtain ⟨z15, e16, r17⟩ := e14 (d : Int).toNat
  have r18 := hM.use h13 e16 (by omega)
  have J29 : ∀ (z29_5 : Int) (z29_6 : Int) (z29_s0 : Int), (0 ≤ z29_5 ∧ z29_5 ≤ 5) → (0 ≤ z29_6 ∧ z29_6 ≤ 39) → (0 ≤ z29_s0 ∧ z29_s0 ≤ 65535) → V p l e R s m args below meth c 9 D A Q (0, 0) (fd dom σ0) [(0, .ref h), (1, .int (iI d)), (2, .int (iI x2)), (3, .int (iI x3)), (5, .int (iI z29_5)), (6, .int (iI z29_6))] 29 [.int (iI z29_s0)] := by
    intro z29_5 z29_6 z29_s0 r29_5 r29_6 r29_s0
    refine v_istore B (lv' := [(7, .int (iI z29_s0)), (0, .ref h), (1, .int (iI d)), (2, .int (iI x2)), (3, .int (iI x3)), (5, .int (iI z29_5)), (6, .int (iI z29_6))]) dX12_reads_29 (by decide +kernel) rfl ?_
    refine v_iload B dX12_reads_31 rfl ?_
    refine u_if_ne B (tgt := 52) (by omega) dX12_reads_33 (by decide +kernel) (fun c19 => ?_) (fun c19 => ?_)
    · refine v_iload B dX12_reads_52 rfl ?_
      refine u_if_le B (tgt := 67) (by omega) dX12_reads_54 (by decide +kernel) (fun c20 => by omega) (fun c20 => ?_)
      refine v_aload_n B dX12_reads_57 rfl rfl ?_
      refine v_iload_n B dX12_reads_58 rfl rfl ?_
      refine v_iload_n B dX12_reads_59 rfl rfl ?_
      refine v_iload_n B dX12_reads_60 rfl rfl ?_
      refine v_iload B dX12_reads_61 rfl ?_
      refine u_callVv B Z hz (n := 4) (As := [.int (iI d), .int (iI x2), .int (iI x3), .int (iI z29_5)]) (rest := []) (c_M_error l D K Z _ _ _ _ h q Y d x2 x3 z29_5 ⟨by omega, by omega⟩ ⟨by omega, by omega⟩ ⟨by omega, by omega⟩ ⟨by omega, by omega⟩ σ0 G0 (At.mk h13 e16 (by omega) ⟨by omega, by omega⟩)) gd_M_reads_M_error_564 rfl rfl rfl (by decide +kernel) ⟨Nat.le_trans (by decide +kernel) hR.1, Nat.le_trans (by decide +kernel) hR.2⟩ Y.o (clsM G0.t) rfl rfl rfl rfl (Nat.le_of_ble_eq_true rfl) dX12_reads_63 ⟨Nat.zero_le _, Nat.zero_le _⟩ (fun σ21 p22 => ?_)
      obtain ⟨G24, F25⟩ := p22
      have F26 := F0.call F25 (by first | rfl | simp)
      exact hend σ21 _ _ G24 F26 dX12_reads_66
    · refine v_iload B dX12_reads_36 rfl ?_
      refine v_aload_n B dX12_reads_38 rfl rfl ?_
      refine u_get B Z (C := RX12) (T := TX12) (N := 123) (ci := 12) hi_M_reads_X12 Y.o h6 rfl 103 (by decide +kernel) (List.mem_of_getElem? (i := 20) rfl) rfl dX12_reads_39 ?_
      refine v_iload B dX12_reads_42 rfl ?_
      obtain ⟨f27, h28, e29⟩ := ga_103 G0.t
      obtain ⟨z30, e31, r32⟩ := e29 (z29_6 : Int).toNat
      refine u_iald B Z (t0 := 0) (ym_103 Y) h28 rfl (by omega) e31 dX12_reads_44 ?_
      refine u_icmp_le B (tgt := 52) (by omega) (by omega) dX12_reads_45 (by decide +kernel) (fun c33 => ?_) (fun c33 => ?_)
      · refine v_iload B dX12_reads_52 rfl ?_
        refine u_if_le B (tgt := 67) (by omega) dX12_reads_54 (by decide +kernel) (fun c34 => ?_) (fun c34 => by omega)
        refine v_aload_n B dX12_reads_67 rfl rfl ?_
        refine u_get B Z (C := RX12) (T := TX12) (N := 123) (ci := 12) hi_M_reads_X12 Y.o h6 rfl 103 (by decide +kernel) (List.mem_of_getElem? (i := 20) rfl) rfl dX12_reads_68 ?_
        refine v_iload B dX12_reads_71 rfl ?_
        refine u_iald B Z (t0 := 0) (ym_103 Y) h28 rfl (by omega) e31 dX12_reads_73 ?_
        refine v_iload B dX12_reads_74 rfl ?_
        refine v_isub B (v := iI (z30 + (-1) * z29_s0)) dX12_reads_76 ((iI_sub _ _).trans (congrArg iI (by omega))) ?_
        refine v_aload_n B dX12_reads_77 rfl rfl ?_
        refine u_get B Z (C := RX12) (T := TX12) (N := 123) (ci := 12) hi_M_reads_X12 Y.o h6 rfl 104 (by decide +kernel) (List.mem_of_getElem? (i := 21) rfl) rfl dX12_reads_78 ?_
        refine v_iload_n B dX12_reads_81 rfl rfl ?_
        obtain ⟨f35, h36, e37⟩ := ga_104 G0.t
        obtain ⟨z38, e39, r40⟩ := e37 (d : Int).toNat
        refine u_iald B Z (t0 := 0) (ym_104 Y) h36 rfl (by omega) e39 dX12_reads_82 ?_
        refine v_iconst B (v := iI 1) dX12_reads_83 rfl ?_
        refine v_isub B (v := iI (z38 + (-1))) dX12_reads_84 ((iI_sub _ _).trans (congrArg iI (by omega))) ?_
        obtain ⟨z41, e42, r43⟩ := iI_min (a := (z30 + (-1) * z29_s0)) (b := (z38 + (-1))) (by omega) (by omega)
        refine v_mmin B (v := iI z41) (List.mem_of_getElem? (i := 22) rfl) (List.mem_of_getElem? (i := 23) rfl) (List.mem_of_getElem? (i := 24) rfl) (List.mem_of_getElem? (i := 25) rfl) (Nat.le_trans (by decide +kernel) hR.1) (Nat.le_trans (Nat.le_of_ble_eq_true rfl) hR.2) (Nat.zero_le _) (Nat.zero_le _) e42 dX12_reads_85 ?_
        refine v_istore B (lv' := [(8, .int (iI z41)), (7, .int (iI z29_s0)), (0, .ref h), (1, .int (iI d)), (2, .int (iI x2)), (3, .int (iI x3)), (5, .int (iI z29_5)), (6, .int (iI z29_6))]) dX12_reads_88 (by decide +kernel) rfl ?_
        refine v_aload_n B dX12_reads_90 rfl rfl ?_
        refine u_get B Z (C := RX12) (T := TX12) (N := 123) (ci := 12) hi_M_reads_X12 Y.o h6 rfl 90 (by decide +kernel) (List.mem_of_getElem? (i := 6) rfl) rfl dX12_reads_91 ?_
        refine v_iconst B (v := iI 0) dX12_reads_94 rfl ?_
        refine v_iload_n B dX12_reads_95 rfl rfl ?_
        refine v_iconst B (v := iI 1) dX12_reads_96 rfl ?_
        obtain ⟨z44, e45, r46⟩ := iI_any (iI x2 + iI 1)
        refine v_iadd B (v := iI z44) dX12_reads_97 e45 ?_
        obtain ⟨z47, e48, r49⟩ := iI_i8 z44
        refine v_i2b B (v := iI z47) dX12_reads_98 e48 ?_
        obtain ⟨f50, h51, e52⟩ := ga_90 G0.t
        refine u_bast B Z (t0 := 2) (x := iI z47) (y := iI z47) (ym_90 Y) h51 rfl (by omega) (nar8 (by omega)) dX12_reads_99 (fun σ53 h54 n55 => ?_)
        have F56 := F0.put (ym_90 Y) (by simp) n55
        have G57 := gp_90 Y G0 ⟨_, h54, el_upd (z := z47) e52 ⟨by omega, by omega⟩ _⟩ n55
        refine v_aload_n B dX12_reads_100 rfl rfl ?_
        have h58 := (n55 h (ne_ty Y.o (ym_90 Y) (by decide))).trans (h6)
        refine u_get B Z (C := RX12) (T := TX12) (N := 123) (ci := 12) hi_M_reads_X12 Y.o h58 rfl 107 (by decide +kernel) (List.mem_of_getElem? (i := 26) rfl) rfl dX12_reads_101 ?_
        refine v_bipush B (v := iI 40) dX12_reads_104 (by decide +kernel) ?_
        refine v_iload B dX12_reads_106 rfl ?_
        refine v_imul B (v := iI (40 * z29_6)) dX12_reads_108 ((iI_mul _ _).trans (congrArg iI (by omega))) ?_
        refine v_iload B dX12_reads_109 rfl ?_
        refine v_iadd B (v := iI (40 * z29_6 + z29_s0)) dX12_reads_111 ((iI_add _ _).trans (congrArg iI (by omega))) ?_
        refine v_aload_n B dX12_reads_112 rfl rfl ?_
        refine u_get B Z (C := RX12) (T := TX12) (N := 123) (ci := 12) hi_M_reads_X12 Y.o h58 rfl 90 (by decide +kernel) (List.mem_of_getElem? (i := 6) rfl) rfl dX12_reads_113 ?_
        refine v_iconst B (v := iI 1) dX12_reads_116 rfl ?_
        refine v_iload B dX12_reads_117 rfl ?_
        refine u_callSv B Z hz (n := 5) (As := [.ref (q 107), .int (iI (40 * z29_6 + z29_s0)), .ref (q 90), .int (iI 1), .int (iI z41)]) (rest := []) (c_M_copy l D K Z _ _ _ _ h q Y 107 1600 (40 * z29_6 + z29_s0) 90 96 1 z41 rfl ⟨by omega, by omega⟩ rfl ⟨by omega, by omega⟩ ⟨by omega, by omega⟩ σ53 G57 (by omega)) gd_M_reads_M_copy_29 rfl rfl rfl (by decide +kernel) ⟨Nat.le_trans (by decide +kernel) hR.1, Nat.le_trans (by decide +kernel) hR.2⟩ rfl rfl (Nat.le_of_ble_eq_true rfl) dX12_reads_119 ⟨Nat.zero_le _, Nat.zero_le _⟩ (fun σ59 p60 => ?_)
        obtain ⟨G62, F63⟩ := p60
        have F64 := F56.call F63 (by first | rfl | simp)
        refine v_aload_n B dX12_reads_122 rfl rfl ?_
        refine v_iload_n B dX12_reads_123 rfl rfl ?_
        refine v_iconst B (v := iI 4) dX12_reads_124 rfl ?_
        refine v_iload B dX12_reads_125 rfl ?_
        refine v_iconst B (v := iI 1) dX12_reads_127 rfl ?_
        refine v_iadd B (v := iI (z41 + 1)) dX12_reads_128 ((iI_add _ _).trans (congrArg iI (by omega))) ?_
        have h65 := (F63 (q 85) _ (ym_85 Y) (by first | rfl | simp)).trans ((n55 (q 85) (ne_ty (ym_85 Y) (ym_90 Y) (by decide))).trans (h13))
        refine u_callVv B Z hz (n := 3) (As := [.int (iI d), .int (iI 4), .int (iI (z41 + 1))]) (rest := []) (c_M_says l D K Z _ _ _ _ h q Y d 4 (z41 + 1) ⟨by omega, by omega⟩ ⟨by omega, by omega⟩ ⟨by omega, by omega⟩ σ59 G62 (At.mk h65 e16 (by omega) ⟨by omega, by omega⟩) (by omega)) gd_M_reads_M_says_527 rfl rfl rfl (by decide +kernel) ⟨Nat.le_trans (by decide +kernel) hR.1, Nat.le_trans (by decide +kernel) hR.2⟩ Y.o (clsM G62.t) rfl rfl rfl rfl (Nat.le_of_ble_eq_true rfl) dX12_reads_129 ⟨Nat.zero_le _, Nat.zero_le _⟩ (fun σ66 p67 => ?_)
        obtain ⟨G69, F70⟩ := p67
        have F71 := F64.call F70 (by first | rfl | simp)
        exact hend σ66 _ _ G69 F71 dX12_reads_132
      · refine v_bipush B (v := iI 7) dX12_reads_48 (by decide +kernel) ?_
        refine v_istore B (lv' := [(5, .int (iI 7)), (7, .int (iI z29_s0)), (0, .ref h), (1, .int (iI d)), (2, .int (iI x2)), (3, .int (iI x3)), (6, .int (iI z29_6))]) dX12_reads_50 (by decide +kernel) rfl ?_
        refine v_iload B dX12_reads_52 rfl ?_
        refine u_if_le B (tgt := 67) (by omega) dX12_reads_54 (by decide +kernel) (fun c72 => by omega) (fun c72 => ?_)
        refine v_aload_n B dX12_reads_57 rfl rfl ?_
        refine v_iload_n B dX12_reads_58 rfl rfl ?_
        refine v_iload_n B dX12_reads_59 rfl rfl ?_
        refine v_iload_n B dX12_reads_60 rfl rfl ?_
        refine v_iload B dX12_reads_61 rfl ?_
        refine u_callVv B Z hz (n := 4) (As := [.int (iI d), .int (iI x2), .int (iI x3), .int (iI 7)]) (rest := []) (c_M_error l D K Z _ _ _ _ h q Y d x2 x3 7 ⟨by omega, by omega⟩ ⟨by omega, by omega⟩ ⟨by omega, by omega⟩ ⟨by omega, by omega⟩ σ0 G0 (At.mk h13 e16 (by omega) ⟨by omega, by omega⟩)) gd_M_reads_M_error_564 rfl rfl rfl (by decide +kernel) ⟨Nat.le_trans (by decide +kernel) hR.1, Nat.le_trans (by decide +kernel) hR.2⟩ Y.o (clsM G0.t) rfl rfl rfl rfl (Nat.le_of_ble_eq_true rfl) dX12_reads_63 ⟨Nat.zero_le _, Nat.zero_le _⟩ (fun σ73 p74 => ?_)
        obtain ⟨G76, F77⟩ := p74
        have F78 := F0.call F77 (by first | rfl | simp)
        exact hend σ73 _ _ G76 F78 dX12_reads_66
  refine v_aload_n B dX12_reads_0 rfl rfl ?_
  refine v_iload_n B dX12_reads_1 rfl rfl ?_
  refine v_iload_n B dX12_reads_2 rfl rfl ?_
  refine v_iconst B (v := iI 1) dX12_reads_3 rfl ?_
  refine u_callVi B Z hz (n := 3) (As := [.int (iI d), .int (iI x3), .int (iI 1)]) (rest := []) (c_M_lacks l D K Z _ _ _ _ h q Y d x3 1 ⟨by omega, by omega⟩ ⟨by omega, by omega⟩ ⟨by omega, by omega⟩ σ0 (G0.t)) gd_M_reads_M_lacks_570 rfl rfl rfl (by decide +kernel) ⟨Nat.le_trans (by decide +kernel) hR.1, Nat.le_trans (by decide +kernel) hR.2⟩ Y.o (clsM G0.t) rfl rfl rfl rfl (Nat.le_of_ble_eq_true rfl) dX12_reads_4 ⟨Nat.zero_le _, Nat.zero_le _⟩ (fun v81 σ79 p80 => ?_)
  obtain ⟨rfl, z82, e83, r84⟩ := p80
  subst e83
  refine v_istore B (lv' := [(5, .int (iI z82)), (0, .ref h), (1, .int (iI d)), (2, .int (iI x2)), (3, .int (iI x3)), (4, .int (iI x4))]) dX12_reads_7 (by decide +kernel) rfl ?_
  refine v_aload_n B dX12_reads_9 rfl rfl ?_
  refine v_iload_n B dX12_reads_10 rfl rfl ?_
  refine v_iload_n B dX12_reads_11 rfl rfl ?_
  refine u_callVi B Z hz (n := 2) (As := [.int (iI d), .int (iI x3)]) (rest := []) (c_M_row l D K Z _ _ _ _ h q Y d x3 ⟨by omega, by omega⟩ ⟨by omega, by omega⟩ σ0 (G0.t)) gd_M_reads_M_row_547 rfl rfl rfl (by decide +kernel) ⟨Nat.le_trans (by decide +kernel) hR.1, Nat.le_trans (by decide +kernel) hR.2⟩ Y.o (clsM G0.t) rfl rfl rfl rfl (Nat.le_of_ble_eq_true rfl) dX12_reads_12 ⟨Nat.zero_le _, Nat.zero_le _⟩ (fun v87 σ85 p86 => ?_)
  obtain ⟨rfl, z88, e89, r90, po91⟩ := p86
  subst e89
  subst po91
  show V _ _ _ _ _ _ _ _ _ _ _ _ _ _ _ _ _ _ [.int (iI (20 * d + x3 + (-1)))]
  refine v_istore B (lv' := [(6, .int (iI (20 * d + x3 + (-1)))), (5, .int (iI z82)), (0, .ref h), (1, .int (iI d)), (2, .int (iI x2)), (3, .int (iI x3)), (4, .int (iI x4))]) dX12_reads_15 (by decide +kernel) rfl ?_
  refine v_iload_n B dX12_reads_17 rfl rfl ?_
  refine v_bipush B (v := iI 12) dX12_reads_18 (by decide +kernel) ?_
  refine u_icmp_ne B (tgt := 28) (by omega) (by omega) dX12_reads_20 (by decide +kernel) (fun c92 => ?_) (fun c92 => ?_)
  · refine v_iconst B (v := iI 0) dX12_reads_28 rfl ?_
    refine v_lv [2, 3, 4, 5, 1, 0] rfl ?_
    exact J29 z82 (20 * d + x3 + (-1)) 0 ⟨by omega, by omega⟩ ⟨by omega, by omega⟩ ⟨by omega, by omega⟩
  · refine v_iload B dX12_reads_23 rfl ?_
    refine v_goto B (tgt := 29) dX12_reads_25 (by decide +kernel) ?_
    refine v_lv [2, 3, 4, 5, 1, 0] rfl ?_
    exact J29 z82 (20 * d + x3 + (-1)) x4 ⟨by omega, by omega⟩ ⟨by omega, by omega⟩ ⟨by omega, by omega⟩
set_option maxRecDepth 100000 in
theorem c_M_reads (l : Launch) (D : va_G) (K : Nat → ClassId) {τ : Nat → Option Ty} {dom : List Nat} (Z : Sk τ dom) (zb zL : Nat) (zx : Nat → Int32) (zs : Nat → Nat) (h : Nat) (q : Nat → Nat) (Y : MS τ h q) (d : Int) (x2 : Int) (x3 : Int) (x4 : Int) (r_d : 0 ≤ d ∧ d ≤ 1) (r_x2 : -2147483648 ≤ x2 ∧ x2 ≤ 2147483647) (r_x3 : 1 ≤ x3 ∧ x3 ≤ 20) (r_x4 : 0 ≤ x4 ∧ x4 ≤ 65535) (σ0 : Nat → va_E) (G0 : GM K h q σ0) (hM : At σ0 (q 85) (d : Int).toNat (0) (7)) : MZ l yX12_reads wp_M_reads ({ frames := 3, cells := 0, slots := 0, locals := 73 }) D (tysA K) [.ref h, .int (iI d), .int (iI x2), .int (iI x3), .int (iI x4)] (fd dom σ0) zb zL zx zs (Qv D (fun σ' => GM K h q σ' ∧ Fr τ [(190, 0), (182, 0), (184, 0), (185, 0)] σ0 σ') (fun σ' => fd dom σ')) 0 0 := by
  refine mz_of (cc := cX12_reads) (maxL := 9) (ret := none) (by decide +kernel) rfl (Nat.le_of_ble_eq_true rfl) ?_
  intro p e s m below meth c A B hr hlk _ hz
  exact b_M_reads ⟨Nat.le_refl _, Nat.le_refl _⟩ B Z hz h q Y d x2 x3 x4 r_d r_x2 r_x3 r_x4 σ0 G0 hM (fun σ' lv pc G F hd => v_vret B hr hlk σ' ⟨G, F⟩ rfl (Nat.le_refl _) (Nat.le_refl _) hd)

def wp_M_writing : List Cond := .code yX12_writing cX12_writing 8 none :: (([.methodLink RX12 570 yX12_lacks, .instanceMethod yX12_lacks, .selects RX12 yX12_lacks yX12_lacks, .initialized RX12, .code yX12_lacks cX12_lacks 5 (some .int), .fieldLink RX12 326 "LowEnergyModel" "rights" "[I", .methodLink RX12 547 yX12_row, .instanceMethod yX12_row, .selects RX12 yX12_row yX12_row, .code yX12_row cX12_row 3 (some .int), .fieldLink RX12 239 "LowEnergyModel" "isSecure" "[Z", .methodLink RX12 564 yX12_error, .instanceMethod yX12_error, .selects RX12 yX12_error yX12_error, .code yX12_error cX12_error 5 none, .fieldLink RX12 290 "LowEnergyModel" "said" "[B", .methodLink RX12 432 yX12_number, .static yX12_number, .code yX12_number cX12_number 6 none, .methodLink RX12 527 yX12_says, .instanceMethod yX12_says, .selects RX12 yX12_says yX12_says, .code yX12_says cX12_says 5 none, .fieldLink RX12 275 "LowEnergyModel" "messages" "[I", .fieldLink RX12 266 "LowEnergyModel" "message" "[B", .methodLink RX12 29 yX12_copy, .static yX12_copy, .code yX12_copy cX12_copy 6 none, .fieldLink RX12 272 "LowEnergyModel" "messageMany" "[I", .fieldLink RX12 338 "LowEnergyModel" "parts" "[I", .fieldLink RX12 350 "LowEnergyModel" "partHandle" "[I", .fieldLink RX12 353 "LowEnergyModel" "partPlace" "[I", .fieldLink RX12 356 "LowEnergyModel" "partMany" "[I", .fieldLink RX12 293 "LowEnergyModel" "asks" "[B", .fieldLink RX12 344 "LowEnergyModel" "partBytes" "[B", .methodLink RX12 574 yX12_writes, .instanceMethod yX12_writes, .selects RX12 yX12_writes yX12_writes, .code yX12_writes cX12_writes 4 none, .fieldLink RX12 329 "LowEnergyModel" "length" "[I", .fieldLink RX12 341 "LowEnergyModel" "values" "[B"] : List Cond) ++ (wsX120 ++ ([])))
theorem hi_M_writing_X12 : ∀ x ∈ u_ws RX12 TX12 123, x ∈ wp_M_writing := fun _ h => List.mem_cons_of_mem _ (List.mem_append_right _ (List.mem_append_left _ h))
set_option maxRecDepth 100000 in
theorem gd_M_writing_M_lacks_570 : GoodIn wp_M_writing (wsV RX12 570 RX12 yX12_lacks wp_M_lacks) := goodIn_app (goodIn_r _ [1, 2, 3, 4] rfl rfl) (goodIn_ca (goodIn_r _ [5, 6, 7, 8, 9, 4, 10, 11] rfl rfl) (goodIn_app (goodIn_cls hi_M_writing_X12 gw_X12) (goodIn_nil)))
set_option maxRecDepth 100000 in
theorem gd_M_writing_M_error_564 : GoodIn wp_M_writing (wsV RX12 564 RX12 yX12_error wp_M_error) := goodIn_app (goodIn_r _ [12, 13, 14, 4] rfl rfl) (goodIn_ca (goodIn_r _ [15, 16, 17, 18, 4, 19, 20, 21, 22, 23, 24, 25, 26, 27, 28, 29] rfl rfl) (goodIn_app (goodIn_cls hi_M_writing_X12 gw_X12) (goodIn_nil)))
set_option maxRecDepth 100000 in
theorem gd_M_writing_M_copy_29 : GoodIn wp_M_writing (va_wsS RX12 29 yX12_copy wp_M_copy) := goodIn_app (goodIn_r _ [26, 27, 4] rfl rfl) (goodIn_ca (goodIn_r _ [28] rfl rfl) (goodIn_nil))
set_option maxRecDepth 100000 in
theorem gd_M_writing_M_says_527 : GoodIn wp_M_writing (wsV RX12 527 RX12 yX12_says wp_M_says) := goodIn_app (goodIn_r _ [20, 21, 22, 4] rfl rfl) (goodIn_ca (goodIn_r _ [23, 24, 25, 17, 18, 4, 19, 16, 26, 27, 28, 29] rfl rfl) (goodIn_app (goodIn_cls hi_M_writing_X12 gw_X12) (goodIn_nil)))
set_option maxRecDepth 100000 in
theorem gd_M_writing_M_writes_574 : GoodIn wp_M_writing (wsV RX12 574 RX12 yX12_writes wp_M_writes) := goodIn_app (goodIn_r _ [36, 37, 38, 4] rfl rfl) (goodIn_ca (goodIn_r _ [39, 40, 7, 8, 9, 4, 10, 34, 41, 26, 27, 28] rfl rfl) (goodIn_app (goodIn_cls hi_M_writing_X12 gw_X12) (goodIn_nil)))
set_option maxHeartbeats 4000000 in
set_option maxRecDepth 100000 in
theorem b_M_writing {p : Program} {l : Launch} {e : Env} {R : Room} {s : State} {m : MethodId} {args : Array Value} {below : List Frame} {meth : Method} {c : Code} {D : va_G} {K : Nat → ClassId} {A : Nat → Prop} {Q : State → Prop} {τ : Nat → Option Ty} {dom : List Nat} {zb zL : Nat} {zx : Nat → Int32} {zs : Nat → Nat} (hR : 3 ≤ R.frames ∧ 73 ≤ R.locals) (B : Bx p s m args c cX12_writing 8 RX12 wp_M_writing D (tysA K) A) (Z : Sk τ dom) (hz : ZL zb zL zx zs A s s.heap) (h : Nat) (q : Nat → Nat) (Y : MS τ h q) (d : Int) (x2 : Int) (x3 : Int) (x4 : Int) (x5 : Int) (r_d : 0 ≤ d ∧ d ≤ 1) (r_x2 : 0 ≤ x2 ∧ x2 ≤ 255) (r_x3 : 1 ≤ x3 ∧ x3 ≤ 20) (r_x4 : 0 ≤ x4 ∧ x4 ≤ 65535) (r_x5 : -4 ≤ x5 ∧ x5 ≤ 64) (σ0 : Nat → va_E) (G0 : GM K h q σ0) (hM : At σ0 (q 85) (d : Int).toNat (0) (7)) (ho : (x2 = 18 ∧ 3 ≤ x5) ∨ (x2 = 22 ∧ 5 ≤ x5)) (hend : ∀ (σ' : Nat → va_E) (lv : List (Nat × Value)) (pc : Nat), GM K h q σ' → Fr τ [(190, 0), (182, 0), (184, 0), (185, 0), (206, 0), (210, 0), (211, 0), (212, 0), (208, 0), (203, 0), (207, 0)] σ0 σ' → decode cX12_writing pc = .ok (.return_, 1) → V p l e R s m args below meth c 8 D A Q (0, 0) (fd dom σ') lv pc []) : V p l e R s m args below meth c 8 D A Q (0, 0) (fd dom σ0) [(0, .ref h), (1, .int (iI d)), (2, .int (iI x2)), (3, .int (iI x3)), (4, .int (iI x4)), (5, .int (iI x5))] 0 [] := by
  have F0 : Fr τ [(190, 0), (182, 0), (184, 0), (185, 0), (206, 0), (210, 0), (211, 0), (212, 0), (208, 0), (203, 0), (207, 0)] σ0 σ0 := Fr.rf
  obtain ⟨z1, z2, z3, z4, z5, h6, r7, r8, r9, r10, r11⟩ := G0.t.o
  obtain ⟨f12, h13, e14⟩ := ga_106 G0.t
  obtain ⟨z15, e16, r17⟩ := e14 (d : Int).toNat
  obtain ⟨f18, h19, e20⟩ := ga_85 G0.t
  obtain ⟨z21, e22, r23⟩ := e20 (d : Int).toNat
  have r24 := hM.use h19 e22 (by omega)
  refine v_aload_n B dX12_writing_0 rfl rfl ?_
  refine v_iload_n B dX12_writing_1 rfl rfl ?_
  refine v_iload_n B dX12_writing_2 rfl rfl ?_
  refine v_iconst B (v := iI 2) dX12_writing_3 rfl ?_
  refine u_callVi B Z hz (n := 3) (As := [.int (iI d), .int (iI x3), .int (iI 2)]) (rest := []) (c_M_lacks l D K Z _ _ _ _ h q Y d x3 2 ⟨by omega, by omega⟩ ⟨by omega, by omega⟩ ⟨by omega, by omega⟩ σ0 (G0.t)) gd_M_writing_M_lacks_570 rfl rfl rfl (by decide +kernel) ⟨Nat.le_trans (by decide +kernel) hR.1, Nat.le_trans (by decide +kernel) hR.2⟩ Y.o (clsM G0.t) rfl rfl rfl rfl (Nat.le_of_ble_eq_true rfl) dX12_writing_4 ⟨Nat.zero_le _, Nat.zero_le _⟩ (fun v27 σ25 p26 => ?_)
  obtain ⟨rfl, z28, e29, r30⟩ := p26
  subst e29
  refine v_istore B (lv' := [(6, .int (iI z28)), (0, .ref h), (1, .int (iI d)), (2, .int (iI x2)), (3, .int (iI x3)), (4, .int (iI x4)), (5, .int (iI x5))]) dX12_writing_7 (by decide +kernel) rfl ?_
  refine v_iload B dX12_writing_9 rfl ?_
  refine u_if_ne B (tgt := 31) (by omega) dX12_writing_11 (by decide +kernel) (fun c31 => ?_) (fun c31 => ?_)
  · refine v_iload B dX12_writing_31 rfl ?_
    refine u_if_ne B (tgt := 57) (by omega) dX12_writing_33 (by decide +kernel) (fun c32 => ?_) (fun c32 => by omega)
    refine v_iload B dX12_writing_57 rfl ?_
    refine u_if_le B (tgt := 72) (by omega) dX12_writing_59 (by decide +kernel) (fun c33 => by omega) (fun c33 => ?_)
    refine v_aload_n B dX12_writing_62 rfl rfl ?_
    refine v_iload_n B dX12_writing_63 rfl rfl ?_
    refine v_iload_n B dX12_writing_64 rfl rfl ?_
    refine v_iload_n B dX12_writing_65 rfl rfl ?_
    refine v_iload B dX12_writing_66 rfl ?_
    refine u_callVv B Z hz (n := 4) (As := [.int (iI d), .int (iI x2), .int (iI x3), .int (iI z28)]) (rest := []) (c_M_error l D K Z _ _ _ _ h q Y d x2 x3 z28 ⟨by omega, by omega⟩ ⟨by omega, by omega⟩ ⟨by omega, by omega⟩ ⟨by omega, by omega⟩ σ0 G0 (At.mk h19 e22 (by omega) ⟨by omega, by omega⟩)) gd_M_writing_M_error_564 rfl rfl rfl (by decide +kernel) ⟨Nat.le_trans (by decide +kernel) hR.1, Nat.le_trans (by decide +kernel) hR.2⟩ Y.o (clsM G0.t) rfl rfl rfl rfl (Nat.le_of_ble_eq_true rfl) dX12_writing_68 ⟨Nat.zero_le _, Nat.zero_le _⟩ (fun σ34 p35 => ?_)
    obtain ⟨G37, F38⟩ := p35
    have F39 := F0.call F38 (by first | rfl | simp)
    exact hend σ34 _ _ G37 F39 dX12_writing_71
  · refine v_iload_n B dX12_writing_14 rfl rfl ?_
    refine v_bipush B (v := iI 18) dX12_writing_15 (by decide +kernel) ?_
    refine u_icmp_ne B (tgt := 31) (by omega) (by omega) dX12_writing_17 (by decide +kernel) (fun c40 => ?_) (fun c40 => ?_)
    · refine v_iload B dX12_writing_31 rfl ?_
      refine u_if_ne B (tgt := 57) (by omega) dX12_writing_33 (by decide +kernel) (fun c41 => by omega) (fun c41 => ?_)
      refine v_iload_n B dX12_writing_36 rfl rfl ?_
      refine v_bipush B (v := iI 22) dX12_writing_37 (by decide +kernel) ?_
      refine u_icmp_ne B (tgt := 57) (by omega) (by omega) dX12_writing_39 (by decide +kernel) (fun c42 => ?_) (fun c42 => ?_)
      · refine v_iload B dX12_writing_57 rfl ?_
        refine u_if_le B (tgt := 72) (by omega) dX12_writing_59 (by decide +kernel) (fun c43 => ?_) (fun c43 => by omega)
        refine v_iload_n B dX12_writing_72 rfl rfl ?_
        refine v_bipush B (v := iI 18) dX12_writing_73 (by decide +kernel) ?_
        refine u_icmp_ne B (tgt := 102) (by omega) (by omega) dX12_writing_75 (by decide +kernel) (fun c44 => ?_) (fun c44 => ?_)
        · refine v_bipush B (v := iI 6) dX12_writing_102 (by decide +kernel) ?_
          refine v_iload_n B dX12_writing_104 rfl rfl ?_
          refine v_imul B (v := iI (6 * d)) dX12_writing_105 ((iI_mul _ _).trans (congrArg iI (by omega))) ?_
          refine v_aload_n B dX12_writing_106 rfl rfl ?_
          refine u_get B Z (C := RX12) (T := TX12) (N := 123) (ci := 12) hi_M_writing_X12 Y.o h6 rfl 106 (by decide +kernel) (List.mem_of_getElem? (i := 30) rfl) rfl dX12_writing_107 ?_
          refine v_iload_n B dX12_writing_110 rfl rfl ?_
          refine u_iald B Z (t0 := 0) (ym_106 Y) h13 rfl (by omega) e16 dX12_writing_111 ?_
          refine v_iadd B (v := iI (6 * d + z15)) dX12_writing_112 ((iI_add _ _).trans (congrArg iI (by omega))) ?_
          refine v_istore B (lv' := [(7, .int (iI (6 * d + z15))), (6, .int (iI z28)), (0, .ref h), (1, .int (iI d)), (2, .int (iI x2)), (3, .int (iI x3)), (4, .int (iI x4)), (5, .int (iI x5))]) dX12_writing_113 (by decide +kernel) rfl ?_
          refine v_aload_n B dX12_writing_115 rfl rfl ?_
          refine u_get B Z (C := RX12) (T := TX12) (N := 123) (ci := 12) hi_M_writing_X12 Y.o h6 rfl 106 (by decide +kernel) (List.mem_of_getElem? (i := 30) rfl) rfl dX12_writing_116 ?_
          refine v_iload_n B dX12_writing_119 rfl rfl ?_
          refine v_dup2 B dX12_writing_120 rfl rfl ?_
          refine u_iald B Z (t0 := 0) (ym_106 Y) h13 rfl (by omega) e16 dX12_writing_121 ?_
          refine v_iconst B (v := iI 1) dX12_writing_122 rfl ?_
          refine v_iadd B (v := iI (z15 + 1)) dX12_writing_123 ((iI_add _ _).trans (congrArg iI (by omega))) ?_
          obtain ⟨f45, h46, e47⟩ := ga_110 G0.t
          have ra48 := G0.b _ _ _ _ _ _ h13 h46
          refine u_iast B Z (t0 := 0) (x := iI (z15 + 1)) (ym_106 Y) h13 rfl (by omega) dX12_writing_124 (fun σ49 h50 n51 => ?_)
          have e52 := el_upd (z := (z15 + 1)) e14 ⟨by omega, by omega⟩ (d : Int).toNat
          have F53 := F0.put (ym_106 Y) (by simp) n51
          have T54 := gp_106 Y G0.t ⟨_, h50, e52⟩ n51
          have R55 := (G0.a).kept (n51 _ (ne_ty (ym_85 Y) (ym_106 Y) (by decide))) (n51 _ (ne_ty (ym_86 Y) (ym_106 Y) (by decide))) (n51 _ (ne_ty (ym_84 Y) (ym_106 Y) (by decide)))
          have R56 := (G0.c).kept (n51 _ (ne_ty (ym_7 Y) (ym_106 Y) (by decide))) (n51 _ (ne_ty (ym_15 Y) (ym_106 Y) (by decide)))
          have R57 := (G0.d).kept (n51 _ (ne_ty (ym_41 Y) (ym_106 Y) (by decide))) (n51 _ (ne_ty (ym_16 Y) (ym_106 Y) (by decide)))
          refine v_aload_n B dX12_writing_125 rfl rfl ?_
          have h58 := (n51 h (ne_ty Y.o (ym_106 Y) (by decide))).trans (h6)
          refine u_get B Z (C := RX12) (T := TX12) (N := 123) (ci := 12) hi_M_writing_X12 Y.o h58 rfl 110 (by decide +kernel) (List.mem_of_getElem? (i := 31) rfl) rfl dX12_writing_126 ?_
          refine v_iload B dX12_writing_129 rfl ?_
          refine v_iload_n B dX12_writing_131 rfl rfl ?_
          have h59 := (n51 (q 110) (ne_ty (ym_110 Y) (ym_106 Y) (by decide))).trans (h46)
          refine u_iast B Z (t0 := 0) (x := iI x3) (ym_110 Y) h59 rfl (by omega) dX12_writing_132 (fun σ60 h61 n62 => ?_)
          have e63 := el_upd (z := x3) e47 ⟨by omega, by omega⟩ ((6 * d + z15) : Int).toNat
          have F64 := F53.put (ym_110 Y) (by simp) n62
          have T65 := gp_110 Y T54 ⟨_, h61, e63⟩ n62
          have R66 := (R55).kept (n62 _ (ne_ty (ym_85 Y) (ym_110 Y) (by decide))) (n62 _ (ne_ty (ym_86 Y) (ym_110 Y) (by decide))) (n62 _ (ne_ty (ym_84 Y) (ym_110 Y) (by decide)))
          have R67 := (R56).kept (n62 _ (ne_ty (ym_7 Y) (ym_110 Y) (by decide))) (n62 _ (ne_ty (ym_15 Y) (ym_110 Y) (by decide)))
          have R68 := (R57).kept (n62 _ (ne_ty (ym_41 Y) (ym_110 Y) (by decide))) (n62 _ (ne_ty (ym_16 Y) (ym_110 Y) (by decide)))
          have h69 := (n62 (q 106) (ne_ty (ym_106 Y) (ym_110 Y) (by decide))).trans (h50)
          have R70 : RelB q σ60 := RelB.mk h69 h61 (RB.set ra48 (d : Int).toNat (fun i hi => upd_n hi) (fun i k h2 hi h6 => upd_n (by omega)) e14 (fun x e1 r1 k hk z e3 r3 => by have a1 : (z15 + 1) = x := (iI_eq (by omega) r1).mp ((upd_s).symm.trans e1); by_cases c9 : (k : Int) = z15; (· (rw [show 6 * (d : Int).toNat + k = (6 * d + z15 : Int).toNat by omega, upd_s] at e3; have := (iI_eq (by omega) r3).mp e3; omega)); exact ra48 (d : Int).toNat (by omega) z15 e16 (by omega) k (by omega) z ((upd_n (by omega)).symm.trans e3) r3))
          have G71 : GM K h q σ60 := ⟨T65, R66, R70, R67, R68⟩
          refine v_aload_n B dX12_writing_133 rfl rfl ?_
          have h72 := (n62 h (ne_ty Y.o (ym_110 Y) (by decide))).trans (h58)
          refine u_get B Z (C := RX12) (T := TX12) (N := 123) (ci := 12) hi_M_writing_X12 Y.o h72 rfl 111 (by decide +kernel) (List.mem_of_getElem? (i := 32) rfl) rfl dX12_writing_134 ?_
          refine v_iload B dX12_writing_137 rfl ?_
          refine v_iload B dX12_writing_139 rfl ?_
          obtain ⟨f73, h74, e75⟩ := ga_111 G71.t
          refine u_iast B Z (t0 := 0) (x := iI x4) (ym_111 Y) h74 rfl (by omega) dX12_writing_141 (fun σ76 h77 n78 => ?_)
          have e79 := el_upd (z := x4) e75 ⟨by omega, by omega⟩ ((6 * d + z15) : Int).toNat
          have F80 := F64.put (ym_111 Y) (by simp) n78
          have G81 := gp_111 Y G71 ⟨_, h77, e79⟩ n78
          refine v_aload_n B dX12_writing_142 rfl rfl ?_
          have h82 := (n78 h (ne_ty Y.o (ym_111 Y) (by decide))).trans (h72)
          refine u_get B Z (C := RX12) (T := TX12) (N := 123) (ci := 12) hi_M_writing_X12 Y.o h82 rfl 112 (by decide +kernel) (List.mem_of_getElem? (i := 33) rfl) rfl dX12_writing_143 ?_
          refine v_iload B dX12_writing_146 rfl ?_
          refine v_iload B dX12_writing_148 rfl ?_
          refine v_iconst B (v := iI 5) dX12_writing_150 rfl ?_
          refine v_isub B (v := iI (x5 + (-5))) dX12_writing_151 ((iI_sub _ _).trans (congrArg iI (by omega))) ?_
          obtain ⟨f83, h84, e85⟩ := ga_112 G81.t
          refine u_iast B Z (t0 := 0) (x := iI (x5 + (-5))) (ym_112 Y) h84 rfl (by omega) dX12_writing_152 (fun σ86 h87 n88 => ?_)
          have e89 := el_upd (z := (x5 + (-5))) e85 ⟨by omega, by omega⟩ ((6 * d + z15) : Int).toNat
          have F90 := F80.put (ym_112 Y) (by simp) n88
          have G91 := gp_112 Y G81 ⟨_, h87, e89⟩ n88
          refine v_aload_n B dX12_writing_153 rfl rfl ?_
          have h92 := (n88 h (ne_ty Y.o (ym_112 Y) (by decide))).trans (h82)
          refine u_get B Z (C := RX12) (T := TX12) (N := 123) (ci := 12) hi_M_writing_X12 Y.o h92 rfl 91 (by decide +kernel) (List.mem_of_getElem? (i := 34) rfl) rfl dX12_writing_154 ?_
          refine v_iconst B (v := iI 5) dX12_writing_157 rfl ?_
          refine v_aload_n B dX12_writing_158 rfl rfl ?_
          refine u_get B Z (C := RX12) (T := TX12) (N := 123) (ci := 12) hi_M_writing_X12 Y.o h92 rfl 108 (by decide +kernel) (List.mem_of_getElem? (i := 35) rfl) rfl dX12_writing_159 ?_
          refine v_bipush B (v := iI 64) dX12_writing_162 (by decide +kernel) ?_
          refine v_iload B dX12_writing_164 rfl ?_
          refine v_imul B (v := iI (384 * d + 64 * z15)) dX12_writing_166 ((iI_mul _ _).trans (congrArg iI (by omega))) ?_
          refine v_iload B dX12_writing_167 rfl ?_
          refine v_iconst B (v := iI 5) dX12_writing_169 rfl ?_
          refine v_isub B (v := iI (x5 + (-5))) dX12_writing_170 ((iI_sub _ _).trans (congrArg iI (by omega))) ?_
          refine u_callSv B Z hz (n := 5) (As := [.ref (q 91), .int (iI 5), .ref (q 108), .int (iI (384 * d + 64 * z15)), .int (iI (x5 + (-5)))]) (rest := []) (c_M_copy l D K Z _ _ _ _ h q Y 91 96 5 108 768 (384 * d + 64 * z15) (x5 + (-5)) rfl ⟨by omega, by omega⟩ rfl ⟨by omega, by omega⟩ ⟨by omega, by omega⟩ σ86 G91 (by omega)) gd_M_writing_M_copy_29 rfl rfl rfl (by decide +kernel) ⟨Nat.le_trans (by decide +kernel) hR.1, Nat.le_trans (by decide +kernel) hR.2⟩ rfl rfl (Nat.le_of_ble_eq_true rfl) dX12_writing_171 ⟨Nat.zero_le _, Nat.zero_le _⟩ (fun σ93 p94 => ?_)
          obtain ⟨G96, F97⟩ := p94
          have F98 := F90.call F97 (by first | rfl | simp)
          refine v_aload_n B dX12_writing_174 rfl rfl ?_
          have h99 := (F97 h _ Y.o (by first | rfl | simp)).trans (h92)
          refine u_get B Z (C := RX12) (T := TX12) (N := 123) (ci := 12) hi_M_writing_X12 Y.o h99 rfl 91 (by decide +kernel) (List.mem_of_getElem? (i := 34) rfl) rfl dX12_writing_175 ?_
          refine v_iconst B (v := iI 0) dX12_writing_178 rfl ?_
          refine v_aload_n B dX12_writing_179 rfl rfl ?_
          refine u_get B Z (C := RX12) (T := TX12) (N := 123) (ci := 12) hi_M_writing_X12 Y.o h99 rfl 90 (by decide +kernel) (List.mem_of_getElem? (i := 16) rfl) rfl dX12_writing_180 ?_
          refine v_iconst B (v := iI 0) dX12_writing_183 rfl ?_
          refine v_iload B dX12_writing_184 rfl ?_
          refine u_callSv B Z hz (n := 5) (As := [.ref (q 91), .int (iI 0), .ref (q 90), .int (iI 0), .int (iI x5)]) (rest := []) (c_M_copy l D K Z _ _ _ _ h q Y 91 96 0 90 96 0 x5 rfl ⟨by omega, by omega⟩ rfl ⟨by omega, by omega⟩ ⟨by omega, by omega⟩ σ93 G96 (by omega)) gd_M_writing_M_copy_29 rfl rfl rfl (by decide +kernel) ⟨Nat.le_trans (by decide +kernel) hR.1, Nat.le_trans (by decide +kernel) hR.2⟩ rfl rfl (Nat.le_of_ble_eq_true rfl) dX12_writing_186 ⟨Nat.zero_le _, Nat.zero_le _⟩ (fun σ100 p101 => ?_)
          obtain ⟨G103, F104⟩ := p101
          have F105 := F98.call F104 (by first | rfl | simp)
          refine v_aload_n B dX12_writing_189 rfl rfl ?_
          have h106 := (F104 h _ Y.o (by first | rfl | simp)).trans (h99)
          refine u_get B Z (C := RX12) (T := TX12) (N := 123) (ci := 12) hi_M_writing_X12 Y.o h106 rfl 90 (by decide +kernel) (List.mem_of_getElem? (i := 16) rfl) rfl dX12_writing_190 ?_
          refine v_iconst B (v := iI 0) dX12_writing_193 rfl ?_
          refine v_bipush B (v := iI 23) dX12_writing_194 (by decide +kernel) ?_
          obtain ⟨f107, h108, e109⟩ := ga_90 G103.t
          refine u_bast B Z (t0 := 2) (x := iI 23) (y := iI 23) (ym_90 Y) h108 rfl (by omega) (nar8 (by omega)) dX12_writing_196 (fun σ110 h111 n112 => ?_)
          have F113 := F105.put (ym_90 Y) (by simp) n112
          have G114 := gp_90 Y G103 ⟨_, h111, el_upd (z := 23) e109 ⟨by omega, by omega⟩ _⟩ n112
          refine v_aload_n B dX12_writing_197 rfl rfl ?_
          refine v_iload_n B dX12_writing_198 rfl rfl ?_
          refine v_iconst B (v := iI 4) dX12_writing_199 rfl ?_
          refine v_iload B dX12_writing_200 rfl ?_
          have h115 := (n112 (q 85) (ne_ty (ym_85 Y) (ym_90 Y) (by decide))).trans ((F104 (q 85) _ (ym_85 Y) (by first | rfl | simp)).trans ((F97 (q 85) _ (ym_85 Y) (by first | rfl | simp)).trans ((n88 (q 85) (ne_ty (ym_85 Y) (ym_112 Y) (by decide))).trans ((n78 (q 85) (ne_ty (ym_85 Y) (ym_111 Y) (by decide))).trans ((n62 (q 85) (ne_ty (ym_85 Y) (ym_110 Y) (by decide))).trans ((n51 (q 85) (ne_ty (ym_85 Y) (ym_106 Y) (by decide))).trans (h19)))))))
          refine u_callVv B Z hz (n := 3) (As := [.int (iI d), .int (iI 4), .int (iI x5)]) (rest := []) (c_M_says l D K Z _ _ _ _ h q Y d 4 x5 ⟨by omega, by omega⟩ ⟨by omega, by omega⟩ ⟨by omega, by omega⟩ σ110 G114 (At.mk h115 e22 (by omega) ⟨by omega, by omega⟩) (by omega)) gd_M_writing_M_says_527 rfl rfl rfl (by decide +kernel) ⟨Nat.le_trans (by decide +kernel) hR.1, Nat.le_trans (by decide +kernel) hR.2⟩ Y.o (clsM G114.t) rfl rfl rfl rfl (Nat.le_of_ble_eq_true rfl) dX12_writing_202 ⟨Nat.zero_le _, Nat.zero_le _⟩ (fun σ116 p117 => ?_)
          obtain ⟨G119, F120⟩ := p117
          have F121 := F113.call F120 (by first | rfl | simp)
          exact hend σ116 _ _ G119 F121 dX12_writing_205
        · refine v_aload_n B dX12_writing_78 rfl rfl ?_
          refine v_iload_n B dX12_writing_79 rfl rfl ?_
          refine v_iload_n B dX12_writing_80 rfl rfl ?_
          refine v_iload B dX12_writing_81 rfl ?_
          refine u_callVv B Z hz (n := 3) (As := [.int (iI d), .int (iI x3), .int (iI x5)]) (rest := []) (c_M_writes l D K Z _ _ _ _ h q Y d x3 x5 ⟨by omega, by omega⟩ ⟨by omega, by omega⟩ ⟨by omega, by omega⟩ σ0 G0 (by omega)) gd_M_writing_M_writes_574 rfl rfl rfl (by decide +kernel) ⟨Nat.le_trans (by decide +kernel) hR.1, Nat.le_trans (by decide +kernel) hR.2⟩ Y.o (clsM G0.t) rfl rfl rfl rfl (Nat.le_of_ble_eq_true rfl) dX12_writing_83 ⟨Nat.zero_le _, Nat.zero_le _⟩ (fun σ122 p123 => ?_)
          obtain ⟨G125, F126⟩ := p123
          have F127 := F0.call F126 (by first | rfl | simp)
          refine v_aload_n B dX12_writing_86 rfl rfl ?_
          have h128 := (F126 h _ Y.o (by first | rfl | simp)).trans (h6)
          refine u_get B Z (C := RX12) (T := TX12) (N := 123) (ci := 12) hi_M_writing_X12 Y.o h128 rfl 90 (by decide +kernel) (List.mem_of_getElem? (i := 16) rfl) rfl dX12_writing_87 ?_
          refine v_iconst B (v := iI 0) dX12_writing_90 rfl ?_
          refine v_bipush B (v := iI 19) dX12_writing_91 (by decide +kernel) ?_
          obtain ⟨f129, h130, e131⟩ := ga_90 G125.t
          refine u_bast B Z (t0 := 2) (x := iI 19) (y := iI 19) (ym_90 Y) h130 rfl (by omega) (nar8 (by omega)) dX12_writing_93 (fun σ132 h133 n134 => ?_)
          have F135 := F127.put (ym_90 Y) (by simp) n134
          have G136 := gp_90 Y G125 ⟨_, h133, el_upd (z := 19) e131 ⟨by omega, by omega⟩ _⟩ n134
          refine v_aload_n B dX12_writing_94 rfl rfl ?_
          refine v_iload_n B dX12_writing_95 rfl rfl ?_
          refine v_iconst B (v := iI 4) dX12_writing_96 rfl ?_
          refine v_iconst B (v := iI 1) dX12_writing_97 rfl ?_
          have h137 := (n134 (q 85) (ne_ty (ym_85 Y) (ym_90 Y) (by decide))).trans ((F126 (q 85) _ (ym_85 Y) (by first | rfl | simp)).trans (h19))
          refine u_callVv B Z hz (n := 3) (As := [.int (iI d), .int (iI 4), .int (iI 1)]) (rest := []) (c_M_says l D K Z _ _ _ _ h q Y d 4 1 ⟨by omega, by omega⟩ ⟨by omega, by omega⟩ ⟨by omega, by omega⟩ σ132 G136 (At.mk h137 e22 (by omega) ⟨by omega, by omega⟩) (by omega)) gd_M_writing_M_says_527 rfl rfl rfl (by decide +kernel) ⟨Nat.le_trans (by decide +kernel) hR.1, Nat.le_trans (by decide +kernel) hR.2⟩ Y.o (clsM G136.t) rfl rfl rfl rfl (Nat.le_of_ble_eq_true rfl) dX12_writing_98 ⟨Nat.zero_le _, Nat.zero_le _⟩ (fun σ138 p139 => ?_)
          obtain ⟨G141, F142⟩ := p139
          have F143 := F135.call F142 (by first | rfl | simp)
          exact hend σ138 _ _ G141 F143 dX12_writing_101
      · refine v_aload_n B dX12_writing_42 rfl rfl ?_
        refine u_get B Z (C := RX12) (T := TX12) (N := 123) (ci := 12) hi_M_writing_X12 Y.o h6 rfl 106 (by decide +kernel) (List.mem_of_getElem? (i := 30) rfl) rfl dX12_writing_43 ?_
        refine v_iload_n B dX12_writing_46 rfl rfl ?_
        refine u_iald B Z (t0 := 0) (ym_106 Y) h13 rfl (by omega) e16 dX12_writing_47 ?_
        refine v_bipush B (v := iI 6) dX12_writing_48 (by decide +kernel) ?_
        refine u_icmp_ne B (tgt := 57) (by omega) (by omega) dX12_writing_50 (by decide +kernel) (fun c144 => ?_) (fun c144 => ?_)
        · refine v_iload B dX12_writing_57 rfl ?_
          refine u_if_le B (tgt := 72) (by omega) dX12_writing_59 (by decide +kernel) (fun c145 => ?_) (fun c145 => by omega)
          refine v_iload_n B dX12_writing_72 rfl rfl ?_
          refine v_bipush B (v := iI 18) dX12_writing_73 (by decide +kernel) ?_
          refine u_icmp_ne B (tgt := 102) (by omega) (by omega) dX12_writing_75 (by decide +kernel) (fun c146 => ?_) (fun c146 => by omega)
          refine v_bipush B (v := iI 6) dX12_writing_102 (by decide +kernel) ?_
          refine v_iload_n B dX12_writing_104 rfl rfl ?_
          refine v_imul B (v := iI (6 * d)) dX12_writing_105 ((iI_mul _ _).trans (congrArg iI (by omega))) ?_
          refine v_aload_n B dX12_writing_106 rfl rfl ?_
          refine u_get B Z (C := RX12) (T := TX12) (N := 123) (ci := 12) hi_M_writing_X12 Y.o h6 rfl 106 (by decide +kernel) (List.mem_of_getElem? (i := 30) rfl) rfl dX12_writing_107 ?_
          refine v_iload_n B dX12_writing_110 rfl rfl ?_
          refine u_iald B Z (t0 := 0) (ym_106 Y) h13 rfl (by omega) e16 dX12_writing_111 ?_
          refine v_iadd B (v := iI (6 * d + z15)) dX12_writing_112 ((iI_add _ _).trans (congrArg iI (by omega))) ?_
          refine v_istore B (lv' := [(7, .int (iI (6 * d + z15))), (6, .int (iI z28)), (0, .ref h), (1, .int (iI d)), (2, .int (iI x2)), (3, .int (iI x3)), (4, .int (iI x4)), (5, .int (iI x5))]) dX12_writing_113 (by decide +kernel) rfl ?_
          refine v_aload_n B dX12_writing_115 rfl rfl ?_
          refine u_get B Z (C := RX12) (T := TX12) (N := 123) (ci := 12) hi_M_writing_X12 Y.o h6 rfl 106 (by decide +kernel) (List.mem_of_getElem? (i := 30) rfl) rfl dX12_writing_116 ?_
          refine v_iload_n B dX12_writing_119 rfl rfl ?_
          refine v_dup2 B dX12_writing_120 rfl rfl ?_
          refine u_iald B Z (t0 := 0) (ym_106 Y) h13 rfl (by omega) e16 dX12_writing_121 ?_
          refine v_iconst B (v := iI 1) dX12_writing_122 rfl ?_
          refine v_iadd B (v := iI (z15 + 1)) dX12_writing_123 ((iI_add _ _).trans (congrArg iI (by omega))) ?_
          obtain ⟨f147, h148, e149⟩ := ga_110 G0.t
          have ra150 := G0.b _ _ _ _ _ _ h13 h148
          refine u_iast B Z (t0 := 0) (x := iI (z15 + 1)) (ym_106 Y) h13 rfl (by omega) dX12_writing_124 (fun σ151 h152 n153 => ?_)
          have e154 := el_upd (z := (z15 + 1)) e14 ⟨by omega, by omega⟩ (d : Int).toNat
          have F155 := F0.put (ym_106 Y) (by simp) n153
          have T156 := gp_106 Y G0.t ⟨_, h152, e154⟩ n153
          have R157 := (G0.a).kept (n153 _ (ne_ty (ym_85 Y) (ym_106 Y) (by decide))) (n153 _ (ne_ty (ym_86 Y) (ym_106 Y) (by decide))) (n153 _ (ne_ty (ym_84 Y) (ym_106 Y) (by decide)))
          have R158 := (G0.c).kept (n153 _ (ne_ty (ym_7 Y) (ym_106 Y) (by decide))) (n153 _ (ne_ty (ym_15 Y) (ym_106 Y) (by decide)))
          have R159 := (G0.d).kept (n153 _ (ne_ty (ym_41 Y) (ym_106 Y) (by decide))) (n153 _ (ne_ty (ym_16 Y) (ym_106 Y) (by decide)))
          refine v_aload_n B dX12_writing_125 rfl rfl ?_
          have h160 := (n153 h (ne_ty Y.o (ym_106 Y) (by decide))).trans (h6)
          refine u_get B Z (C := RX12) (T := TX12) (N := 123) (ci := 12) hi_M_writing_X12 Y.o h160 rfl 110 (by decide +kernel) (List.mem_of_getElem? (i := 31) rfl) rfl dX12_writing_126 ?_
          refine v_iload B dX12_writing_129 rfl ?_
          refine v_iload_n B dX12_writing_131 rfl rfl ?_
          have h161 := (n153 (q 110) (ne_ty (ym_110 Y) (ym_106 Y) (by decide))).trans (h148)
          refine u_iast B Z (t0 := 0) (x := iI x3) (ym_110 Y) h161 rfl (by omega) dX12_writing_132 (fun σ162 h163 n164 => ?_)
          have e165 := el_upd (z := x3) e149 ⟨by omega, by omega⟩ ((6 * d + z15) : Int).toNat
          have F166 := F155.put (ym_110 Y) (by simp) n164
          have T167 := gp_110 Y T156 ⟨_, h163, e165⟩ n164
          have R168 := (R157).kept (n164 _ (ne_ty (ym_85 Y) (ym_110 Y) (by decide))) (n164 _ (ne_ty (ym_86 Y) (ym_110 Y) (by decide))) (n164 _ (ne_ty (ym_84 Y) (ym_110 Y) (by decide)))
          have R169 := (R158).kept (n164 _ (ne_ty (ym_7 Y) (ym_110 Y) (by decide))) (n164 _ (ne_ty (ym_15 Y) (ym_110 Y) (by decide)))
          have R170 := (R159).kept (n164 _ (ne_ty (ym_41 Y) (ym_110 Y) (by decide))) (n164 _ (ne_ty (ym_16 Y) (ym_110 Y) (by decide)))
          have h171 := (n164 (q 106) (ne_ty (ym_106 Y) (ym_110 Y) (by decide))).trans (h152)
          have R172 : RelB q σ162 := RelB.mk h171 h163 (RB.set ra150 (d : Int).toNat (fun i hi => upd_n hi) (fun i k h2 hi h6 => upd_n (by omega)) e14 (fun x e1 r1 k hk z e3 r3 => by have a1 : (z15 + 1) = x := (iI_eq (by omega) r1).mp ((upd_s).symm.trans e1); by_cases c9 : (k : Int) = z15; (· (rw [show 6 * (d : Int).toNat + k = (6 * d + z15 : Int).toNat by omega, upd_s] at e3; have := (iI_eq (by omega) r3).mp e3; omega)); exact ra150 (d : Int).toNat (by omega) z15 e16 (by omega) k (by omega) z ((upd_n (by omega)).symm.trans e3) r3))
          have G173 : GM K h q σ162 := ⟨T167, R168, R172, R169, R170⟩
          refine v_aload_n B dX12_writing_133 rfl rfl ?_
          have h174 := (n164 h (ne_ty Y.o (ym_110 Y) (by decide))).trans (h160)
          refine u_get B Z (C := RX12) (T := TX12) (N := 123) (ci := 12) hi_M_writing_X12 Y.o h174 rfl 111 (by decide +kernel) (List.mem_of_getElem? (i := 32) rfl) rfl dX12_writing_134 ?_
          refine v_iload B dX12_writing_137 rfl ?_
          refine v_iload B dX12_writing_139 rfl ?_
          obtain ⟨f175, h176, e177⟩ := ga_111 G173.t
          refine u_iast B Z (t0 := 0) (x := iI x4) (ym_111 Y) h176 rfl (by omega) dX12_writing_141 (fun σ178 h179 n180 => ?_)
          have e181 := el_upd (z := x4) e177 ⟨by omega, by omega⟩ ((6 * d + z15) : Int).toNat
          have F182 := F166.put (ym_111 Y) (by simp) n180
          have G183 := gp_111 Y G173 ⟨_, h179, e181⟩ n180
          refine v_aload_n B dX12_writing_142 rfl rfl ?_
          have h184 := (n180 h (ne_ty Y.o (ym_111 Y) (by decide))).trans (h174)
          refine u_get B Z (C := RX12) (T := TX12) (N := 123) (ci := 12) hi_M_writing_X12 Y.o h184 rfl 112 (by decide +kernel) (List.mem_of_getElem? (i := 33) rfl) rfl dX12_writing_143 ?_
          refine v_iload B dX12_writing_146 rfl ?_
          refine v_iload B dX12_writing_148 rfl ?_
          refine v_iconst B (v := iI 5) dX12_writing_150 rfl ?_
          refine v_isub B (v := iI (x5 + (-5))) dX12_writing_151 ((iI_sub _ _).trans (congrArg iI (by omega))) ?_
          obtain ⟨f185, h186, e187⟩ := ga_112 G183.t
          refine u_iast B Z (t0 := 0) (x := iI (x5 + (-5))) (ym_112 Y) h186 rfl (by omega) dX12_writing_152 (fun σ188 h189 n190 => ?_)
          have e191 := el_upd (z := (x5 + (-5))) e187 ⟨by omega, by omega⟩ ((6 * d + z15) : Int).toNat
          have F192 := F182.put (ym_112 Y) (by simp) n190
          have G193 := gp_112 Y G183 ⟨_, h189, e191⟩ n190
          refine v_aload_n B dX12_writing_153 rfl rfl ?_
          have h194 := (n190 h (ne_ty Y.o (ym_112 Y) (by decide))).trans (h184)
          refine u_get B Z (C := RX12) (T := TX12) (N := 123) (ci := 12) hi_M_writing_X12 Y.o h194 rfl 91 (by decide +kernel) (List.mem_of_getElem? (i := 34) rfl) rfl dX12_writing_154 ?_
          refine v_iconst B (v := iI 5) dX12_writing_157 rfl ?_
          refine v_aload_n B dX12_writing_158 rfl rfl ?_
          refine u_get B Z (C := RX12) (T := TX12) (N := 123) (ci := 12) hi_M_writing_X12 Y.o h194 rfl 108 (by decide +kernel) (List.mem_of_getElem? (i := 35) rfl) rfl dX12_writing_159 ?_
          refine v_bipush B (v := iI 64) dX12_writing_162 (by decide +kernel) ?_
          refine v_iload B dX12_writing_164 rfl ?_
          refine v_imul B (v := iI (384 * d + 64 * z15)) dX12_writing_166 ((iI_mul _ _).trans (congrArg iI (by omega))) ?_
          refine v_iload B dX12_writing_167 rfl ?_
          refine v_iconst B (v := iI 5) dX12_writing_169 rfl ?_
          refine v_isub B (v := iI (x5 + (-5))) dX12_writing_170 ((iI_sub _ _).trans (congrArg iI (by omega))) ?_
          refine u_callSv B Z hz (n := 5) (As := [.ref (q 91), .int (iI 5), .ref (q 108), .int (iI (384 * d + 64 * z15)), .int (iI (x5 + (-5)))]) (rest := []) (c_M_copy l D K Z _ _ _ _ h q Y 91 96 5 108 768 (384 * d + 64 * z15) (x5 + (-5)) rfl ⟨by omega, by omega⟩ rfl ⟨by omega, by omega⟩ ⟨by omega, by omega⟩ σ188 G193 (by omega)) gd_M_writing_M_copy_29 rfl rfl rfl (by decide +kernel) ⟨Nat.le_trans (by decide +kernel) hR.1, Nat.le_trans (by decide +kernel) hR.2⟩ rfl rfl (Nat.le_of_ble_eq_true rfl) dX12_writing_171 ⟨Nat.zero_le _, Nat.zero_le _⟩ (fun σ195 p196 => ?_)
          obtain ⟨G198, F199⟩ := p196
          have F200 := F192.call F199 (by first | rfl | simp)
          refine v_aload_n B dX12_writing_174 rfl rfl ?_
          have h201 := (F199 h _ Y.o (by first | rfl | simp)).trans (h194)
          refine u_get B Z (C := RX12) (T := TX12) (N := 123) (ci := 12) hi_M_writing_X12 Y.o h201 rfl 91 (by decide +kernel) (List.mem_of_getElem? (i := 34) rfl) rfl dX12_writing_175 ?_
          refine v_iconst B (v := iI 0) dX12_writing_178 rfl ?_
          refine v_aload_n B dX12_writing_179 rfl rfl ?_
          refine u_get B Z (C := RX12) (T := TX12) (N := 123) (ci := 12) hi_M_writing_X12 Y.o h201 rfl 90 (by decide +kernel) (List.mem_of_getElem? (i := 16) rfl) rfl dX12_writing_180 ?_
          refine v_iconst B (v := iI 0) dX12_writing_183 rfl ?_
          refine v_iload B dX12_writing_184 rfl ?_
          refine u_callSv B Z hz (n := 5) (As := [.ref (q 91), .int (iI 0), .ref (q 90), .int (iI 0), .int (iI x5)]) (rest := []) (c_M_copy l D K Z _ _ _ _ h q Y 91 96 0 90 96 0 x5 rfl ⟨by omega, by omega⟩ rfl ⟨by omega, by omega⟩ ⟨by omega, by omega⟩ σ195 G198 (by omega)) gd_M_writing_M_copy_29 rfl rfl rfl (by decide +kernel) ⟨Nat.le_trans (by decide +kernel) hR.1, Nat.le_trans (by decide +kernel) hR.2⟩ rfl rfl (Nat.le_of_ble_eq_true rfl) dX12_writing_186 ⟨Nat.zero_le _, Nat.zero_le _⟩ (fun σ202 p203 => ?_)
          obtain ⟨G205, F206⟩ := p203
          have F207 := F200.call F206 (by first | rfl | simp)
          refine v_aload_n B dX12_writing_189 rfl rfl ?_
          have h208 := (F206 h _ Y.o (by first | rfl | simp)).trans (h201)
          refine u_get B Z (C := RX12) (T := TX12) (N := 123) (ci := 12) hi_M_writing_X12 Y.o h208 rfl 90 (by decide +kernel) (List.mem_of_getElem? (i := 16) rfl) rfl dX12_writing_190 ?_
          refine v_iconst B (v := iI 0) dX12_writing_193 rfl ?_
          refine v_bipush B (v := iI 23) dX12_writing_194 (by decide +kernel) ?_
          obtain ⟨f209, h210, e211⟩ := ga_90 G205.t
          refine u_bast B Z (t0 := 2) (x := iI 23) (y := iI 23) (ym_90 Y) h210 rfl (by omega) (nar8 (by omega)) dX12_writing_196 (fun σ212 h213 n214 => ?_)
          have F215 := F207.put (ym_90 Y) (by simp) n214
          have G216 := gp_90 Y G205 ⟨_, h213, el_upd (z := 23) e211 ⟨by omega, by omega⟩ _⟩ n214
          refine v_aload_n B dX12_writing_197 rfl rfl ?_
          refine v_iload_n B dX12_writing_198 rfl rfl ?_
          refine v_iconst B (v := iI 4) dX12_writing_199 rfl ?_
          refine v_iload B dX12_writing_200 rfl ?_
          have h217 := (n214 (q 85) (ne_ty (ym_85 Y) (ym_90 Y) (by decide))).trans ((F206 (q 85) _ (ym_85 Y) (by first | rfl | simp)).trans ((F199 (q 85) _ (ym_85 Y) (by first | rfl | simp)).trans ((n190 (q 85) (ne_ty (ym_85 Y) (ym_112 Y) (by decide))).trans ((n180 (q 85) (ne_ty (ym_85 Y) (ym_111 Y) (by decide))).trans ((n164 (q 85) (ne_ty (ym_85 Y) (ym_110 Y) (by decide))).trans ((n153 (q 85) (ne_ty (ym_85 Y) (ym_106 Y) (by decide))).trans (h19)))))))
          refine u_callVv B Z hz (n := 3) (As := [.int (iI d), .int (iI 4), .int (iI x5)]) (rest := []) (c_M_says l D K Z _ _ _ _ h q Y d 4 x5 ⟨by omega, by omega⟩ ⟨by omega, by omega⟩ ⟨by omega, by omega⟩ σ212 G216 (At.mk h217 e22 (by omega) ⟨by omega, by omega⟩) (by omega)) gd_M_writing_M_says_527 rfl rfl rfl (by decide +kernel) ⟨Nat.le_trans (by decide +kernel) hR.1, Nat.le_trans (by decide +kernel) hR.2⟩ Y.o (clsM G216.t) rfl rfl rfl rfl (Nat.le_of_ble_eq_true rfl) dX12_writing_202 ⟨Nat.zero_le _, Nat.zero_le _⟩ (fun σ218 p219 => ?_)
          obtain ⟨G221, F222⟩ := p219
          have F223 := F215.call F222 (by first | rfl | simp)
          exact hend σ218 _ _ G221 F223 dX12_writing_205
        · refine v_bipush B (v := iI 9) dX12_writing_53 (by decide +kernel) ?_
          refine v_istore B (lv' := [(6, .int (iI 9)), (0, .ref h), (1, .int (iI d)), (2, .int (iI x2)), (3, .int (iI x3)), (4, .int (iI x4)), (5, .int (iI x5))]) dX12_writing_55 (by decide +kernel) rfl ?_
          refine v_iload B dX12_writing_57 rfl ?_
          refine u_if_le B (tgt := 72) (by omega) dX12_writing_59 (by decide +kernel) (fun c224 => by omega) (fun c224 => ?_)
          refine v_aload_n B dX12_writing_62 rfl rfl ?_
          refine v_iload_n B dX12_writing_63 rfl rfl ?_
          refine v_iload_n B dX12_writing_64 rfl rfl ?_
          refine v_iload_n B dX12_writing_65 rfl rfl ?_
          refine v_iload B dX12_writing_66 rfl ?_
          refine u_callVv B Z hz (n := 4) (As := [.int (iI d), .int (iI x2), .int (iI x3), .int (iI 9)]) (rest := []) (c_M_error l D K Z _ _ _ _ h q Y d x2 x3 9 ⟨by omega, by omega⟩ ⟨by omega, by omega⟩ ⟨by omega, by omega⟩ ⟨by omega, by omega⟩ σ0 G0 (At.mk h19 e22 (by omega) ⟨by omega, by omega⟩)) gd_M_writing_M_error_564 rfl rfl rfl (by decide +kernel) ⟨Nat.le_trans (by decide +kernel) hR.1, Nat.le_trans (by decide +kernel) hR.2⟩ Y.o (clsM G0.t) rfl rfl rfl rfl (Nat.le_of_ble_eq_true rfl) dX12_writing_68 ⟨Nat.zero_le _, Nat.zero_le _⟩ (fun σ225 p226 => ?_)
          obtain ⟨G228, F229⟩ := p226
          have F230 := F0.call F229 (by first | rfl | simp)
          exact hend σ225 _ _ G228 F230 dX12_writing_71
    · refine v_iload B dX12_writing_20 rfl ?_
      refine v_bipush B (v := iI 43) dX12_writing_22 (by decide +kernel) ?_
      refine u_icmp_le B (tgt := 31) (by omega) (by omega) dX12_writing_24 (by decide +kernel) (fun c231 => ?_) (fun c231 => ?_)
      · refine v_iload B dX12_writing_31 rfl ?_
        refine u_if_ne B (tgt := 57) (by omega) dX12_writing_33 (by decide +kernel) (fun c232 => by omega) (fun c232 => ?_)
        refine v_iload_n B dX12_writing_36 rfl rfl ?_
        refine v_bipush B (v := iI 22) dX12_writing_37 (by decide +kernel) ?_
        refine u_icmp_ne B (tgt := 57) (by omega) (by omega) dX12_writing_39 (by decide +kernel) (fun c233 => ?_) (fun c233 => by omega)
        refine v_iload B dX12_writing_57 rfl ?_
        refine u_if_le B (tgt := 72) (by omega) dX12_writing_59 (by decide +kernel) (fun c234 => ?_) (fun c234 => by omega)
        refine v_iload_n B dX12_writing_72 rfl rfl ?_
        refine v_bipush B (v := iI 18) dX12_writing_73 (by decide +kernel) ?_
        refine u_icmp_ne B (tgt := 102) (by omega) (by omega) dX12_writing_75 (by decide +kernel) (fun c235 => by omega) (fun c235 => ?_)
        refine v_aload_n B dX12_writing_78 rfl rfl ?_
        refine v_iload_n B dX12_writing_79 rfl rfl ?_
        refine v_iload_n B dX12_writing_80 rfl rfl ?_
        refine v_iload B dX12_writing_81 rfl ?_
        refine u_callVv B Z hz (n := 3) (As := [.int (iI d), .int (iI x3), .int (iI x5)]) (rest := []) (c_M_writes l D K Z _ _ _ _ h q Y d x3 x5 ⟨by omega, by omega⟩ ⟨by omega, by omega⟩ ⟨by omega, by omega⟩ σ0 G0 (by omega)) gd_M_writing_M_writes_574 rfl rfl rfl (by decide +kernel) ⟨Nat.le_trans (by decide +kernel) hR.1, Nat.le_trans (by decide +kernel) hR.2⟩ Y.o (clsM G0.t) rfl rfl rfl rfl (Nat.le_of_ble_eq_true rfl) dX12_writing_83 ⟨Nat.zero_le _, Nat.zero_le _⟩ (fun σ236 p237 => ?_)
        obtain ⟨G239, F240⟩ := p237
        have F241 := F0.call F240 (by first | rfl | simp)
        refine v_aload_n B dX12_writing_86 rfl rfl ?_
        have h242 := (F240 h _ Y.o (by first | rfl | simp)).trans (h6)
        refine u_get B Z (C := RX12) (T := TX12) (N := 123) (ci := 12) hi_M_writing_X12 Y.o h242 rfl 90 (by decide +kernel) (List.mem_of_getElem? (i := 16) rfl) rfl dX12_writing_87 ?_
        refine v_iconst B (v := iI 0) dX12_writing_90 rfl ?_
        refine v_bipush B (v := iI 19) dX12_writing_91 (by decide +kernel) ?_
        obtain ⟨f243, h244, e245⟩ := ga_90 G239.t
        refine u_bast B Z (t0 := 2) (x := iI 19) (y := iI 19) (ym_90 Y) h244 rfl (by omega) (nar8 (by omega)) dX12_writing_93 (fun σ246 h247 n248 => ?_)
        have F249 := F241.put (ym_90 Y) (by simp) n248
        have G250 := gp_90 Y G239 ⟨_, h247, el_upd (z := 19) e245 ⟨by omega, by omega⟩ _⟩ n248
        refine v_aload_n B dX12_writing_94 rfl rfl ?_
        refine v_iload_n B dX12_writing_95 rfl rfl ?_
        refine v_iconst B (v := iI 4) dX12_writing_96 rfl ?_
        refine v_iconst B (v := iI 1) dX12_writing_97 rfl ?_
        have h251 := (n248 (q 85) (ne_ty (ym_85 Y) (ym_90 Y) (by decide))).trans ((F240 (q 85) _ (ym_85 Y) (by first | rfl | simp)).trans (h19))
        refine u_callVv B Z hz (n := 3) (As := [.int (iI d), .int (iI 4), .int (iI 1)]) (rest := []) (c_M_says l D K Z _ _ _ _ h q Y d 4 1 ⟨by omega, by omega⟩ ⟨by omega, by omega⟩ ⟨by omega, by omega⟩ σ246 G250 (At.mk h251 e22 (by omega) ⟨by omega, by omega⟩) (by omega)) gd_M_writing_M_says_527 rfl rfl rfl (by decide +kernel) ⟨Nat.le_trans (by decide +kernel) hR.1, Nat.le_trans (by decide +kernel) hR.2⟩ Y.o (clsM G250.t) rfl rfl rfl rfl (Nat.le_of_ble_eq_true rfl) dX12_writing_98 ⟨Nat.zero_le _, Nat.zero_le _⟩ (fun σ252 p253 => ?_)
        obtain ⟨G255, F256⟩ := p253
        have F257 := F249.call F256 (by first | rfl | simp)
        exact hend σ252 _ _ G255 F257 dX12_writing_101
      · refine v_bipush B (v := iI 13) dX12_writing_27 (by decide +kernel) ?_
        refine v_istore B (lv' := [(6, .int (iI 13)), (0, .ref h), (1, .int (iI d)), (2, .int (iI x2)), (3, .int (iI x3)), (4, .int (iI x4)), (5, .int (iI x5))]) dX12_writing_29 (by decide +kernel) rfl ?_
        refine v_iload B dX12_writing_31 rfl ?_
        refine u_if_ne B (tgt := 57) (by omega) dX12_writing_33 (by decide +kernel) (fun c258 => ?_) (fun c258 => by omega)
        refine v_iload B dX12_writing_57 rfl ?_
        refine u_if_le B (tgt := 72) (by omega) dX12_writing_59 (by decide +kernel) (fun c259 => by omega) (fun c259 => ?_)
        refine v_aload_n B dX12_writing_62 rfl rfl ?_
        refine v_iload_n B dX12_writing_63 rfl rfl ?_
        refine v_iload_n B dX12_writing_64 rfl rfl ?_
        refine v_iload_n B dX12_writing_65 rfl rfl ?_
        refine v_iload B dX12_writing_66 rfl ?_
        refine u_callVv B Z hz (n := 4) (As := [.int (iI d), .int (iI x2), .int (iI x3), .int (iI 13)]) (rest := []) (c_M_error l D K Z _ _ _ _ h q Y d x2 x3 13 ⟨by omega, by omega⟩ ⟨by omega, by omega⟩ ⟨by omega, by omega⟩ ⟨by omega, by omega⟩ σ0 G0 (At.mk h19 e22 (by omega) ⟨by omega, by omega⟩)) gd_M_writing_M_error_564 rfl rfl rfl (by decide +kernel) ⟨Nat.le_trans (by decide +kernel) hR.1, Nat.le_trans (by decide +kernel) hR.2⟩ Y.o (clsM G0.t) rfl rfl rfl rfl (Nat.le_of_ble_eq_true rfl) dX12_writing_68 ⟨Nat.zero_le _, Nat.zero_le _⟩ (fun σ260 p261 => ?_)
        obtain ⟨G263, F264⟩ := p261
        have F265 := F0.call F264 (by first | rfl | simp)
        exact hend σ260 _ _ G263 F265 dX12_writing_71
set_option maxRecDepth 100000 in
theorem c_M_writing (l : Launch) (D : va_G) (K : Nat → ClassId) {τ : Nat → Option Ty} {dom : List Nat} (Z : Sk τ dom) (zb zL : Nat) (zx : Nat → Int32) (zs : Nat → Nat) (h : Nat) (q : Nat → Nat) (Y : MS τ h q) (d : Int) (x2 : Int) (x3 : Int) (x4 : Int) (x5 : Int) (r_d : 0 ≤ d ∧ d ≤ 1) (r_x2 : 0 ≤ x2 ∧ x2 ≤ 255) (r_x3 : 1 ≤ x3 ∧ x3 ≤ 20) (r_x4 : 0 ≤ x4 ∧ x4 ≤ 65535) (r_x5 : -4 ≤ x5 ∧ x5 ≤ 64) (σ0 : Nat → va_E) (G0 : GM K h q σ0) (hM : At σ0 (q 85) (d : Int).toNat (0) (7)) (ho : (x2 = 18 ∧ 3 ≤ x5) ∨ (x2 = 22 ∧ 5 ≤ x5)) : MZ l yX12_writing wp_M_writing ({ frames := 3, cells := 0, slots := 0, locals := 73 }) D (tysA K) [.ref h, .int (iI d), .int (iI x2), .int (iI x3), .int (iI x4), .int (iI x5)] (fd dom σ0) zb zL zx zs (Qv D (fun σ' => GM K h q σ' ∧ Fr τ [(190, 0), (182, 0), (184, 0), (185, 0), (206, 0), (210, 0), (211, 0), (212, 0), (208, 0), (203, 0), (207, 0)] σ0 σ') (fun σ' => fd dom σ')) 0 0 := by
  refine mz_of (cc := cX12_writing) (maxL := 8) (ret := none) (by decide +kernel) rfl (Nat.le_of_ble_eq_true rfl) ?_
  intro p e s m below meth c A B hr hlk _ hz
  exact b_M_writing ⟨Nat.le_refl _, Nat.le_refl _⟩ B Z hz h q Y d x2 x3 x4 x5 r_d r_x2 r_x3 r_x4 r_x5 σ0 G0 hM ho (fun σ' lv pc G F hd => v_vret B hr hlk σ' ⟨G, F⟩ rfl (Nat.le_refl _) (Nat.le_refl _) hd)
