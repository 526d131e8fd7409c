def wp_M_request : List Cond := .code yX12_request cX12_request 4 none :: (([.fieldLink RX12 290 "LowEnergyModel" "said" "[B", .fieldLink RX12 374 "LowEnergyModel" "due" "[I", .methodLink RX12 527 yX12_says, .instanceMethod yX12_says, .selects RX12 yX12_says yX12_says, .initialized RX12, .code yX12_says cX12_says 5 none, .fieldLink RX12 275 "LowEnergyModel" "messages" "[I", .fieldLink RX12 266 "LowEnergyModel" "message" "[B", .methodLink RX12 432 yX12_number, .static yX12_number, .code yX12_number cX12_number 6 none, .methodLink RX12 29 yX12_copy, .static yX12_copy, .code yX12_copy cX12_copy 6 none, .fieldLink RX12 272 "LowEnergyModel" "messageMany" "[I"] : List Cond) ++ (wsX120 ++ ([])))
theorem hi_M_request_X12 : ∀ x ∈ u_ws RX12 TX12 123, x ∈ wp_M_request := fun _ h => List.mem_cons_of_mem _ (List.mem_append_right _ (List.mem_append_left _ h))
set_option maxRecDepth 100000 in
theorem gd_M_request_M_says_527 : GoodIn wp_M_request (wsV RX12 527 RX12 yX12_says wp_M_says) := goodIn_app (goodIn_r _ [3, 4, 5, 6] rfl rfl) (goodIn_ca (goodIn_r _ [7, 8, 9, 10, 11, 6, 12, 1, 13, 14, 15, 16] rfl rfl) (goodIn_app (goodIn_cls hi_M_request_X12 gw_X12) (goodIn_nil)))
set_option maxHeartbeats 4000000 in
set_option maxRecDepth 100000 in
theorem b_M_request {p : Program} {l : Launch} {e : Env} {R : Room} {s : State} {m : MethodId} {args : Array Value} {below : List Frame} {meth : Method} {c : Code} {D : va_G} {K : Nat → ClassId} {A : Nat → Prop} {Q : State → Prop} {τ : Nat → Option Ty} {dom : List Nat} {zb zL : Nat} {zx : Nat → Int32} {zs : Nat → Nat} (hR : 2 ≤ R.frames ∧ 49 ≤ R.locals) (B : Bx p s m args c cX12_request 4 RX12 wp_M_request D (tysA K) A) (Z : Sk τ dom) (hz : ZL zb zL zx zs A s s.heap) (h : Nat) (q : Nat → Nat) (Y : MS τ h q) (d : Int) (x2 : Int) (x3 : Int) (r_d : 0 ≤ d ∧ d ≤ 1) (r_x2 : 0 ≤ x2 ∧ x2 ≤ 255) (r_x3 : -3000 ≤ x3 ∧ x3 ≤ 92) (σ0 : Nat → va_E) (G0 : GM K h q σ0) (hM : At σ0 (q 85) (d : Int).toNat (0) (7)) (hn : 0 ≤ x3) (hend : ∀ (σ' : Nat → va_E) (lv : List (Nat × Value)) (pc : Nat), GM K h q σ' → Fr τ [(190, 0), (219, 0), (182, 0), (184, 0), (185, 0)] σ0 σ' → decode cX12_request pc = .ok (.return_, 1) → V p l e R s m args below meth c 4 D A Q (0, 0) (fd dom σ') lv pc []) : V p l e R s m args below meth c 4 D A Q (0, 0) (fd dom σ0) [(0, .ref h), (1, .int (iI d)), (2, .int (iI x2)), (3, .int (iI x3))] 0 [] := by
  have F0 : Fr τ [(190, 0), (219, 0), (182, 0), (184, 0), (185, 0)] σ0 σ0 := Fr.rf
  obtain ⟨z1, z2, z3, z4, z5, h6, r7, r8, r9, r10, r11⟩ := G0.t.o
  obtain ⟨f12, h13, e14⟩ := ga_85 G0.t
  obtain ⟨z15, e16, r17⟩ := e14 (d : Int).toNat
  have r18 := hM.use h13 e16 (by omega)
  refine v_aload_n B dX12_request_0 rfl rfl ?_
  refine u_get B Z (C := RX12) (T := TX12) (N := 123) (ci := 12) hi_M_request_X12 Y.o h6 rfl 90 (by decide +kernel) (List.mem_of_getElem? (i := 1) rfl) rfl dX12_request_1 ?_
  refine v_iconst B (v := iI 0) dX12_request_4 rfl ?_
  refine v_iload_n B dX12_request_5 rfl rfl ?_
  obtain ⟨z19, e20, r21⟩ := iI_i8 x2
  refine v_i2b B (v := iI z19) dX12_request_6 e20 ?_
  obtain ⟨f22, h23, e24⟩ := ga_90 G0.t
  refine u_bast B Z (t0 := 2) (x := iI z19) (y := iI z19) (ym_90 Y) h23 rfl (by omega) (nar8 (by omega)) dX12_request_7 (fun σ25 h26 n27 => ?_)
  have F28 := F0.put (ym_90 Y) (by simp) n27
  have G29 := gp_90 Y G0 ⟨_, h26, el_upd (z := z19) e24 ⟨by omega, by omega⟩ _⟩ n27
  refine v_aload_n B dX12_request_8 rfl rfl ?_
  have h30 := (n27 h (ne_ty Y.o (ym_90 Y) (by decide))).trans (h6)
  refine u_get B Z (C := RX12) (T := TX12) (N := 123) (ci := 12) hi_M_request_X12 Y.o h30 rfl 119 (by decide +kernel) (List.mem_of_getElem? (i := 2) rfl) rfl dX12_request_9 ?_
  refine v_iload_n B dX12_request_12 rfl rfl ?_
  refine v_iload_n B dX12_request_13 rfl rfl ?_
  refine v_iconst B (v := iI 1) dX12_request_14 rfl ?_
  refine v_iadd B (v := iI (x2 + 1)) dX12_request_15 ((iI_add _ _).trans (congrArg iI (by omega))) ?_
  obtain ⟨f31, h32, e33⟩ := ga_119 G29.t
  refine u_iast B Z (t0 := 0) (x := iI (x2 + 1)) (ym_119 Y) h32 rfl (by omega) dX12_request_16 (fun σ34 h35 n36 => ?_)
  have e37 := el_upd (z := (x2 + 1)) e33 ⟨by omega, by omega⟩ (d : Int).toNat
  have F38 := F28.put (ym_119 Y) (by simp) n36
  have G39 := gp_119 Y G29 ⟨_, h35, e37⟩ n36
  refine v_aload_n B dX12_request_17 rfl rfl ?_
  refine v_iload_n B dX12_request_18 rfl rfl ?_
  refine v_iconst B (v := iI 4) dX12_request_19 rfl ?_
  refine v_iload_n B dX12_request_20 rfl rfl ?_
  have h40 := (n36 (q 85) (ne_ty (ym_85 Y) (ym_119 Y) (by decide))).trans ((n27 (q 85) (ne_ty (ym_85 Y) (ym_90 Y) (by decide))).trans (h13))
  refine u_callVv B Z hz (n := 3) (As := [.int (iI d), .int (iI 4), .int (iI x3)]) (rest := []) (c_M_says l D K Z _ _ _ _ h q Y d 4 x3 ⟨by omega, by omega⟩ ⟨by omega, by omega⟩ ⟨by omega, by omega⟩ σ34 G39 (At.mk h40 e16 (by omega) ⟨by omega, by omega⟩) (by omega)) gd_M_request_M_says_527 rfl rfl rfl (by decide +kernel) ⟨Nat.le_trans (by decide +kernel) hR.1, Nat.le_trans (by decide +kernel) hR.2⟩ Y.o (clsM G39.t) rfl rfl rfl rfl (Nat.le_of_ble_eq_true rfl) dX12_request_21 ⟨Nat.zero_le _, Nat.zero_le _⟩ (fun σ41 p42 => ?_)
  obtain ⟨G44, F45⟩ := p42
  have F46 := F38.call F45 (by first | rfl | simp)
  exact hend σ41 _ _ G44 F46 dX12_request_24
set_option maxRecDepth 100000 in
theorem c_M_request (l : Launch) (D : va_G) (K : Nat → ClassId) {τ : Nat → Option Ty} {dom : List Nat} (Z : Sk τ dom) (zb zL : Nat) (zx : Nat → Int32) (zs : Nat → Nat) (h : Nat) (q : Nat → Nat) (Y : MS τ h q) (d : Int) (x2 : Int) (x3 : Int) (r_d : 0 ≤ d ∧ d ≤ 1) (r_x2 : 0 ≤ x2 ∧ x2 ≤ 255) (r_x3 : -3000 ≤ x3 ∧ x3 ≤ 92) (σ0 : Nat → va_E) (G0 : GM K h q σ0) (hM : At σ0 (q 85) (d : Int).toNat (0) (7)) (hn : 0 ≤ x3) : MZ l yX12_request wp_M_request ({ frames := 2, cells := 0, slots := 0, locals := 49 }) D (tysA K) [.ref h, .int (iI d), .int (iI x2), .int (iI x3)] (fd dom σ0) zb zL zx zs (Qv D (fun σ' => GM K h q σ' ∧ Fr τ [(190, 0), (219, 0), (182, 0), (184, 0), (185, 0)] σ0 σ') (fun σ' => fd dom σ')) 0 0 := by
  refine mz_of (cc := cX12_request) (maxL := 4) (ret := none) (by decide +kernel) rfl (Nat.le_of_ble_eq_true rfl) ?_
  intro p e s m below meth c A B hr hlk _ hz
  exact b_M_request ⟨Nat.le_refl _, Nat.le_refl _⟩ B Z hz h q Y d x2 x3 r_d r_x2 r_x3 σ0 G0 hM hn (fun σ' lv pc G F hd => v_vret B hr hlk σ' ⟨G, F⟩ rfl (Nat.le_refl _) (Nat.le_refl _) hd)

def wp_M_asksToWrite : List Cond := .code yX12_asksToWrite cX12_asksToWrite 3 none :: (([.fieldLink RX12 377 "LowEnergyModel" "place" "[I", .fieldLink RX12 380 "LowEnergyModel" "jobMany" "[I", .fieldLink RX12 290 "LowEnergyModel" "said" "[B", .methodLink RX12 606 yX12_request, .instanceMethod yX12_request, .selects RX12 yX12_request yX12_request, .initialized RX12, .code yX12_request cX12_request 4 none, .fieldLink RX12 374 "LowEnergyModel" "due" "[I", .methodLink RX12 527 yX12_says, .instanceMethod yX12_says, .selects RX12 yX12_says yX12_says, .code yX12_says cX12_says 5 none, .fieldLink RX12 275 "LowEnergyModel" "messages" "[I", .fieldLink RX12 266 "LowEnergyModel" "message" "[B", .methodLink RX12 432 yX12_number, .static yX12_number, .code yX12_number cX12_number 6 none, .methodLink RX12 29 yX12_copy, .static yX12_copy, .code yX12_copy cX12_copy 6 none, .fieldLink RX12 272 "LowEnergyModel" "messageMany" "[I", .fieldLink RX12 332 "LowEnergyModel" "mtu" "[I", .methodLink RX12 404 Lib.Math.min.name, .static Lib.Math.min.name, .initialized "java/lang/Math", .code Lib.Math.min.name Lib.Math.min.code 2 (some .int), .fieldLink RX12 383 "LowEnergyModel" "jobBytes" "[B", .fieldLink RX12 368 "LowEnergyModel" "jobA" "[I"] : List Cond) ++ (wsX120 ++ ([])))
theorem hi_M_asksToWrite_X12 : ∀ x ∈ u_ws RX12 TX12 123, x ∈ wp_M_asksToWrite := fun _ h => List.mem_cons_of_mem _ (List.mem_append_right _ (List.mem_append_left _ h))
set_option maxRecDepth 100000 in
theorem gd_M_asksToWrite_M_request_606 : GoodIn wp_M_asksToWrite (wsV RX12 606 RX12 yX12_request wp_M_request) := goodIn_app (goodIn_r _ [4, 5, 6, 7] rfl rfl) (goodIn_ca (goodIn_r _ [8, 3, 9, 10, 11, 12, 7, 13, 14, 15, 16, 17, 18, 19, 20, 21, 22] rfl rfl) (goodIn_app (goodIn_cls hi_M_asksToWrite_X12 gw_X12) (goodIn_nil)))
set_option maxRecDepth 100000 in
theorem gd_M_asksToWrite_M_numberP_432 : GoodIn wp_M_asksToWrite (va_wsS RX12 432 yX12_number wp_M_numberP) := goodIn_app (goodIn_r _ [16, 17, 7] rfl rfl) (goodIn_ca (goodIn_r _ [18] rfl rfl) (goodIn_nil))
set_option maxRecDepth 100000 in
theorem gd_M_asksToWrite_M_copy_29 : GoodIn wp_M_asksToWrite (va_wsS RX12 29 yX12_copy wp_M_copy) := goodIn_app (goodIn_r _ [19, 20, 7] rfl rfl) (goodIn_ca (goodIn_r _ [21] rfl rfl) (goodIn_nil))
set_option maxHeartbeats 4000000 in
set_option maxRecDepth 100000 in
theorem b_M_asksToWrite {p : Program} {l : Launch} {e : Env} {R : Room} {s : State} {m : MethodId} {args : Array Value} {below : List Frame} {meth : Method} {c : Code} {D : va_G} {K : Nat → ClassId} {A : Nat → Prop} {Q : State → Prop} {τ : Nat → Option Ty} {dom : List Nat} {zb zL : Nat} {zx : Nat → Int32} {zs : Nat → Nat} (hR : 3 ≤ R.frames ∧ 72 ≤ R.locals) (B : Bx p s m args c cX12_asksToWrite 3 RX12 wp_M_asksToWrite D (tysA K) A) (Z : Sk τ dom) (hz : ZL zb zL zx zs A s s.heap) (h : Nat) (q : Nat → Nat) (Y : MS τ h q) (d : Int) (r_d : 0 ≤ d ∧ d ≤ 1) (σ0 : Nat → va_E) (G0 : GM K h q σ0) (hM : At σ0 (q 85) (d : Int).toNat (0) (7)) (hend : ∀ (σ' : Nat → va_E) (lv : List (Nat × Value)) (pc : Nat), GM K h q σ' → Fr τ [(190, 0), (219, 0), (182, 0), (184, 0), (185, 0), (220, 0)] σ0 σ' → decode cX12_asksToWrite pc = .ok (.return_, 1) → V p l e R s m args below meth c 3 D A Q (0, 0) (fd dom σ') lv pc []) : V p l e R s m args below meth c 3 D A Q (0, 0) (fd dom σ0) [(0, .ref h), (1, .int (iI d))] 0 [] := by
  have F0 : Fr τ [(190, 0), (219, 0), (182, 0), (184, 0), (185, 0), (220, 0)] σ0 σ0 := Fr.rf
  obtain ⟨z1, z2, z3, z4, z5, h6, r7, r8, r9, r10, r11⟩ := G0.t.o
  obtain ⟨f12, h13, e14⟩ := ga_85 G0.t
  obtain ⟨z15, e16, r17⟩ := e14 (d : Int).toNat
  have r18 := hM.use h13 e16 (by omega)
  have J82 : ∀ (σ_82 : Nat → va_E), GM K h q σ_82 → Fr τ [(190, 0), (219, 0), (182, 0), (184, 0), (185, 0), (220, 0)] σ0 σ_82 → (σ_82 h = .inr (12, fsM q (iI z1) (iI z2) (iI z3) (iI z4) (iI z5))) → (At σ_82 (q 85) (d : Int).toNat (0) (7)) → V p l e R s m args below meth c 3 D A Q (0, 0) (fd dom σ_82) [(0, .ref h), (1, .int (iI d))] 82 [] := by
    intro σ_82 G_82 F_82 hc82_h i82
    obtain ⟨f19, h20, e21⟩ := ga_85 G_82.t
    obtain ⟨z22, e23, r24⟩ := e21 (d : Int).toNat
    have r25 := (i82).use h20 e23 (by omega)
    refine v_aload_n B dX12_asksToWrite_82 rfl rfl ?_
    refine u_get B Z (C := RX12) (T := TX12) (N := 123) (ci := 12) hi_M_asksToWrite_X12 Y.o hc82_h rfl 120 (by decide +kernel) (List.mem_of_getElem? (i := 1) rfl) rfl dX12_asksToWrite_83 ?_
    refine v_iload_n B dX12_asksToWrite_86 rfl rfl ?_
    obtain ⟨f26, h27, e28⟩ := ga_120 G_82.t
    obtain ⟨z29, e30, r31⟩ := e28 (d : Int).toNat
    refine u_iald B Z (t0 := 0) (ym_120 Y) h27 rfl (by omega) e30 dX12_asksToWrite_87 ?_
    refine v_aload_n B dX12_asksToWrite_88 rfl rfl ?_
    refine u_get B Z (C := RX12) (T := TX12) (N := 123) (ci := 12) hi_M_asksToWrite_X12 Y.o hc82_h rfl 121 (by decide +kernel) (List.mem_of_getElem? (i := 2) rfl) rfl dX12_asksToWrite_89 ?_
    refine v_iload_n B dX12_asksToWrite_92 rfl rfl ?_
    obtain ⟨f32, h33, e34⟩ := ga_121 G_82.t
    obtain ⟨z35, e36, r37⟩ := e34 (d : Int).toNat
    refine u_iald B Z (t0 := 0) (ym_121 Y) h33 rfl (by omega) e36 dX12_asksToWrite_93 ?_
    refine u_icmp_ge B (tgt := 185) (by omega) (by omega) dX12_asksToWrite_94 (by decide +kernel) (fun c38 => ?_) (fun c38 => ?_)
    · refine v_aload_n B dX12_asksToWrite_185 rfl rfl ?_
      refine u_get B Z (C := RX12) (T := TX12) (N := 123) (ci := 12) hi_M_asksToWrite_X12 Y.o hc82_h rfl 90 (by decide +kernel) (List.mem_of_getElem? (i := 3) rfl) rfl dX12_asksToWrite_186 ?_
      refine v_iconst B (v := iI 1) dX12_asksToWrite_189 rfl ?_
      refine v_iconst B (v := iI 1) dX12_asksToWrite_190 rfl ?_
      obtain ⟨f39, h40, e41⟩ := ga_90 G_82.t
      refine u_bast B Z (t0 := 2) (x := iI 1) (y := iI 1) (ym_90 Y) h40 rfl (by omega) (nar8 (by omega)) dX12_asksToWrite_191 (fun σ42 h43 n44 => ?_)
      have F45 := F_82.put (ym_90 Y) (by simp) n44
      have G46 := gp_90 Y G_82 ⟨_, h43, el_upd (z := 1) e41 ⟨by omega, by omega⟩ _⟩ n44
      refine v_aload_n B dX12_asksToWrite_192 rfl rfl ?_
      refine v_iload_n B dX12_asksToWrite_193 rfl rfl ?_
      refine v_bipush B (v := iI 24) dX12_asksToWrite_194 (by decide +kernel) ?_
      refine v_iconst B (v := iI 2) dX12_asksToWrite_196 rfl ?_
      have h47 := (n44 (q 85) (ne_ty (ym_85 Y) (ym_90 Y) (by decide))).trans (h20)
      refine u_callVv B Z hz (n := 3) (As := [.int (iI d), .int (iI 24), .int (iI 2)]) (rest := []) (c_M_request l D K Z _ _ _ _ h q Y d 24 2 ⟨by omega, by omega⟩ ⟨by omega, by omega⟩ ⟨by omega, by omega⟩ σ42 G46 (At.mk h47 e23 (by omega) ⟨by omega, by omega⟩) (by omega)) gd_M_asksToWrite_M_request_606 rfl rfl rfl (by decide +kernel) ⟨Nat.le_trans (by decide +kernel) hR.1, Nat.le_trans (by decide +kernel) hR.2⟩ Y.o (clsM G46.t) rfl rfl rfl rfl (Nat.le_of_ble_eq_true rfl) dX12_asksToWrite_197 ⟨Nat.zero_le _, Nat.zero_le _⟩ (fun σ48 p49 => ?_)
      obtain ⟨G51, F52⟩ := p49
      have F53 := F45.call F52 (by first | rfl | simp)
      exact hend σ48 _ _ G51 F53 dX12_asksToWrite_200
    · refine v_aload_n B dX12_asksToWrite_97 rfl rfl ?_
      refine u_get B Z (C := RX12) (T := TX12) (N := 123) (ci := 12) hi_M_asksToWrite_X12 Y.o hc82_h rfl 104 (by decide +kernel) (List.mem_of_getElem? (i := 23) rfl) rfl dX12_asksToWrite_98 ?_
      refine v_iload_n B dX12_asksToWrite_101 rfl rfl ?_
      obtain ⟨f54, h55, e56⟩ := ga_104 G_82.t
      obtain ⟨z57, e58, r59⟩ := e56 (d : Int).toNat
      refine u_iald B Z (t0 := 0) (ym_104 Y) h55 rfl (by omega) e58 dX12_asksToWrite_102 ?_
      refine v_iconst B (v := iI 5) dX12_asksToWrite_103 rfl ?_
      refine v_isub B (v := iI (z57 + (-5))) dX12_asksToWrite_104 ((iI_sub _ _).trans (congrArg iI (by omega))) ?_
      refine v_aload_n B dX12_asksToWrite_105 rfl rfl ?_
      refine u_get B Z (C := RX12) (T := TX12) (N := 123) (ci := 12) hi_M_asksToWrite_X12 Y.o hc82_h rfl 121 (by decide +kernel) (List.mem_of_getElem? (i := 2) rfl) rfl dX12_asksToWrite_106 ?_
      refine v_iload_n B dX12_asksToWrite_109 rfl rfl ?_
      refine u_iald B Z (t0 := 0) (ym_121 Y) h33 rfl (by omega) e36 dX12_asksToWrite_110 ?_
      refine v_aload_n B dX12_asksToWrite_111 rfl rfl ?_
      refine u_get B Z (C := RX12) (T := TX12) (N := 123) (ci := 12) hi_M_asksToWrite_X12 Y.o hc82_h rfl 120 (by decide +kernel) (List.mem_of_getElem? (i := 1) rfl) rfl dX12_asksToWrite_112 ?_
      refine v_iload_n B dX12_asksToWrite_115 rfl rfl ?_
      refine u_iald B Z (t0 := 0) (ym_120 Y) h27 rfl (by omega) e30 dX12_asksToWrite_116 ?_
      refine v_isub B (v := iI (z35 + (-1) * z29)) dX12_asksToWrite_117 ((iI_sub _ _).trans (congrArg iI (by omega))) ?_
      obtain ⟨z60, e61, r62⟩ := iI_min (a := (z57 + (-5))) (b := (z35 + (-1) * z29)) (by omega) (by omega)
      refine v_mmin B (v := iI z60) (List.mem_of_getElem? (i := 24) rfl) (List.mem_of_getElem? (i := 25) rfl) (List.mem_of_getElem? (i := 26) rfl) (List.mem_of_getElem? (i := 27) rfl) (Nat.le_trans (by decide +kernel) hR.1) (Nat.le_trans (Nat.le_of_ble_eq_true rfl) hR.2) (Nat.zero_le _) (Nat.zero_le _) e61 dX12_asksToWrite_118 ?_
      refine v_istore_n B (lv' := [(2, .int (iI z60)), (0, .ref h), (1, .int (iI d))]) dX12_asksToWrite_121 rfl (by decide +kernel) rfl ?_
      refine v_aload_n B dX12_asksToWrite_122 rfl rfl ?_
      refine u_get B Z (C := RX12) (T := TX12) (N := 123) (ci := 12) hi_M_asksToWrite_X12 Y.o hc82_h rfl 90 (by decide +kernel) (List.mem_of_getElem? (i := 3) rfl) rfl dX12_asksToWrite_123 ?_
      refine v_iconst B (v := iI 3) dX12_asksToWrite_126 rfl ?_
      refine v_aload_n B dX12_asksToWrite_127 rfl rfl ?_
      refine u_get B Z (C := RX12) (T := TX12) (N := 123) (ci := 12) hi_M_asksToWrite_X12 Y.o hc82_h rfl 120 (by decide +kernel) (List.mem_of_getElem? (i := 1) rfl) rfl dX12_asksToWrite_128 ?_
      refine v_iload_n B dX12_asksToWrite_131 rfl rfl ?_
      refine u_iald B Z (t0 := 0) (ym_120 Y) h27 rfl (by omega) e30 dX12_asksToWrite_132 ?_
      refine v_i2l B (v := lI z29) dX12_asksToWrite_133 (lI_i (by omega)) ?_
      refine v_iconst B (v := iI 2) dX12_asksToWrite_134 rfl ?_
      refine u_callSv B Z hz (n := 4) (As := [.ref (q 90), .int (iI 3), .long (lI z29), .int (iI 2)]) (rest := []) (c_M_numberP l D K Z _ _ _ _ h q Y 90 96 3 z29 2 rfl ⟨by omega, by omega⟩ ⟨by omega, by omega⟩ ⟨by omega, by omega⟩ σ_82 G_82 (by omega)) gd_M_asksToWrite_M_numberP_432 rfl rfl rfl (by decide +kernel) ⟨Nat.le_trans (by decide +kernel) hR.1, Nat.le_trans (by decide +kernel) hR.2⟩ rfl rfl (Nat.le_of_ble_eq_true rfl) dX12_asksToWrite_135 ⟨Nat.zero_le _, Nat.zero_le _⟩ (fun σ63 p64 => ?_)
      obtain ⟨G66, F67⟩ := p64
      have F68 := F_82.call F67 (by first | rfl | simp)
      refine v_aload_n B dX12_asksToWrite_138 rfl rfl ?_
      have h69 := (F67 h _ Y.o (by first | rfl | simp)).trans (hc82_h)
      refine u_get B Z (C := RX12) (T := TX12) (N := 123) (ci := 12) hi_M_asksToWrite_X12 Y.o h69 rfl 122 (by decide +kernel) (List.mem_of_getElem? (i := 28) rfl) rfl dX12_asksToWrite_139 ?_
      refine v_bipush B (v := iI 40) dX12_asksToWrite_142 (by decide +kernel) ?_
      refine v_iload_n B dX12_asksToWrite_144 rfl rfl ?_
      refine v_imul B (v := iI (40 * d)) dX12_asksToWrite_145 ((iI_mul _ _).trans (congrArg iI (by omega))) ?_
      refine v_aload_n B dX12_asksToWrite_146 rfl rfl ?_
      refine u_get B Z (C := RX12) (T := TX12) (N := 123) (ci := 12) hi_M_asksToWrite_X12 Y.o h69 rfl 120 (by decide +kernel) (List.mem_of_getElem? (i := 1) rfl) rfl dX12_asksToWrite_147 ?_
      refine v_iload_n B dX12_asksToWrite_150 rfl rfl ?_
      have h70 := (F67 (q 120) _ (ym_120 Y) (by first | rfl | simp)).trans (h27)
      refine u_iald B Z (t0 := 0) (ym_120 Y) h70 rfl (by omega) e30 dX12_asksToWrite_151 ?_
      refine v_iadd B (v := iI (40 * d + z29)) dX12_asksToWrite_152 ((iI_add _ _).trans (congrArg iI (by omega))) ?_
      refine v_aload_n B dX12_asksToWrite_153 rfl rfl ?_
      refine u_get B Z (C := RX12) (T := TX12) (N := 123) (ci := 12) hi_M_asksToWrite_X12 Y.o h69 rfl 90 (by decide +kernel) (List.mem_of_getElem? (i := 3) rfl) rfl dX12_asksToWrite_154 ?_
      refine v_iconst B (v := iI 5) dX12_asksToWrite_157 rfl ?_
      refine v_iload_n B dX12_asksToWrite_158 rfl rfl ?_
      refine u_callSv B Z hz (n := 5) (As := [.ref (q 122), .int (iI (40 * d + z29)), .ref (q 90), .int (iI 5), .int (iI z60)]) (rest := []) (c_M_copy l D K Z _ _ _ _ h q Y 122 80 (40 * d + z29) 90 96 5 z60 rfl ⟨by omega, by omega⟩ rfl ⟨by omega, by omega⟩ ⟨by omega, by omega⟩ σ63 G66 (by omega)) gd_M_asksToWrite_M_copy_29 rfl rfl rfl (by decide +kernel) ⟨Nat.le_trans (by decide +kernel) hR.1, Nat.le_trans (by decide +kernel) hR.2⟩ rfl rfl (Nat.le_of_ble_eq_true rfl) dX12_asksToWrite_159 ⟨Nat.zero_le _, Nat.zero_le _⟩ (fun σ71 p72 => ?_)
      obtain ⟨G74, F75⟩ := p72
      have F76 := F68.call F75 (by first | rfl | simp)
      refine v_aload_n B dX12_asksToWrite_162 rfl rfl ?_
      have h77 := (F75 h _ Y.o (by first | rfl | simp)).trans (h69)
      refine u_get B Z (C := RX12) (T := TX12) (N := 123) (ci := 12) hi_M_asksToWrite_X12 Y.o h77 rfl 120 (by decide +kernel) (List.mem_of_getElem? (i := 1) rfl) rfl dX12_asksToWrite_163 ?_
      refine v_iload_n B dX12_asksToWrite_166 rfl rfl ?_
      refine v_dup2 B dX12_asksToWrite_167 rfl rfl ?_
      have h78 := (F75 (q 120) _ (ym_120 Y) (by first | rfl | simp)).trans (h70)
      refine u_iald B Z (t0 := 0) (ym_120 Y) h78 rfl (by omega) e30 dX12_asksToWrite_168 ?_
      refine v_iload_n B dX12_asksToWrite_169 rfl rfl ?_
      refine v_iadd B (v := iI (z29 + z60)) dX12_asksToWrite_170 ((iI_add _ _).trans (congrArg iI (by omega))) ?_
      refine u_iast B Z (t0 := 0) (x := iI (z29 + z60)) (ym_120 Y) h78 rfl (by omega) dX12_asksToWrite_171 (fun σ79 h80 n81 => ?_)
      have e82 := el_upd (z := (z29 + z60)) e28 ⟨by omega, by omega⟩ (d : Int).toNat
      have F83 := F76.put (ym_120 Y) (by simp) n81
      have G84 := gp_120 Y G74 ⟨_, h80, e82⟩ n81
      refine v_aload_n B dX12_asksToWrite_172 rfl rfl ?_
      refine v_iload_n B dX12_asksToWrite_173 rfl rfl ?_
      refine v_bipush B (v := iI 22) dX12_asksToWrite_174 (by decide +kernel) ?_
      refine v_iconst B (v := iI 5) dX12_asksToWrite_176 rfl ?_
      refine v_iload_n B dX12_asksToWrite_177 rfl rfl ?_
      refine v_iadd B (v := iI (z60 + 5)) dX12_asksToWrite_178 ((iI_add _ _).trans (congrArg iI (by omega))) ?_
      have h85 := (n81 (q 85) (ne_ty (ym_85 Y) (ym_120 Y) (by decide))).trans ((F75 (q 85) _ (ym_85 Y) (by first | rfl | simp)).trans ((F67 (q 85) _ (ym_85 Y) (by first | rfl | simp)).trans (h20)))
      refine u_callVv B Z hz (n := 3) (As := [.int (iI d), .int (iI 22), .int (iI (z60 + 5))]) (rest := []) (c_M_request l D K Z _ _ _ _ h q Y d 22 (z60 + 5) ⟨by omega, by omega⟩ ⟨by omega, by omega⟩ ⟨by omega, by omega⟩ σ79 G84 (At.mk h85 e23 (by omega) ⟨by omega, by omega⟩) (by omega)) gd_M_asksToWrite_M_request_606 rfl rfl rfl (by decide +kernel) ⟨Nat.le_trans (by decide +kernel) hR.1, Nat.le_trans (by decide +kernel) hR.2⟩ Y.o (clsM G84.t) rfl rfl rfl rfl (Nat.le_of_ble_eq_true rfl) dX12_asksToWrite_179 ⟨Nat.zero_le _, Nat.zero_le _⟩ (fun σ86 p87 => ?_)
      obtain ⟨G89, F90⟩ := p87
      have F91 := F83.call F90 (by first | rfl | simp)
      refine v_goto B (tgt := 200) dX12_asksToWrite_182 (by decide +kernel) ?_
      exact hend σ86 _ _ G89 F91 dX12_asksToWrite_200
  refine v_aload_n B dX12_asksToWrite_0 rfl rfl ?_
  refine u_get B Z (C := RX12) (T := TX12) (N := 123) (ci := 12) hi_M_asksToWrite_X12 Y.o h6 rfl 90 (by decide +kernel) (List.mem_of_getElem? (i := 3) rfl) rfl dX12_asksToWrite_1 ?_
  refine v_iconst B (v := iI 1) dX12_asksToWrite_4 rfl ?_
  refine v_aload_n B dX12_asksToWrite_5 rfl rfl ?_
  refine u_get B Z (C := RX12) (T := TX12) (N := 123) (ci := 12) hi_M_asksToWrite_X12 Y.o h6 rfl 117 (by decide +kernel) (List.mem_of_getElem? (i := 29) rfl) rfl dX12_asksToWrite_6 ?_
  refine v_iload_n B dX12_asksToWrite_9 rfl rfl ?_
  obtain ⟨f92, h93, e94⟩ := ga_117 G0.t
  obtain ⟨z95, e96, r97⟩ := e94 (d : Int).toNat
  refine u_iald B Z (t0 := 0) (ym_117 Y) h93 rfl (by omega) e96 dX12_asksToWrite_10 ?_
  refine v_i2l B (v := lI z95) dX12_asksToWrite_11 (lI_i (by omega)) ?_
  refine v_iconst B (v := iI 2) dX12_asksToWrite_12 rfl ?_
  refine u_callSv B Z hz (n := 4) (As := [.ref (q 90), .int (iI 1), .long (lI z95), .int (iI 2)]) (rest := []) (c_M_numberP l D K Z _ _ _ _ h q Y 90 96 1 z95 2 rfl ⟨by omega, by omega⟩ ⟨by omega, by omega⟩ ⟨by omega, by omega⟩ σ0 G0 (by omega)) gd_M_asksToWrite_M_numberP_432 rfl rfl rfl (by decide +kernel) ⟨Nat.le_trans (by decide +kernel) hR.1, Nat.le_trans (by decide +kernel) hR.2⟩ rfl rfl (Nat.le_of_ble_eq_true rfl) dX12_asksToWrite_13 ⟨Nat.zero_le _, Nat.zero_le _⟩ (fun σ98 p99 => ?_)
  obtain ⟨G101, F102⟩ := p99
  have F103 := F0.call F102 (by first | rfl | simp)
  refine v_aload_n B dX12_asksToWrite_16 rfl rfl ?_
  have h104 := (F102 h _ Y.o (by first | rfl | simp)).trans (h6)
  refine u_get B Z (C := RX12) (T := TX12) (N := 123) (ci := 12) hi_M_asksToWrite_X12 Y.o h104 rfl 120 (by decide +kernel) (List.mem_of_getElem? (i := 1) rfl) rfl dX12_asksToWrite_17 ?_
  refine v_iload_n B dX12_asksToWrite_20 rfl rfl ?_
  obtain ⟨f105, h106, e107⟩ := ga_120 G101.t
  obtain ⟨z108, e109, r110⟩ := e107 (d : Int).toNat
  refine u_iald B Z (t0 := 0) (ym_120 Y) h106 rfl (by omega) e109 dX12_asksToWrite_21 ?_
  refine u_if_ne B (tgt := 82) (by omega) dX12_asksToWrite_22 (by decide +kernel) (fun c111 => ?_) (fun c111 => ?_)
  · have h112 := (F102 (q 85) _ (ym_85 Y) (by first | rfl | simp)).trans (h13)
    exact J82 σ98 G101 F103 h104 ((At.mk h112 e16 (by omega) ⟨by omega, by omega⟩))
  · refine v_aload_n B dX12_asksToWrite_25 rfl rfl ?_
    refine u_get B Z (C := RX12) (T := TX12) (N := 123) (ci := 12) hi_M_asksToWrite_X12 Y.o h104 rfl 121 (by decide +kernel) (List.mem_of_getElem? (i := 2) rfl) rfl dX12_asksToWrite_26 ?_
    refine v_iload_n B dX12_asksToWrite_29 rfl rfl ?_
    obtain ⟨f113, h114, e115⟩ := ga_121 G101.t
    obtain ⟨z116, e117, r118⟩ := e115 (d : Int).toNat
    refine u_iald B Z (t0 := 0) (ym_121 Y) h114 rfl (by omega) e117 dX12_asksToWrite_30 ?_
    refine v_aload_n B dX12_asksToWrite_31 rfl rfl ?_
    refine u_get B Z (C := RX12) (T := TX12) (N := 123) (ci := 12) hi_M_asksToWrite_X12 Y.o h104 rfl 104 (by decide +kernel) (List.mem_of_getElem? (i := 23) rfl) rfl dX12_asksToWrite_32 ?_
    refine v_iload_n B dX12_asksToWrite_35 rfl rfl ?_
    obtain ⟨f119, h120, e121⟩ := ga_104 G101.t
    obtain ⟨z122, e123, r124⟩ := e121 (d : Int).toNat
    refine u_iald B Z (t0 := 0) (ym_104 Y) h120 rfl (by omega) e123 dX12_asksToWrite_36 ?_
    refine v_iconst B (v := iI 3) dX12_asksToWrite_37 rfl ?_
    refine v_isub B (v := iI (z122 + (-3))) dX12_asksToWrite_38 ((iI_sub _ _).trans (congrArg iI (by omega))) ?_
    refine u_icmp_gt B (tgt := 82) (by omega) (by omega) dX12_asksToWrite_39 (by decide +kernel) (fun c125 => ?_) (fun c125 => ?_)
    · have h126 := (F102 (q 85) _ (ym_85 Y) (by first | rfl | simp)).trans (h13)
      exact J82 σ98 G101 F103 h104 ((At.mk h126 e16 (by omega) ⟨by omega, by omega⟩))
    · refine v_aload_n B dX12_asksToWrite_42 rfl rfl ?_
      refine u_get B Z (C := RX12) (T := TX12) (N := 123) (ci := 12) hi_M_asksToWrite_X12 Y.o h104 rfl 122 (by decide +kernel) (List.mem_of_getElem? (i := 28) rfl) rfl dX12_asksToWrite_43 ?_
      refine v_bipush B (v := iI 40) dX12_asksToWrite_46 (by decide +kernel) ?_
      refine v_iload_n B dX12_asksToWrite_48 rfl rfl ?_
      refine v_imul B (v := iI (40 * d)) dX12_asksToWrite_49 ((iI_mul _ _).trans (congrArg iI (by omega))) ?_
      refine v_aload_n B dX12_asksToWrite_50 rfl rfl ?_
      refine u_get B Z (C := RX12) (T := TX12) (N := 123) (ci := 12) hi_M_asksToWrite_X12 Y.o h104 rfl 90 (by decide +kernel) (List.mem_of_getElem? (i := 3) rfl) rfl dX12_asksToWrite_51 ?_
      refine v_iconst B (v := iI 3) dX12_asksToWrite_54 rfl ?_
      refine v_aload_n B dX12_asksToWrite_55 rfl rfl ?_
      refine u_get B Z (C := RX12) (T := TX12) (N := 123) (ci := 12) hi_M_asksToWrite_X12 Y.o h104 rfl 121 (by decide +kernel) (List.mem_of_getElem? (i := 2) rfl) rfl dX12_asksToWrite_56 ?_
      refine v_iload_n B dX12_asksToWrite_59 rfl rfl ?_
      refine u_iald B Z (t0 := 0) (ym_121 Y) h114 rfl (by omega) e117 dX12_asksToWrite_60 ?_
      refine u_callSv B Z hz (n := 5) (As := [.ref (q 122), .int (iI (40 * d)), .ref (q 90), .int (iI 3), .int (iI z116)]) (rest := []) (c_M_copy l D K Z _ _ _ _ h q Y 122 80 (40 * d) 90 96 3 z116 rfl ⟨by omega, by omega⟩ rfl ⟨by omega, by omega⟩ ⟨by omega, by omega⟩ σ98 G101 (by omega)) gd_M_asksToWrite_M_copy_29 rfl rfl rfl (by decide +kernel) ⟨Nat.le_trans (by decide +kernel) hR.1, Nat.le_trans (by decide +kernel) hR.2⟩ rfl rfl (Nat.le_of_ble_eq_true rfl) dX12_asksToWrite_61 ⟨Nat.zero_le _, Nat.zero_le _⟩ (fun σ127 p128 => ?_)
      obtain ⟨G130, F131⟩ := p128
      have F132 := F103.call F131 (by first | rfl | simp)
      refine v_aload_n B dX12_asksToWrite_64 rfl rfl ?_
      refine v_iload_n B dX12_asksToWrite_65 rfl rfl ?_
      refine v_bipush B (v := iI 18) dX12_asksToWrite_66 (by decide +kernel) ?_
      refine v_iconst B (v := iI 3) dX12_asksToWrite_68 rfl ?_
      refine v_aload_n B dX12_asksToWrite_69 rfl rfl ?_
      have h133 := (F131 h _ Y.o (by first | rfl | simp)).trans (h104)
      refine u_get B Z (C := RX12) (T := TX12) (N := 123) (ci := 12) hi_M_asksToWrite_X12 Y.o h133 rfl 121 (by decide +kernel) (List.mem_of_getElem? (i := 2) rfl) rfl dX12_asksToWrite_70 ?_
      refine v_iload_n B dX12_asksToWrite_73 rfl rfl ?_
      have h134 := (F131 (q 121) _ (ym_121 Y) (by first | rfl | simp)).trans (h114)
      refine u_iald B Z (t0 := 0) (ym_121 Y) h134 rfl (by omega) e117 dX12_asksToWrite_74 ?_
      refine v_iadd B (v := iI (z116 + 3)) dX12_asksToWrite_75 ((iI_add _ _).trans (congrArg iI (by omega))) ?_
      have h135 := (F131 (q 85) _ (ym_85 Y) (by first | rfl | simp)).trans ((F102 (q 85) _ (ym_85 Y) (by first | rfl | simp)).trans (h13))
      refine u_callVv B Z hz (n := 3) (As := [.int (iI d), .int (iI 18), .int (iI (z116 + 3))]) (rest := []) (c_M_request l D K Z _ _ _ _ h q Y d 18 (z116 + 3) ⟨by omega, by omega⟩ ⟨by omega, by omega⟩ ⟨by omega, by omega⟩ σ127 G130 (At.mk h135 e16 (by omega) ⟨by omega, by omega⟩) (by omega)) gd_M_asksToWrite_M_request_606 rfl rfl rfl (by decide +kernel) ⟨Nat.le_trans (by decide +kernel) hR.1, Nat.le_trans (by decide +kernel) hR.2⟩ Y.o (clsM G130.t) rfl rfl rfl rfl (Nat.le_of_ble_eq_true rfl) dX12_asksToWrite_76 ⟨Nat.zero_le _, Nat.zero_le _⟩ (fun σ136 p137 => ?_)
      obtain ⟨G139, F140⟩ := p137
      have F141 := F132.call F140 (by first | rfl | simp)
      refine v_goto B (tgt := 200) dX12_asksToWrite_79 (by decide +kernel) ?_
      exact hend σ136 _ _ G139 F141 dX12_asksToWrite_200
set_option maxRecDepth 100000 in
theorem c_M_asksToWrite (l : Launch) (D : va_G) (K : Nat → ClassId) {τ : Nat → Option Ty} {dom : List Nat} (Z : Sk τ dom) (zb zL : Nat) (zx : Nat → Int32) (zs : Nat → Nat) (h : Nat) (q : Nat → Nat) (Y : MS τ h q) (d : Int) (r_d : 0 ≤ d ∧ d ≤ 1) (σ0 : Nat → va_E) (G0 : GM K h q σ0) (hM : At σ0 (q 85) (d : Int).toNat (0) (7)) : MZ l yX12_asksToWrite wp_M_asksToWrite ({ frames := 3, cells := 0, slots := 0, locals := 72 }) D (tysA K) [.ref h, .int (iI d)] (fd dom σ0) zb zL zx zs (Qv D (fun σ' => GM K h q σ' ∧ Fr τ [(190, 0), (219, 0), (182, 0), (184, 0), (185, 0), (220, 0)] σ0 σ') (fun σ' => fd dom σ')) 0 0 := by
  refine mz_of (cc := cX12_asksToWrite) (maxL := 3) (ret := none) (by decide +kernel) rfl (Nat.le_of_ble_eq_true rfl) ?_
  intro p e s m below meth c A B hr hlk _ hz
  exact b_M_asksToWrite ⟨Nat.le_refl _, Nat.le_refl _⟩ B Z hz h q Y d r_d σ0 G0 hM (fun σ' lv pc G F hd => v_vret B hr hlk σ' ⟨G, F⟩ rfl (Nat.le_refl _) (Nat.le_refl _) hd)

def wp_M_asksFor : List Cond := .code yX12_asksFor cX12_asksFor 3 none :: (([.methodLink RX12 606 yX12_request, .instanceMethod yX12_request, .selects RX12 yX12_request yX12_request, .initialized RX12, .code yX12_request cX12_request 4 none, .fieldLink RX12 290 "LowEnergyModel" "said" "[B", .fieldLink RX12 374 "LowEnergyModel" "due" "[I", .methodLink RX12 527 yX12_says, .instanceMethod yX12_says, .selects RX12 yX12_says yX12_says, .code yX12_says cX12_says 5 none, .fieldLink RX12 275 "LowEnergyModel" "messages" "[I", .fieldLink RX12 266 "LowEnergyModel" "message" "[B", .methodLink RX12 432 yX12_number, .static yX12_number, .code yX12_number cX12_number 6 none, .methodLink RX12 29 yX12_copy, .static yX12_copy, .code yX12_copy cX12_copy 6 none, .fieldLink RX12 272 "LowEnergyModel" "messageMany" "[I", .fieldLink RX12 377 "LowEnergyModel" "place" "[I", .fieldLink RX12 365 "LowEnergyModel" "job" "[I", .fieldLink RX12 380 "LowEnergyModel" "jobMany" "[I", .fieldLink RX12 335 "LowEnergyModel" "ownMtu" "[I", .constantLong RX12 609 (65535), .constantLong RX12 611 (10240), .fieldLink RX12 383 "LowEnergyModel" "jobBytes" "[B", .fieldLink RX12 371 "LowEnergyModel" "jobB" "[I", .constantLong RX12 613 (10243), .fieldLink RX12 368 "LowEnergyModel" "jobA" "[I", .methodLink RX12 615 yX12_asksToWrite, .instanceMethod yX12_asksToWrite, .selects RX12 yX12_asksToWrite yX12_asksToWrite, .code yX12_asksToWrite cX12_asksToWrite 3 none, .fieldLink RX12 332 "LowEnergyModel" "mtu" "[I", .methodLink RX12 404 Lib.Math.min.name, .static Lib.Math.min.name, .initialized "java/lang/Math", .code Lib.Math.min.name Lib.Math.min.code 2 (some .int)] : List Cond) ++ (wsX120 ++ ([])))
theorem hi_M_asksFor_X12 : ∀ x ∈ u_ws RX12 TX12 123, x ∈ wp_M_asksFor := fun _ h => List.mem_cons_of_mem _ (List.mem_append_right _ (List.mem_append_left _ h))
set_option maxRecDepth 100000 in
theorem gd_M_asksFor_M_request_606 : GoodIn wp_M_asksFor (wsV RX12 606 RX12 yX12_request wp_M_request) := goodIn_app (goodIn_r _ [1, 2, 3, 4] rfl rfl) (goodIn_ca (goodIn_r _ [5, 6, 7, 8, 9, 10, 4, 11, 12, 13, 14, 15, 16, 17, 18, 19, 20] rfl rfl) (goodIn_app (goodIn_cls hi_M_asksFor_X12 gw_X12) (goodIn_nil)))
set_option maxRecDepth 100000 in
theorem gd_M_asksFor_M_copy_29 : GoodIn wp_M_asksFor (va_wsS RX12 29 yX12_copy wp_M_copy) := goodIn_app (goodIn_r _ [17, 18, 4] rfl rfl) (goodIn_ca (goodIn_r _ [19] rfl rfl) (goodIn_nil))
set_option maxRecDepth 100000 in
theorem gd_M_asksFor_M_numberP_432 : GoodIn wp_M_asksFor (va_wsS RX12 432 yX12_number wp_M_numberP) := goodIn_app (goodIn_r _ [14, 15, 4] rfl rfl) (goodIn_ca (goodIn_r _ [16] rfl rfl) (goodIn_nil))
set_option maxRecDepth 100000 in
theorem gd_M_asksFor_M_asksToWrite_615 : GoodIn wp_M_asksFor (wsV RX12 615 RX12 yX12_asksToWrite wp_M_asksToWrite) := goodIn_app (goodIn_r _ [31, 32, 33, 4] rfl rfl) (goodIn_ca (goodIn_r _ [34, 21, 23, 6, 1, 2, 3, 4, 5, 7, 8, 9, 10, 11, 12, 13, 14, 15, 16, 17, 18, 19, 20, 35, 36, 37, 38, 39, 27, 30] rfl rfl) (goodIn_app (goodIn_cls hi_M_asksFor_X12 gw_X12) (goodIn_nil)))
set_option maxHeartbeats 4000000 in
set_option maxRecDepth 100000 in
theorem b_M_asksFor {p : Program} {l : Launch} {e : Env} {R : Room} {s : State} {m : MethodId} {args : Array Value} {below : List Frame} {meth : Method} {c : Code} {D : va_G} {K : Nat → ClassId} {A : Nat → Prop} {Q : State → Prop} {τ : Nat → Option Ty} {dom : List Nat} {zb zL : Nat} {zx : Nat → Int32} {zs : Nat → Nat} (hR : 4 ≤ R.frames ∧ 94 ≤ R.locals) (B : Bx p s m args c cX12_asksFor 3 RX12 wp_M_asksFor D (tysA K) A) (Z : Sk τ dom) (hz : ZL zb zL zx zs A s s.heap) (h : Nat) (q : Nat → Nat) (Y : MS τ h q) (d : Int) (x2 : Int) (r_d : 0 ≤ d ∧ d ≤ 1) (r_x2 : -2147483648 ≤ x2 ∧ x2 ≤ 2147483647) (σ0 : Nat → va_E) (G0 : GM K h q σ0) (hM : At σ0 (q 85) (d : Int).toNat (0) (7)) (hend : ∀ (σ' : Nat → va_E) (lv : List (Nat × Value)) (pc : Nat), GM K h q σ' → Fr τ [(190, 0), (219, 0), (182, 0), (184, 0), (185, 0), (220, 0)] σ0 σ' → decode cX12_asksFor pc = .ok (.return_, 1) → V p l e R s m args below meth c 3 D A Q (0, 0) (fd dom σ') lv pc []) : V p l e R s m args below meth c 3 D A Q (0, 0) (fd dom σ0) [(0, .ref h), (1, .int (iI d)), (2, .int (iI x2))] 0 [] := by
  have F0 : Fr τ [(190, 0), (219, 0), (182, 0), (184, 0), (185, 0), (220, 0)] σ0 σ0 := Fr.rf
  obtain ⟨z1, z2, z3, z4, z5, h6, r7, r8, r9, r10, r11⟩ := G0.t.o
  obtain ⟨f12, h13, e14⟩ := ga_85 G0.t
  obtain ⟨z15, e16, r17⟩ := e14 (d : Int).toNat
  have r18 := hM.use h13 e16 (by omega)
  have J328 : ∀ (σ_328 : Nat → va_E) (z328_s0 : Int) (z328_s1 : Int), GM K h q σ_328 → Fr τ [(190, 0), (219, 0), (182, 0), (184, 0), (185, 0), (220, 0)] σ0 σ_328 → (σ_328 h = .inr (12, fsM q (iI z1) (iI z2) (iI z3) (iI z4) (iI z5))) → (3 ≤ z328_s0 ∧ z328_s0 ≤ 5) → (10 ≤ z328_s1 ∧ z328_s1 ≤ 12) → (At σ_328 (q 85) (d : Int).toNat (0) (7)) → V p l e R s m args below meth c 3 D A Q (0, 0) (fd dom σ_328) [] 328 [.int (iI z328_s0), .int (iI z328_s1), .int (iI d), .ref h] := by
    intro σ_328 z328_s0 z328_s1 G_328 F_328 hc328_h r328_s0 r328_s1 i328
    obtain ⟨f19, h20, e21⟩ := ga_85 G_328.t
    obtain ⟨z22, e23, r24⟩ := e21 (d : Int).toNat
    have r25 := (i328).use h20 e23 (by omega)
    refine u_callVv B Z hz (n := 3) (As := [.int (iI d), .int (iI z328_s1), .int (iI z328_s0)]) (rest := []) (c_M_request l D K Z _ _ _ _ h q Y d z328_s1 z328_s0 ⟨by omega, by omega⟩ ⟨by omega, by omega⟩ ⟨by omega, by omega⟩ σ_328 G_328 (At.mk h20 e23 (by omega) ⟨by omega, by omega⟩) (by omega)) gd_M_asksFor_M_request_606 rfl rfl rfl (by decide +kernel) ⟨Nat.le_trans (by decide +kernel) hR.1, Nat.le_trans (by decide +kernel) hR.2⟩ Y.o (clsM G_328.t) rfl rfl rfl rfl (Nat.le_of_ble_eq_true rfl) dX12_asksFor_328 ⟨Nat.zero_le _, Nat.zero_le _⟩ (fun σ26 p27 => ?_)
    obtain ⟨G29, F30⟩ := p27
    have F31 := F_328.call F30 (by first | rfl | simp)
    refine v_goto B (tgt := 339) dX12_asksFor_331 (by decide +kernel) ?_
    exact hend σ26 _ _ G29 F31 dX12_asksFor_339
  have J314 : ∀ (σ_314 : Nat → va_E) (z314_s0 : Int), GM K h q σ_314 → Fr τ [(190, 0), (219, 0), (182, 0), (184, 0), (185, 0), (220, 0)] σ0 σ_314 → (σ_314 h = .inr (12, fsM q (iI z1) (iI z2) (iI z3) (iI z4) (iI z5))) → (10 ≤ z314_s0 ∧ z314_s0 ≤ 12) → (At σ_314 (q 85) (d : Int).toNat (0) (7)) → V p l e R s m args below meth c 3 D A Q (0, 0) (fd dom σ_314) [(0, .ref h), (1, .int (iI d))] 314 [.int (iI z314_s0), .int (iI d), .ref h] := by
    intro σ_314 z314_s0 G_314 F_314 hc314_h r314_s0 i314
    obtain ⟨f32, h33, e34⟩ := ga_85 G_314.t
    obtain ⟨z35, e36, r37⟩ := e34 (d : Int).toNat
    have r38 := (i314).use h33 e36 (by omega)
    refine v_aload_n B dX12_asksFor_314 rfl rfl ?_
    refine u_get B Z (C := RX12) (T := TX12) (N := 123) (ci := 12) hi_M_asksFor_X12 Y.o hc314_h rfl 120 (by decide +kernel) (List.mem_of_getElem? (i := 21) rfl) rfl dX12_asksFor_315 ?_
    refine v_iload_n B dX12_asksFor_318 rfl rfl ?_
    obtain ⟨f39, h40, e41⟩ := ga_120 G_314.t
    obtain ⟨z42, e43, r44⟩ := e41 (d : Int).toNat
    refine u_iald B Z (t0 := 0) (ym_120 Y) h40 rfl (by omega) e43 dX12_asksFor_319 ?_
    refine u_if_ne B (tgt := 327) (by omega) dX12_asksFor_320 (by decide +kernel) (fun c45 => ?_) (fun c45 => ?_)
    · refine v_iconst B (v := iI 5) dX12_asksFor_327 rfl ?_
      refine v_lv [] rfl ?_
      exact J328 σ_314 5 z314_s0 G_314 F_314 hc314_h ⟨by omega, by omega⟩ ⟨by omega, by omega⟩ ((At.mk h33 e36 (by omega) ⟨by omega, by omega⟩))
    · refine v_iconst B (v := iI 3) dX12_asksFor_323 rfl ?_
      refine v_goto B (tgt := 328) dX12_asksFor_324 (by decide +kernel) ?_
      refine v_lv [] rfl ?_
      exact J328 σ_314 3 z314_s0 G_314 F_314 hc314_h ⟨by omega, by omega⟩ ⟨by omega, by omega⟩ ((At.mk h33 e36 (by omega) ⟨by omega, by omega⟩))
  have J192 : ∀ (σ_192 : Nat → va_E) (z192_s0 : Int) (z192_s1 : Int), GM K h q σ_192 → Fr τ [(190, 0), (219, 0), (182, 0), (184, 0), (185, 0), (220, 0)] σ0 σ_192 → (σ_192 h = .inr (12, fsM q (iI z1) (iI z2) (iI z3) (iI z4) (iI z5))) → (7 ≤ z192_s0 ∧ z192_s0 ≤ 47) → (6 ≤ z192_s1 ∧ z192_s1 ≤ 16) → (At σ_192 (q 85) (d : Int).toNat (0) (7)) → V p l e R s m args below meth c 3 D A Q (0, 0) (fd dom σ_192) [] 192 [.int (iI z192_s0), .int (iI z192_s1), .int (iI d), .ref h] := by
    intro σ_192 z192_s0 z192_s1 G_192 F_192 hc192_h r192_s0 r192_s1 i192
    obtain ⟨f46, h47, e48⟩ := ga_85 G_192.t
    obtain ⟨z49, e50, r51⟩ := e48 (d : Int).toNat
    have r52 := (i192).use h47 e50 (by omega)
    refine u_callVv B Z hz (n := 3) (As := [.int (iI d), .int (iI z192_s1), .int (iI z192_s0)]) (rest := []) (c_M_request l D K Z _ _ _ _ h q Y d z192_s1 z192_s0 ⟨by omega, by omega⟩ ⟨by omega, by omega⟩ ⟨by omega, by omega⟩ σ_192 G_192 (At.mk h47 e50 (by omega) ⟨by omega, by omega⟩) (by omega)) gd_M_asksFor_M_request_606 rfl rfl rfl (by decide +kernel) ⟨Nat.le_trans (by decide +kernel) hR.1, Nat.le_trans (by decide +kernel) hR.2⟩ Y.o (clsM G_192.t) rfl rfl rfl rfl (Nat.le_of_ble_eq_true rfl) dX12_asksFor_192 ⟨Nat.zero_le _, Nat.zero_le _⟩ (fun σ53 p54 => ?_)
    obtain ⟨G56, F57⟩ := p54
    have F58 := F_192.call F57 (by first | rfl | simp)
    refine v_goto B (tgt := 339) dX12_asksFor_195 (by decide +kernel) ?_
    exact hend σ53 _ _ G56 F58 dX12_asksFor_339
  have J167 : ∀ (σ_167 : Nat → va_E) (z167_s0 : Int), GM K h q σ_167 → Fr τ [(190, 0), (219, 0), (182, 0), (184, 0), (185, 0), (220, 0)] σ0 σ_167 → (σ_167 h = .inr (12, fsM q (iI z1) (iI z2) (iI z3) (iI z4) (iI z5))) → (6 ≤ z167_s0 ∧ z167_s0 ≤ 16) → (At σ_167 (q 85) (d : Int).toNat (0) (7)) → V p l e R s m args below meth c 3 D A Q (0, 0) (fd dom σ_167) [(0, .ref h), (1, .int (iI d))] 167 [.int (iI z167_s0), .int (iI d), .ref h] := by
    intro σ_167 z167_s0 G_167 F_167 hc167_h r167_s0 i167
    obtain ⟨f59, h60, e61⟩ := ga_85 G_167.t
    obtain ⟨z62, e63, r64⟩ := e61 (d : Int).toNat
    have r65 := (i167).use h60 e63 (by omega)
    refine v_aload_n B dX12_asksFor_167 rfl rfl ?_
    refine u_get B Z (C := RX12) (T := TX12) (N := 123) (ci := 12) hi_M_asksFor_X12 Y.o hc167_h rfl 116 (by decide +kernel) (List.mem_of_getElem? (i := 22) rfl) rfl dX12_asksFor_168 ?_
    refine v_iload_n B dX12_asksFor_171 rfl rfl ?_
    obtain ⟨f66, h67, e68⟩ := ga_116 G_167.t
    obtain ⟨z69, e70, r71⟩ := e68 (d : Int).toNat
    refine u_iald B Z (t0 := 0) (ym_116 Y) h67 rfl (by omega) e70 dX12_asksFor_172 ?_
    refine v_bipush B (v := iI 6) dX12_asksFor_173 (by decide +kernel) ?_
    refine u_icmp_ne B (tgt := 190) (by omega) (by omega) dX12_asksFor_175 (by decide +kernel) (fun c72 => ?_) (fun c72 => ?_)
    · refine v_bipush B (v := iI 7) dX12_asksFor_190 (by decide +kernel) ?_
      refine v_lv [] rfl ?_
      exact J192 σ_167 7 z167_s0 G_167 F_167 hc167_h ⟨by omega, by omega⟩ ⟨by omega, by omega⟩ ((At.mk h60 e63 (by omega) ⟨by omega, by omega⟩))
    · refine v_bipush B (v := iI 7) dX12_asksFor_178 (by decide +kernel) ?_
      refine v_aload_n B dX12_asksFor_180 rfl rfl ?_
      refine u_get B Z (C := RX12) (T := TX12) (N := 123) (ci := 12) hi_M_asksFor_X12 Y.o hc167_h rfl 121 (by decide +kernel) (List.mem_of_getElem? (i := 23) rfl) rfl dX12_asksFor_181 ?_
      refine v_iload_n B dX12_asksFor_184 rfl rfl ?_
      obtain ⟨f73, h74, e75⟩ := ga_121 G_167.t
      obtain ⟨z76, e77, r78⟩ := e75 (d : Int).toNat
      refine u_iald B Z (t0 := 0) (ym_121 Y) h74 rfl (by omega) e77 dX12_asksFor_185 ?_
      refine v_iadd B (v := iI (z76 + 7)) dX12_asksFor_186 ((iI_add _ _).trans (congrArg iI (by omega))) ?_
      refine v_goto B (tgt := 192) dX12_asksFor_187 (by decide +kernel) ?_
      refine v_lv [] rfl ?_
      exact J192 σ_167 (z76 + 7) z167_s0 G_167 F_167 hc167_h ⟨by omega, by omega⟩ ⟨by omega, by omega⟩ ((At.mk h60 e63 (by omega) ⟨by omega, by omega⟩))
  have J145 : ∀ (σ_145 : Nat → va_E) (z145_s0 : Int) (z145_s1 : Int), GM K h q σ_145 → Fr τ [(190, 0), (219, 0), (182, 0), (184, 0), (185, 0), (220, 0)] σ0 σ_145 → (σ_145 h = .inr (12, fsM q (iI z1) (iI z2) (iI z3) (iI z4) (iI z5))) → (0 ≤ z145_s0 ∧ z145_s0 ≤ 40) → (7 ≤ z145_s1 ∧ z145_s1 ≤ 7) → (At σ_145 (q 85) (d : Int).toNat (0) (7)) → V p l e R s m args below meth c 3 D A Q (0, 0) (fd dom σ_145) [(0, .ref h), (1, .int (iI d))] 145 [.int (iI z145_s0), .int (iI z145_s1), .ref (q 90), .int (iI (40 * d)), .ref (q 122)] := by
    intro σ_145 z145_s0 z145_s1 G_145 F_145 hc145_h r145_s0 r145_s1 i145
    obtain ⟨f79, h80, e81⟩ := ga_85 G_145.t
    obtain ⟨z82, e83, r84⟩ := e81 (d : Int).toNat
    have r85 := (i145).use h80 e83 (by omega)
    refine u_callSv B Z hz (n := 5) (As := [.ref (q 122), .int (iI (40 * d)), .ref (q 90), .int (iI z145_s1), .int (iI z145_s0)]) (rest := []) (c_M_copy l D K Z _ _ _ _ h q Y 122 80 (40 * d) 90 96 z145_s1 z145_s0 rfl ⟨by omega, by omega⟩ rfl ⟨by omega, by omega⟩ ⟨by omega, by omega⟩ σ_145 G_145 (by omega)) gd_M_asksFor_M_copy_29 rfl rfl rfl (by decide +kernel) ⟨Nat.le_trans (by decide +kernel) hR.1, Nat.le_trans (by decide +kernel) hR.2⟩ rfl rfl (Nat.le_of_ble_eq_true rfl) dX12_asksFor_145 ⟨Nat.zero_le _, Nat.zero_le _⟩ (fun σ86 p87 => ?_)
    obtain ⟨G89, F90⟩ := p87
    have F91 := F_145.call F90 (by first | rfl | simp)
    refine v_aload_n B dX12_asksFor_148 rfl rfl ?_
    refine v_iload_n B dX12_asksFor_149 rfl rfl ?_
    refine v_aload_n B dX12_asksFor_150 rfl rfl ?_
    have h92 := (F90 h _ Y.o (by first | rfl | simp)).trans (hc145_h)
    refine u_get B Z (C := RX12) (T := TX12) (N := 123) (ci := 12) hi_M_asksFor_X12 Y.o h92 rfl 116 (by decide +kernel) (List.mem_of_getElem? (i := 22) rfl) rfl dX12_asksFor_151 ?_
    refine v_iload_n B dX12_asksFor_154 rfl rfl ?_
    obtain ⟨f93, h94, e95⟩ := ga_116 G89.t
    obtain ⟨z96, e97, r98⟩ := e95 (d : Int).toNat
    refine u_iald B Z (t0 := 0) (ym_116 Y) h94 rfl (by omega) e97 dX12_asksFor_155 ?_
    refine v_iconst B (v := iI 1) dX12_asksFor_156 rfl ?_
    refine u_icmp_ne B (tgt := 165) (by omega) (by omega) dX12_asksFor_157 (by decide +kernel) (fun c99 => ?_) (fun c99 => ?_)
    · refine v_bipush B (v := iI 6) dX12_asksFor_165 (by decide +kernel) ?_
      have h100 := (F90 (q 85) _ (ym_85 Y) (by first | rfl | simp)).trans (h80)
      exact J167 σ86 6 G89 F91 h92 ⟨by omega, by omega⟩ ((At.mk h100 e83 (by omega) ⟨by omega, by omega⟩))
    · refine v_bipush B (v := iI 16) dX12_asksFor_160 (by decide +kernel) ?_
      refine v_goto B (tgt := 167) dX12_asksFor_162 (by decide +kernel) ?_
      have h101 := (F90 (q 85) _ (ym_85 Y) (by first | rfl | simp)).trans (h80)
      exact J167 σ86 16 G89 F91 h92 ⟨by omega, by omega⟩ ((At.mk h101 e83 (by omega) ⟨by omega, by omega⟩))
  refine v_aload_n B dX12_asksFor_0 rfl rfl ?_
  refine u_get B Z (C := RX12) (T := TX12) (N := 123) (ci := 12) hi_M_asksFor_X12 Y.o h6 rfl 90 (by decide +kernel) (List.mem_of_getElem? (i := 6) rfl) rfl dX12_asksFor_1 ?_
  refine v_iconst B (v := iI 1) dX12_asksFor_4 rfl ?_
  refine v_iload_n B dX12_asksFor_5 rfl rfl ?_
  refine v_i2l B (v := lI x2) dX12_asksFor_6 (lI_i (by omega)) ?_
  refine v_iconst B (v := iI 2) dX12_asksFor_7 rfl ?_
  refine u_callSv B Z hz (n := 4) (As := [.ref (q 90), .int (iI 1), .long (lI x2), .int (iI 2)]) (rest := []) (c_M_numberP l D K Z _ _ _ _ h q Y 90 96 1 x2 2 rfl ⟨by omega, by omega⟩ ⟨by omega, by omega⟩ ⟨by omega, by omega⟩ σ0 G0 (by omega)) gd_M_asksFor_M_numberP_432 rfl rfl rfl (by decide +kernel) ⟨Nat.le_trans (by decide +kernel) hR.1, Nat.le_trans (by decide +kernel) hR.2⟩ rfl rfl (Nat.le_of_ble_eq_true rfl) dX12_asksFor_8 ⟨Nat.zero_le _, Nat.zero_le _⟩ (fun σ102 p103 => ?_)
  obtain ⟨G105, F106⟩ := p103
  have F107 := F0.call F106 (by first | rfl | simp)
  refine v_aload_n B dX12_asksFor_11 rfl rfl ?_
  have h108 := (F106 h _ Y.o (by first | rfl | simp)).trans (h6)
  refine u_get B Z (C := RX12) (T := TX12) (N := 123) (ci := 12) hi_M_asksFor_X12 Y.o h108 rfl 116 (by decide +kernel) (List.mem_of_getElem? (i := 22) rfl) rfl dX12_asksFor_12 ?_
  refine v_iload_n B dX12_asksFor_15 rfl rfl ?_
  obtain ⟨f109, h110, e111⟩ := ga_116 G105.t
  obtain ⟨z112, e113, r114⟩ := e111 (d : Int).toNat
  refine u_iald B Z (t0 := 0) (ym_116 Y) h110 rfl (by omega) e113 dX12_asksFor_16 ?_
  refine u_tsw B (tgtd := 334) (by omega) dX12_asksFor_17 (by decide +kernel) ?_ ?_ (tswM (by decide +kernel)) (by decide +kernel)
  · intro i115 o116 g117 o118 x119 t120
    match i115, o118, x119 with
    | 0, o118, x119 =>
      replace o118 : o116 = 43 := by simp at o118; omega
      obtain rfl : g117 = 60 := by omega
      refine v_aload_n B dX12_asksFor_60 rfl rfl ?_
      refine u_get B Z (C := RX12) (T := TX12) (N := 123) (ci := 12) hi_M_asksFor_X12 Y.o h108 rfl 90 (by decide +kernel) (List.mem_of_getElem? (i := 6) rfl) rfl dX12_asksFor_61 ?_
      refine v_iconst B (v := iI 1) dX12_asksFor_64 rfl ?_
      refine v_aload_n B dX12_asksFor_65 rfl rfl ?_
      refine u_get B Z (C := RX12) (T := TX12) (N := 123) (ci := 12) hi_M_asksFor_X12 Y.o h108 rfl 105 (by decide +kernel) (List.mem_of_getElem? (i := 24) rfl) rfl dX12_asksFor_66 ?_
      refine v_iload_n B dX12_asksFor_69 rfl rfl ?_
      obtain ⟨f121, h122, e123⟩ := ga_105 G105.t
      obtain ⟨z124, e125, r126⟩ := e123 (d : Int).toNat
      refine u_iald B Z (t0 := 0) (ym_105 Y) h122 rfl (by omega) e125 dX12_asksFor_70 ?_
      refine v_i2l B (v := lI z124) dX12_asksFor_71 (lI_i (by omega)) ?_
      refine v_iconst B (v := iI 2) dX12_asksFor_72 rfl ?_
      refine u_callSv B Z hz (n := 4) (As := [.ref (q 90), .int (iI 1), .long (lI z124), .int (iI 2)]) (rest := []) (c_M_numberP l D K Z _ _ _ _ h q Y 90 96 1 z124 2 rfl ⟨by omega, by omega⟩ ⟨by omega, by omega⟩ ⟨by omega, by omega⟩ σ102 G105 (by omega)) gd_M_asksFor_M_numberP_432 rfl rfl rfl (by decide +kernel) ⟨Nat.le_trans (by decide +kernel) hR.1, Nat.le_trans (by decide +kernel) hR.2⟩ rfl rfl (Nat.le_of_ble_eq_true rfl) dX12_asksFor_73 ⟨Nat.zero_le _, Nat.zero_le _⟩ (fun σ127 p128 => ?_)
      obtain ⟨G130, F131⟩ := p128
      have F132 := F107.call F131 (by first | rfl | simp)
      refine v_aload_n B dX12_asksFor_76 rfl rfl ?_
      refine v_iload_n B dX12_asksFor_77 rfl rfl ?_
      refine v_iconst B (v := iI 2) dX12_asksFor_78 rfl ?_
      refine v_iconst B (v := iI 3) dX12_asksFor_79 rfl ?_
      have h133 := (F131 (q 85) _ (ym_85 Y) (by first | rfl | simp)).trans ((F106 (q 85) _ (ym_85 Y) (by first | rfl | simp)).trans (h13))
      refine u_callVv B Z hz (n := 3) (As := [.int (iI d), .int (iI 2), .int (iI 3)]) (rest := []) (c_M_request l D K Z _ _ _ _ h q Y d 2 3 ⟨by omega, by omega⟩ ⟨by omega, by omega⟩ ⟨by omega, by omega⟩ σ127 G130 (At.mk h133 e16 (by omega) ⟨by omega, by omega⟩) (by omega)) gd_M_asksFor_M_request_606 rfl rfl rfl (by decide +kernel) ⟨Nat.le_trans (by decide +kernel) hR.1, Nat.le_trans (by decide +kernel) hR.2⟩ Y.o (clsM G130.t) rfl rfl rfl rfl (Nat.le_of_ble_eq_true rfl) dX12_asksFor_80 ⟨Nat.zero_le _, Nat.zero_le _⟩ (fun σ134 p135 => ?_)
      obtain ⟨G137, F138⟩ := p135
      have F139 := F132.call F138 (by first | rfl | simp)
      refine v_goto B (tgt := 339) dX12_asksFor_83 (by decide +kernel) ?_
      exact hend σ134 _ _ G137 F139 dX12_asksFor_339
    | 1, o118, x119 =>
      replace o118 : o116 = 69 := by simp at o118; omega
      obtain rfl : g117 = 86 := by omega
      refine v_aload_n B dX12_asksFor_86 rfl rfl ?_
      refine u_get B Z (C := RX12) (T := TX12) (N := 123) (ci := 12) hi_M_asksFor_X12 Y.o h108 rfl 90 (by decide +kernel) (List.mem_of_getElem? (i := 6) rfl) rfl dX12_asksFor_87 ?_
      refine v_iconst B (v := iI 3) dX12_asksFor_90 rfl ?_
      refine v_ldc2 B (v := lI 65535) (u_cl (List.mem_of_getElem? (i := 25) rfl) (by decide +kernel)) dX12_asksFor_91 ?_
      refine v_iconst B (v := iI 2) dX12_asksFor_94 rfl ?_
      refine u_callSv B Z hz (n := 4) (As := [.ref (q 90), .int (iI 3), .long (lI 65535), .int (iI 2)]) (rest := []) (c_M_numberP l D K Z _ _ _ _ h q Y 90 96 3 65535 2 rfl ⟨by omega, by omega⟩ ⟨by omega, by omega⟩ ⟨by omega, by omega⟩ σ102 G105 (by omega)) gd_M_asksFor_M_numberP_432 rfl rfl rfl (by decide +kernel) ⟨Nat.le_trans (by decide +kernel) hR.1, Nat.le_trans (by decide +kernel) hR.2⟩ rfl rfl (Nat.le_of_ble_eq_true rfl) dX12_asksFor_95 ⟨Nat.zero_le _, Nat.zero_le _⟩ (fun σ140 p141 => ?_)
      obtain ⟨G143, F144⟩ := p141
      have F145 := F107.call F144 (by first | rfl | simp)
      refine v_aload_n B dX12_asksFor_98 rfl rfl ?_
      have h146 := (F144 h _ Y.o (by first | rfl | simp)).trans (h108)
      refine u_get B Z (C := RX12) (T := TX12) (N := 123) (ci := 12) hi_M_asksFor_X12 Y.o h146 rfl 90 (by decide +kernel) (List.mem_of_getElem? (i := 6) rfl) rfl dX12_asksFor_99 ?_
      refine v_iconst B (v := iI 5) dX12_asksFor_102 rfl ?_
      refine v_ldc2 B (v := lI 10240) (u_cl (List.mem_of_getElem? (i := 26) rfl) (by decide +kernel)) dX12_asksFor_103 ?_
      refine v_iconst B (v := iI 2) dX12_asksFor_106 rfl ?_
      refine u_callSv B Z hz (n := 4) (As := [.ref (q 90), .int (iI 5), .long (lI 10240), .int (iI 2)]) (rest := []) (c_M_numberP l D K Z _ _ _ _ h q Y 90 96 5 10240 2 rfl ⟨by omega, by omega⟩ ⟨by omega, by omega⟩ ⟨by omega, by omega⟩ σ140 G143 (by omega)) gd_M_asksFor_M_numberP_432 rfl rfl rfl (by decide +kernel) ⟨Nat.le_trans (by decide +kernel) hR.1, Nat.le_trans (by decide +kernel) hR.2⟩ rfl rfl (Nat.le_of_ble_eq_true rfl) dX12_asksFor_107 ⟨Nat.zero_le _, Nat.zero_le _⟩ (fun σ147 p148 => ?_)
      obtain ⟨G150, F151⟩ := p148
      have F152 := F145.call F151 (by first | rfl | simp)
      refine v_aload_n B dX12_asksFor_110 rfl rfl ?_
      have h153 := (F151 h _ Y.o (by first | rfl | simp)).trans (h146)
      refine u_get B Z (C := RX12) (T := TX12) (N := 123) (ci := 12) hi_M_asksFor_X12 Y.o h153 rfl 122 (by decide +kernel) (List.mem_of_getElem? (i := 27) rfl) rfl dX12_asksFor_111 ?_
      refine v_bipush B (v := iI 40) dX12_asksFor_114 (by decide +kernel) ?_
      refine v_iload_n B dX12_asksFor_116 rfl rfl ?_
      refine v_imul B (v := iI (40 * d)) dX12_asksFor_117 ((iI_mul _ _).trans (congrArg iI (by omega))) ?_
      refine v_aload_n B dX12_asksFor_118 rfl rfl ?_
      refine u_get B Z (C := RX12) (T := TX12) (N := 123) (ci := 12) hi_M_asksFor_X12 Y.o h153 rfl 90 (by decide +kernel) (List.mem_of_getElem? (i := 6) rfl) rfl dX12_asksFor_119 ?_
      refine v_bipush B (v := iI 7) dX12_asksFor_122 (by decide +kernel) ?_
      refine v_aload_n B dX12_asksFor_124 rfl rfl ?_
      refine u_get B Z (C := RX12) (T := TX12) (N := 123) (ci := 12) hi_M_asksFor_X12 Y.o h153 rfl 116 (by decide +kernel) (List.mem_of_getElem? (i := 22) rfl) rfl dX12_asksFor_125 ?_
      refine v_iload_n B dX12_asksFor_128 rfl rfl ?_
      have h154 := (F151 (q 116) _ (ym_116 Y) (by first | rfl | simp)).trans ((F144 (q 116) _ (ym_116 Y) (by first | rfl | simp)).trans (h110))
      refine u_iald B Z (t0 := 0) (ym_116 Y) h154 rfl (by omega) e113 dX12_asksFor_129 ?_
      refine v_bipush B (v := iI 6) dX12_asksFor_130 (by decide +kernel) ?_
      refine u_icmp_ne B (tgt := 144) (by omega) (by omega) dX12_asksFor_132 (by decide +kernel) (fun c155 => ?_) (fun c155 => by omega)
      refine v_iconst B (v := iI 0) dX12_asksFor_144 rfl ?_
      refine v_lv [0, 1] rfl ?_
      have h156 := (F151 (q 85) _ (ym_85 Y) (by first | rfl | simp)).trans ((F144 (q 85) _ (ym_85 Y) (by first | rfl | simp)).trans ((F106 (q 85) _ (ym_85 Y) (by first | rfl | simp)).trans (h13)))
      exact J145 σ147 0 7 G150 F152 h153 ⟨by omega, by omega⟩ ⟨by omega, by omega⟩ ((At.mk h156 e16 (by omega) ⟨by omega, by omega⟩))
    | 2, o118, x119 =>
      replace o118 : o116 = 181 := by simp at o118; omega
      obtain rfl : g117 = 198 := by omega
      refine v_aload_n B dX12_asksFor_198 rfl rfl ?_
      refine u_get B Z (C := RX12) (T := TX12) (N := 123) (ci := 12) hi_M_asksFor_X12 Y.o h108 rfl 90 (by decide +kernel) (List.mem_of_getElem? (i := 6) rfl) rfl dX12_asksFor_199 ?_
      refine v_iconst B (v := iI 3) dX12_asksFor_202 rfl ?_
      refine v_aload_n B dX12_asksFor_203 rfl rfl ?_
      refine u_get B Z (C := RX12) (T := TX12) (N := 123) (ci := 12) hi_M_asksFor_X12 Y.o h108 rfl 118 (by decide +kernel) (List.mem_of_getElem? (i := 28) rfl) rfl dX12_asksFor_204 ?_
      refine v_iload_n B dX12_asksFor_207 rfl rfl ?_
      obtain ⟨f157, h158, e159⟩ := ga_118 G105.t
      obtain ⟨z160, e161, r162⟩ := e159 (d : Int).toNat
      refine u_iald B Z (t0 := 0) (ym_118 Y) h158 rfl (by omega) e161 dX12_asksFor_208 ?_
      refine v_i2l B (v := lI z160) dX12_asksFor_209 (lI_i (by omega)) ?_
      refine v_iconst B (v := iI 2) dX12_asksFor_210 rfl ?_
      refine u_callSv B Z hz (n := 4) (As := [.ref (q 90), .int (iI 3), .long (lI z160), .int (iI 2)]) (rest := []) (c_M_numberP l D K Z _ _ _ _ h q Y 90 96 3 z160 2 rfl ⟨by omega, by omega⟩ ⟨by omega, by omega⟩ ⟨by omega, by omega⟩ σ102 G105 (by omega)) gd_M_asksFor_M_numberP_432 rfl rfl rfl (by decide +kernel) ⟨Nat.le_trans (by decide +kernel) hR.1, Nat.le_trans (by decide +kernel) hR.2⟩ rfl rfl (Nat.le_of_ble_eq_true rfl) dX12_asksFor_211 ⟨Nat.zero_le _, Nat.zero_le _⟩ (fun σ163 p164 => ?_)
      obtain ⟨G166, F167⟩ := p164
      have F168 := F107.call F167 (by first | rfl | simp)
      refine v_aload_n B dX12_asksFor_214 rfl rfl ?_
      have h169 := (F167 h _ Y.o (by first | rfl | simp)).trans (h108)
      refine u_get B Z (C := RX12) (T := TX12) (N := 123) (ci := 12) hi_M_asksFor_X12 Y.o h169 rfl 90 (by decide +kernel) (List.mem_of_getElem? (i := 6) rfl) rfl dX12_asksFor_215 ?_
      refine v_iconst B (v := iI 5) dX12_asksFor_218 rfl ?_
      refine v_ldc2 B (v := lI 10243) (u_cl (List.mem_of_getElem? (i := 29) rfl) (by decide +kernel)) dX12_asksFor_219 ?_
      refine v_iconst B (v := iI 2) dX12_asksFor_222 rfl ?_
      refine u_callSv B Z hz (n := 4) (As := [.ref (q 90), .int (iI 5), .long (lI 10243), .int (iI 2)]) (rest := []) (c_M_numberP l D K Z _ _ _ _ h q Y 90 96 5 10243 2 rfl ⟨by omega, by omega⟩ ⟨by omega, by omega⟩ ⟨by omega, by omega⟩ σ163 G166 (by omega)) gd_M_asksFor_M_numberP_432 rfl rfl rfl (by decide +kernel) ⟨Nat.le_trans (by decide +kernel) hR.1, Nat.le_trans (by decide +kernel) hR.2⟩ rfl rfl (Nat.le_of_ble_eq_true rfl) dX12_asksFor_223 ⟨Nat.zero_le _, Nat.zero_le _⟩ (fun σ170 p171 => ?_)
      obtain ⟨G173, F174⟩ := p171
      have F175 := F168.call F174 (by first | rfl | simp)
      refine v_aload_n B dX12_asksFor_226 rfl rfl ?_
      refine v_iload_n B dX12_asksFor_227 rfl rfl ?_
      refine v_bipush B (v := iI 8) dX12_asksFor_228 (by decide +kernel) ?_
      refine v_bipush B (v := iI 7) dX12_asksFor_230 (by decide +kernel) ?_
      have h176 := (F174 (q 85) _ (ym_85 Y) (by first | rfl | simp)).trans ((F167 (q 85) _ (ym_85 Y) (by first | rfl | simp)).trans ((F106 (q 85) _ (ym_85 Y) (by first | rfl | simp)).trans (h13)))
      refine u_callVv B Z hz (n := 3) (As := [.int (iI d), .int (iI 8), .int (iI 7)]) (rest := []) (c_M_request l D K Z _ _ _ _ h q Y d 8 7 ⟨by omega, by omega⟩ ⟨by omega, by omega⟩ ⟨by omega, by omega⟩ σ170 G173 (At.mk h176 e16 (by omega) ⟨by omega, by omega⟩) (by omega)) gd_M_asksFor_M_request_606 rfl rfl rfl (by decide +kernel) ⟨Nat.le_trans (by decide +kernel) hR.1, Nat.le_trans (by decide +kernel) hR.2⟩ Y.o (clsM G173.t) rfl rfl rfl rfl (Nat.le_of_ble_eq_true rfl) dX12_asksFor_232 ⟨Nat.zero_le _, Nat.zero_le _⟩ (fun σ177 p178 => ?_)
      obtain ⟨G180, F181⟩ := p178
      have F182 := F175.call F181 (by first | rfl | simp)
      refine v_goto B (tgt := 339) dX12_asksFor_235 (by decide +kernel) ?_
      exact hend σ177 _ _ G180 F182 dX12_asksFor_339
    | 3, o118, x119 =>
      replace o118 : o116 = 221 := by simp at o118; omega
      obtain rfl : g117 = 238 := by omega
      refine v_aload_n B dX12_asksFor_238 rfl rfl ?_
      refine u_get B Z (C := RX12) (T := TX12) (N := 123) (ci := 12) hi_M_asksFor_X12 Y.o h108 rfl 90 (by decide +kernel) (List.mem_of_getElem? (i := 6) rfl) rfl dX12_asksFor_239 ?_
      refine v_iconst B (v := iI 3) dX12_asksFor_242 rfl ?_
      refine v_aload_n B dX12_asksFor_243 rfl rfl ?_
      refine u_get B Z (C := RX12) (T := TX12) (N := 123) (ci := 12) hi_M_asksFor_X12 Y.o h108 rfl 118 (by decide +kernel) (List.mem_of_getElem? (i := 28) rfl) rfl dX12_asksFor_244 ?_
      refine v_iload_n B dX12_asksFor_247 rfl rfl ?_
      obtain ⟨f183, h184, e185⟩ := ga_118 G105.t
      obtain ⟨z186, e187, r188⟩ := e185 (d : Int).toNat
      refine u_iald B Z (t0 := 0) (ym_118 Y) h184 rfl (by omega) e187 dX12_asksFor_248 ?_
      refine v_i2l B (v := lI z186) dX12_asksFor_249 (lI_i (by omega)) ?_
      refine v_iconst B (v := iI 2) dX12_asksFor_250 rfl ?_
      refine u_callSv B Z hz (n := 4) (As := [.ref (q 90), .int (iI 3), .long (lI z186), .int (iI 2)]) (rest := []) (c_M_numberP l D K Z _ _ _ _ h q Y 90 96 3 z186 2 rfl ⟨by omega, by omega⟩ ⟨by omega, by omega⟩ ⟨by omega, by omega⟩ σ102 G105 (by omega)) gd_M_asksFor_M_numberP_432 rfl rfl rfl (by decide +kernel) ⟨Nat.le_trans (by decide +kernel) hR.1, Nat.le_trans (by decide +kernel) hR.2⟩ rfl rfl (Nat.le_of_ble_eq_true rfl) dX12_asksFor_251 ⟨Nat.zero_le _, Nat.zero_le _⟩ (fun σ189 p190 => ?_)
      obtain ⟨G192, F193⟩ := p190
      have F194 := F107.call F193 (by first | rfl | simp)
      refine v_aload_n B dX12_asksFor_254 rfl rfl ?_
      refine v_iload_n B dX12_asksFor_255 rfl rfl ?_
      refine v_iconst B (v := iI 4) dX12_asksFor_256 rfl ?_
      refine v_iconst B (v := iI 5) dX12_asksFor_257 rfl ?_
      have h195 := (F193 (q 85) _ (ym_85 Y) (by first | rfl | simp)).trans ((F106 (q 85) _ (ym_85 Y) (by first | rfl | simp)).trans (h13))
      refine u_callVv B Z hz (n := 3) (As := [.int (iI d), .int (iI 4), .int (iI 5)]) (rest := []) (c_M_request l D K Z _ _ _ _ h q Y d 4 5 ⟨by omega, by omega⟩ ⟨by omega, by omega⟩ ⟨by omega, by omega⟩ σ189 G192 (At.mk h195 e16 (by omega) ⟨by omega, by omega⟩) (by omega)) gd_M_asksFor_M_request_606 rfl rfl rfl (by decide +kernel) ⟨Nat.le_trans (by decide +kernel) hR.1, Nat.le_trans (by decide +kernel) hR.2⟩ Y.o (clsM G192.t) rfl rfl rfl rfl (Nat.le_of_ble_eq_true rfl) dX12_asksFor_258 ⟨Nat.zero_le _, Nat.zero_le _⟩ (fun σ196 p197 => ?_)
      obtain ⟨G199, F200⟩ := p197
      have F201 := F194.call F200 (by first | rfl | simp)
      refine v_goto B (tgt := 339) dX12_asksFor_261 (by decide +kernel) ?_
      exact hend σ196 _ _ G199 F201 dX12_asksFor_339
    | 4, o118, x119 =>
      replace o118 : o116 = 247 := by simp at o118; omega
      obtain rfl : g117 = 264 := by omega
      refine v_aload_n B dX12_asksFor_264 rfl rfl ?_
      refine u_get B Z (C := RX12) (T := TX12) (N := 123) (ci := 12) hi_M_asksFor_X12 Y.o h108 rfl 90 (by decide +kernel) (List.mem_of_getElem? (i := 6) rfl) rfl dX12_asksFor_265 ?_
      refine v_iconst B (v := iI 1) dX12_asksFor_268 rfl ?_
      refine v_aload_n B dX12_asksFor_269 rfl rfl ?_
      refine u_get B Z (C := RX12) (T := TX12) (N := 123) (ci := 12) hi_M_asksFor_X12 Y.o h108 rfl 117 (by decide +kernel) (List.mem_of_getElem? (i := 30) rfl) rfl dX12_asksFor_270 ?_
      refine v_iload_n B dX12_asksFor_273 rfl rfl ?_
      obtain ⟨f202, h203, e204⟩ := ga_117 G105.t
      obtain ⟨z205, e206, r207⟩ := e204 (d : Int).toNat
      refine u_iald B Z (t0 := 0) (ym_117 Y) h203 rfl (by omega) e206 dX12_asksFor_274 ?_
      refine v_i2l B (v := lI z205) dX12_asksFor_275 (lI_i (by omega)) ?_
      refine v_iconst B (v := iI 2) dX12_asksFor_276 rfl ?_
      refine u_callSv B Z hz (n := 4) (As := [.ref (q 90), .int (iI 1), .long (lI z205), .int (iI 2)]) (rest := []) (c_M_numberP l D K Z _ _ _ _ h q Y 90 96 1 z205 2 rfl ⟨by omega, by omega⟩ ⟨by omega, by omega⟩ ⟨by omega, by omega⟩ σ102 G105 (by omega)) gd_M_asksFor_M_numberP_432 rfl rfl rfl (by decide +kernel) ⟨Nat.le_trans (by decide +kernel) hR.1, Nat.le_trans (by decide +kernel) hR.2⟩ rfl rfl (Nat.le_of_ble_eq_true rfl) dX12_asksFor_277 ⟨Nat.zero_le _, Nat.zero_le _⟩ (fun σ208 p209 => ?_)
      obtain ⟨G211, F212⟩ := p209
      have F213 := F107.call F212 (by first | rfl | simp)
      refine v_aload_n B dX12_asksFor_280 rfl rfl ?_
      have h214 := (F212 h _ Y.o (by first | rfl | simp)).trans (h108)
      refine u_get B Z (C := RX12) (T := TX12) (N := 123) (ci := 12) hi_M_asksFor_X12 Y.o h214 rfl 90 (by decide +kernel) (List.mem_of_getElem? (i := 6) rfl) rfl dX12_asksFor_281 ?_
      refine v_iconst B (v := iI 3) dX12_asksFor_284 rfl ?_
      refine v_aload_n B dX12_asksFor_285 rfl rfl ?_
      refine u_get B Z (C := RX12) (T := TX12) (N := 123) (ci := 12) hi_M_asksFor_X12 Y.o h214 rfl 120 (by decide +kernel) (List.mem_of_getElem? (i := 21) rfl) rfl dX12_asksFor_286 ?_
      refine v_iload_n B dX12_asksFor_289 rfl rfl ?_
      obtain ⟨f215, h216, e217⟩ := ga_120 G211.t
      obtain ⟨z218, e219, r220⟩ := e217 (d : Int).toNat
      refine u_iald B Z (t0 := 0) (ym_120 Y) h216 rfl (by omega) e219 dX12_asksFor_290 ?_
      refine v_i2l B (v := lI z218) dX12_asksFor_291 (lI_i (by omega)) ?_
      refine v_iconst B (v := iI 2) dX12_asksFor_292 rfl ?_
      refine u_callSv B Z hz (n := 4) (As := [.ref (q 90), .int (iI 3), .long (lI z218), .int (iI 2)]) (rest := []) (c_M_numberP l D K Z _ _ _ _ h q Y 90 96 3 z218 2 rfl ⟨by omega, by omega⟩ ⟨by omega, by omega⟩ ⟨by omega, by omega⟩ σ208 G211 (by omega)) gd_M_asksFor_M_numberP_432 rfl rfl rfl (by decide +kernel) ⟨Nat.le_trans (by decide +kernel) hR.1, Nat.le_trans (by decide +kernel) hR.2⟩ rfl rfl (Nat.le_of_ble_eq_true rfl) dX12_asksFor_293 ⟨Nat.zero_le _, Nat.zero_le _⟩ (fun σ221 p222 => ?_)
      obtain ⟨G224, F225⟩ := p222
      have F226 := F213.call F225 (by first | rfl | simp)
      refine v_aload_n B dX12_asksFor_296 rfl rfl ?_
      refine v_iload_n B dX12_asksFor_297 rfl rfl ?_
      refine v_aload_n B dX12_asksFor_298 rfl rfl ?_
      have h227 := (F225 h _ Y.o (by first | rfl | simp)).trans (h214)
      refine u_get B Z (C := RX12) (T := TX12) (N := 123) (ci := 12) hi_M_asksFor_X12 Y.o h227 rfl 120 (by decide +kernel) (List.mem_of_getElem? (i := 21) rfl) rfl dX12_asksFor_299 ?_
      refine v_iload_n B dX12_asksFor_302 rfl rfl ?_
      have h228 := (F225 (q 120) _ (ym_120 Y) (by first | rfl | simp)).trans (h216)
      refine u_iald B Z (t0 := 0) (ym_120 Y) h228 rfl (by omega) e219 dX12_asksFor_303 ?_
      refine u_if_ne B (tgt := 312) (by omega) dX12_asksFor_304 (by decide +kernel) (fun c229 => ?_) (fun c229 => ?_)
      · refine v_bipush B (v := iI 12) dX12_asksFor_312 (by decide +kernel) ?_
        refine v_lv [0, 1] rfl ?_
        have h230 := (F225 (q 85) _ (ym_85 Y) (by first | rfl | simp)).trans ((F212 (q 85) _ (ym_85 Y) (by first | rfl | simp)).trans ((F106 (q 85) _ (ym_85 Y) (by first | rfl | simp)).trans (h13)))
        exact J314 σ221 12 G224 F226 h227 ⟨by omega, by omega⟩ ((At.mk h230 e16 (by omega) ⟨by omega, by omega⟩))
      · refine v_bipush B (v := iI 10) dX12_asksFor_307 (by decide +kernel) ?_
        refine v_goto B (tgt := 314) dX12_asksFor_309 (by decide +kernel) ?_
        refine v_lv [0, 1] rfl ?_
        have h231 := (F225 (q 85) _ (ym_85 Y) (by first | rfl | simp)).trans ((F212 (q 85) _ (ym_85 Y) (by first | rfl | simp)).trans ((F106 (q 85) _ (ym_85 Y) (by first | rfl | simp)).trans (h13)))
        exact J314 σ221 10 G224 F226 h227 ⟨by omega, by omega⟩ ((At.mk h231 e16 (by omega) ⟨by omega, by omega⟩))
    | 5, o118, x119 =>
      replace o118 : o116 = 317 := by simp at o118; omega
      obtain rfl : g117 = 334 := by omega
      refine v_aload_n B dX12_asksFor_334 rfl rfl ?_
      refine v_iload_n B dX12_asksFor_335 rfl rfl ?_
      have h232 := (F106 (q 85) _ (ym_85 Y) (by first | rfl | simp)).trans (h13)
      refine u_callVv B Z hz (n := 1) (As := [.int (iI d)]) (rest := []) (c_M_asksToWrite l D K Z _ _ _ _ h q Y d ⟨by omega, by omega⟩ σ102 G105 (At.mk h232 e16 (by omega) ⟨by omega, by omega⟩)) gd_M_asksFor_M_asksToWrite_615 rfl rfl rfl (by decide +kernel) ⟨Nat.le_trans (by decide +kernel) hR.1, Nat.le_trans (by decide +kernel) hR.2⟩ Y.o (clsM G105.t) rfl rfl rfl rfl (Nat.le_of_ble_eq_true rfl) dX12_asksFor_336 ⟨Nat.zero_le _, Nat.zero_le _⟩ (fun σ233 p234 => ?_)
      obtain ⟨G236, F237⟩ := p234
      have F238 := F107.call F237 (by first | rfl | simp)
      exact hend σ233 _ _ G236 F238 dX12_asksFor_339
    | 6, o118, x119 =>
      replace o118 : o116 = 69 := by simp at o118; omega
      obtain rfl : g117 = 86 := by omega
      refine v_aload_n B dX12_asksFor_86 rfl rfl ?_
      refine u_get B Z (C := RX12) (T := TX12) (N := 123) (ci := 12) hi_M_asksFor_X12 Y.o h108 rfl 90 (by decide +kernel) (List.mem_of_getElem? (i := 6) rfl) rfl dX12_asksFor_87 ?_
      refine v_iconst B (v := iI 3) dX12_asksFor_90 rfl ?_
      refine v_ldc2 B (v := lI 65535) (u_cl (List.mem_of_getElem? (i := 25) rfl) (by decide +kernel)) dX12_asksFor_91 ?_
      refine v_iconst B (v := iI 2) dX12_asksFor_94 rfl ?_
      refine u_callSv B Z hz (n := 4) (As := [.ref (q 90), .int (iI 3), .long (lI 65535), .int (iI 2)]) (rest := []) (c_M_numberP l D K Z _ _ _ _ h q Y 90 96 3 65535 2 rfl ⟨by omega, by omega⟩ ⟨by omega, by omega⟩ ⟨by omega, by omega⟩ σ102 G105 (by omega)) gd_M_asksFor_M_numberP_432 rfl rfl rfl (by decide +kernel) ⟨Nat.le_trans (by decide +kernel) hR.1, Nat.le_trans (by decide +kernel) hR.2⟩ rfl rfl (Nat.le_of_ble_eq_true rfl) dX12_asksFor_95 ⟨Nat.zero_le _, Nat.zero_le _⟩ (fun σ239 p240 => ?_)
      obtain ⟨G242, F243⟩ := p240
      have F244 := F107.call F243 (by first | rfl | simp)
      refine v_aload_n B dX12_asksFor_98 rfl rfl ?_
      have h245 := (F243 h _ Y.o (by first | rfl | simp)).trans (h108)
      refine u_get B Z (C := RX12) (T := TX12) (N := 123) (ci := 12) hi_M_asksFor_X12 Y.o h245 rfl 90 (by decide +kernel) (List.mem_of_getElem? (i := 6) rfl) rfl dX12_asksFor_99 ?_
      refine v_iconst B (v := iI 5) dX12_asksFor_102 rfl ?_
      refine v_ldc2 B (v := lI 10240) (u_cl (List.mem_of_getElem? (i := 26) rfl) (by decide +kernel)) dX12_asksFor_103 ?_
      refine v_iconst B (v := iI 2) dX12_asksFor_106 rfl ?_
      refine u_callSv B Z hz (n := 4) (As := [.ref (q 90), .int (iI 5), .long (lI 10240), .int (iI 2)]) (rest := []) (c_M_numberP l D K Z _ _ _ _ h q Y 90 96 5 10240 2 rfl ⟨by omega, by omega⟩ ⟨by omega, by omega⟩ ⟨by omega, by omega⟩ σ239 G242 (by omega)) gd_M_asksFor_M_numberP_432 rfl rfl rfl (by decide +kernel) ⟨Nat.le_trans (by decide +kernel) hR.1, Nat.le_trans (by decide +kernel) hR.2⟩ rfl rfl (Nat.le_of_ble_eq_true rfl) dX12_asksFor_107 ⟨Nat.zero_le _, Nat.zero_le _⟩ (fun σ246 p247 => ?_)
      obtain ⟨G249, F250⟩ := p247
      have F251 := F244.call F250 (by first | rfl | simp)
      refine v_aload_n B dX12_asksFor_110 rfl rfl ?_
      have h252 := (F250 h _ Y.o (by first | rfl | simp)).trans (h245)
      refine u_get B Z (C := RX12) (T := TX12) (N := 123) (ci := 12) hi_M_asksFor_X12 Y.o h252 rfl 122 (by decide +kernel) (List.mem_of_getElem? (i := 27) rfl) rfl dX12_asksFor_111 ?_
      refine v_bipush B (v := iI 40) dX12_asksFor_114 (by decide +kernel) ?_
      refine v_iload_n B dX12_asksFor_116 rfl rfl ?_
      refine v_imul B (v := iI (40 * d)) dX12_asksFor_117 ((iI_mul _ _).trans (congrArg iI (by omega))) ?_
      refine v_aload_n B dX12_asksFor_118 rfl rfl ?_
      refine u_get B Z (C := RX12) (T := TX12) (N := 123) (ci := 12) hi_M_asksFor_X12 Y.o h252 rfl 90 (by decide +kernel) (List.mem_of_getElem? (i := 6) rfl) rfl dX12_asksFor_119 ?_
      refine v_bipush B (v := iI 7) dX12_asksFor_122 (by decide +kernel) ?_
      refine v_aload_n B dX12_asksFor_124 rfl rfl ?_
      refine u_get B Z (C := RX12) (T := TX12) (N := 123) (ci := 12) hi_M_asksFor_X12 Y.o h252 rfl 116 (by decide +kernel) (List.mem_of_getElem? (i := 22) rfl) rfl dX12_asksFor_125 ?_
      refine v_iload_n B dX12_asksFor_128 rfl rfl ?_
      have h253 := (F250 (q 116) _ (ym_116 Y) (by first | rfl | simp)).trans ((F243 (q 116) _ (ym_116 Y) (by first | rfl | simp)).trans (h110))
      refine u_iald B Z (t0 := 0) (ym_116 Y) h253 rfl (by omega) e113 dX12_asksFor_129 ?_
      refine v_bipush B (v := iI 6) dX12_asksFor_130 (by decide +kernel) ?_
      refine u_icmp_ne B (tgt := 144) (by omega) (by omega) dX12_asksFor_132 (by decide +kernel) (fun c254 => by omega) (fun c254 => ?_)
      refine v_aload_n B dX12_asksFor_135 rfl rfl ?_
      refine u_get B Z (C := RX12) (T := TX12) (N := 123) (ci := 12) hi_M_asksFor_X12 Y.o h252 rfl 121 (by decide +kernel) (List.mem_of_getElem? (i := 23) rfl) rfl dX12_asksFor_136 ?_
      refine v_iload_n B dX12_asksFor_139 rfl rfl ?_
      obtain ⟨f255, h256, e257⟩ := ga_121 G249.t
      obtain ⟨z258, e259, r260⟩ := e257 (d : Int).toNat
      refine u_iald B Z (t0 := 0) (ym_121 Y) h256 rfl (by omega) e259 dX12_asksFor_140 ?_
      refine v_goto B (tgt := 145) dX12_asksFor_141 (by decide +kernel) ?_
      refine v_lv [0, 1] rfl ?_
      have h261 := (F250 (q 85) _ (ym_85 Y) (by first | rfl | simp)).trans ((F243 (q 85) _ (ym_85 Y) (by first | rfl | simp)).trans ((F106 (q 85) _ (ym_85 Y) (by first | rfl | simp)).trans (h13)))
      exact J145 σ246 z258 7 G249 F251 h252 ⟨by omega, by omega⟩ ⟨by omega, by omega⟩ ((At.mk h261 e16 (by omega) ⟨by omega, by omega⟩))
    | i115 + 7, o118, x119 => exact absurd (o118.symm.trans (Array.getElem?_eq_none (by simp))) (by simp)
  · intro x119
    refine v_aload_n B dX12_asksFor_334 rfl rfl ?_
    refine v_iload_n B dX12_asksFor_335 rfl rfl ?_
    have h262 := (F106 (q 85) _ (ym_85 Y) (by first | rfl | simp)).trans (h13)
    refine u_callVv B Z hz (n := 1) (As := [.int (iI d)]) (rest := []) (c_M_asksToWrite l D K Z _ _ _ _ h q Y d ⟨by omega, by omega⟩ σ102 G105 (At.mk h262 e16 (by omega) ⟨by omega, by omega⟩)) gd_M_asksFor_M_asksToWrite_615 rfl rfl rfl (by decide +kernel) ⟨Nat.le_trans (by decide +kernel) hR.1, Nat.le_trans (by decide +kernel) hR.2⟩ Y.o (clsM G105.t) rfl rfl rfl rfl (Nat.le_of_ble_eq_true rfl) dX12_asksFor_336 ⟨Nat.zero_le _, Nat.zero_le _⟩ (fun σ263 p264 => ?_)
    obtain ⟨G266, F267⟩ := p264
    have F268 := F107.call F267 (by first | rfl | simp)
    exact hend σ263 _ _ G266 F268 dX12_asksFor_339
set_option maxRecDepth 100000 in
theorem c_M_asksFor (l : Launch) (D : va_G) (K : Nat → ClassId) {τ : Nat → Option Ty} {dom : List Nat} (Z : Sk τ dom) (zb zL : Nat) (zx : Nat → Int32) (zs : Nat → Nat) (h : Nat) (q : Nat → Nat) (Y : MS τ h q) (d : Int) (x2 : Int) (r_d : 0 ≤ d ∧ d ≤ 1) (r_x2 : -2147483648 ≤ x2 ∧ x2 ≤ 2147483647) (σ0 : Nat → va_E) (G0 : GM K h q σ0) (hM : At σ0 (q 85) (d : Int).toNat (0) (7)) : MZ l yX12_asksFor wp_M_asksFor ({ frames := 4, cells := 0, slots := 0, locals := 94 }) D (tysA K) [.ref h, .int (iI d), .int (iI x2)] (fd dom σ0) zb zL zx zs (Qv D (fun σ' => GM K h q σ' ∧ Fr τ [(190, 0), (219, 0), (182, 0), (184, 0), (185, 0), (220, 0)] σ0 σ') (fun σ' => fd dom σ')) 0 0 := by
  refine mz_of (cc := cX12_asksFor) (maxL := 3) (ret := none) (by decide +kernel) rfl (Nat.le_of_ble_eq_true rfl) ?_
  intro p e s m below meth c A B hr hlk _ hz
  exact b_M_asksFor ⟨Nat.le_refl _, Nat.le_refl _⟩ B Z hz h q Y d x2 r_d r_x2 σ0 G0 hM (fun σ' lv pc G F hd => v_vret B hr hlk σ' ⟨G, F⟩ rfl (Nat.le_refl _) (Nat.le_refl _) hd)

def wp_M_ends : List Cond := .code yX12_ends cX12_ends 3 none :: (([.fieldLink RX12 365 "LowEnergyModel" "job" "[I", .methodLink RX12 504 yX12_complete_, .instanceMethod yX12_complete_, .selects RX12 yX12_complete_ yX12_complete_, .initialized RX12, .code yX12_complete_ cX12_complete_ 6 none, .fieldLink RX12 10 "LowEnergyModel" "tape" "[B", .methodLink RX12 409 yX12_complete, .instanceMethod yX12_complete, .selects RX12 yX12_complete yX12_complete, .code yX12_complete cX12_complete 11 none, .fieldLink RX12 155 "LowEnergyModel" "kept" "[I", .fieldLink RX12 158 "LowEnergyModel" "keptMany" "[I", .methodLink RX12 404 Lib.Math.min.name, .static Lib.Math.min.name, .initialized "java/lang/Math", .code Lib.Math.min.name Lib.Math.min.code 2 (some .int), .fieldLink RX12 161 "LowEnergyModel" "notKept" "[I"] : List Cond) ++ (wsX120 ++ ([])))
theorem hi_M_ends_X12 : ∀ x ∈ u_ws RX12 TX12 123, x ∈ wp_M_ends := fun _ h => List.mem_cons_of_mem _ (List.mem_append_right _ (List.mem_append_left _ h))
set_option maxRecDepth 100000 in
theorem gd_M_ends_M_complete5_504 : GoodIn wp_M_ends (wsV RX12 504 RX12 yX12_complete_ wp_M_complete5) := goodIn_app (goodIn_r _ [2, 3, 4, 5] rfl rfl) (goodIn_ca (goodIn_r _ [6, 7, 8, 9, 10, 5, 11, 12, 13, 14, 15, 16, 17, 18] rfl rfl) (goodIn_app (goodIn_cls hi_M_ends_X12 gw_X12) (goodIn_nil)))
set_option maxHeartbeats 4000000 in
set_option maxRecDepth 100000 in
theorem b_M_ends {p : Program} {l : Launch} {e : Env} {R : Room} {s : State} {m : MethodId} {args : Array Value} {below : List Frame} {meth : Method} {c : Code} {D : va_G} {K : Nat → ClassId} {A : Nat → Prop} {Q : State → Prop} {τ : Nat → Option Ty} {dom : List Nat} {zb zL : Nat} {zx : Nat → Int32} {zs : Nat → Nat} (hR : 3 ≤ R.frames ∧ 70 ≤ R.locals) (B : Bx p s m args c cX12_ends 3 RX12 wp_M_ends D (tysA K) A) (Z : Sk τ dom) (hz : ZL zb zL zx zs A s s.heap) (h : Nat) (q : Nat → Nat) (Y : MS τ h q) (d : Int) (r_d : 0 ≤ d ∧ d ≤ 1) (σ0 : Nat → va_E) (G0 : GM K h q σ0) (hend : ∀ (σ' : Nat → va_E) (lv : List (Nat × Value)) (pc : Nat), GM K h q σ' → Fr τ [(216, 0), (145, 0), (144, 0), (146, 0)] σ0 σ' → decode cX12_ends pc = .ok (.return_, 1) → V p l e R s m args below meth c 3 D A Q (0, 0) (fd dom σ') lv pc []) : V p l e R s m args below meth c 3 D A Q (0, 0) (fd dom σ0) [(0, .ref h), (1, .int (iI d))] 0 [] := by
  have F0 : Fr τ [(216, 0), (145, 0), (144, 0), (146, 0)] σ0 σ0 := Fr.rf
  obtain ⟨z1, z2, z3, z4, z5, h6, r7, r8, r9, r10, r11⟩ := G0.t.o
  refine v_aload_n B dX12_ends_0 rfl rfl ?_
  refine u_get B Z (C := RX12) (T := TX12) (N := 123) (ci := 12) hi_M_ends_X12 Y.o h6 rfl 116 (by decide +kernel) (List.mem_of_getElem? (i := 1) rfl) rfl dX12_ends_1 ?_
  refine v_iload_n B dX12_ends_4 rfl rfl ?_
  obtain ⟨f12, h13, e14⟩ := ga_116 G0.t
  obtain ⟨z15, e16, r17⟩ := e14 (d : Int).toNat
  refine u_iald B Z (t0 := 0) (ym_116 Y) h13 rfl (by omega) e16 dX12_ends_5 ?_
  refine v_istore_n B (lv' := [(2, .int (iI z15)), (0, .ref h), (1, .int (iI d))]) dX12_ends_6 rfl (by decide +kernel) rfl ?_
  refine v_aload_n B dX12_ends_7 rfl rfl ?_
  refine u_get B Z (C := RX12) (T := TX12) (N := 123) (ci := 12) hi_M_ends_X12 Y.o h6 rfl 116 (by decide +kernel) (List.mem_of_getElem? (i := 1) rfl) rfl dX12_ends_8 ?_
  refine v_iload_n B dX12_ends_11 rfl rfl ?_
  refine v_iconst B (v := iI (-1)) dX12_ends_12 rfl ?_
  refine u_iast B Z (t0 := 0) (x := iI (-1)) (ym_116 Y) h13 rfl (by omega) dX12_ends_13 (fun σ18 h19 n20 => ?_)
  have e21 := el_upd (z := (-1)) e14 ⟨by omega, by omega⟩ (d : Int).toNat
  have F22 := F0.put (ym_116 Y) (by simp) n20
  have G23 := gp_116 Y G0 ⟨_, h19, e21⟩ n20
  refine v_aload_n B dX12_ends_14 rfl rfl ?_
  refine v_iload_n B dX12_ends_15 rfl rfl ?_
  refine v_bipush B (v := iI 8) dX12_ends_16 (by decide +kernel) ?_
  refine v_iload_n B dX12_ends_18 rfl rfl ?_
  refine v_iconst B (v := iI 0) dX12_ends_19 rfl ?_
  refine v_iconst B (v := iI 0) dX12_ends_20 rfl ?_
  refine u_callVv B Z hz (n := 5) (As := [.int (iI d), .int (iI 8), .int (iI z15), .int (iI 0), .int (iI 0)]) (rest := []) (c_M_complete5 l D K Z _ _ _ _ h q Y d 8 z15 0 0 ⟨by omega, by omega⟩ ⟨by omega, by omega⟩ ⟨by omega, by omega⟩ ⟨by omega, by omega⟩ ⟨by omega, by omega⟩ σ18 G23) gd_M_ends_M_complete5_504 rfl rfl rfl (by decide +kernel) ⟨Nat.le_trans (by decide +kernel) hR.1, Nat.le_trans (by decide +kernel) hR.2⟩ Y.o (clsM G23.t) rfl rfl rfl rfl (Nat.le_of_ble_eq_true rfl) dX12_ends_21 ⟨Nat.zero_le _, Nat.zero_le _⟩ (fun σ24 p25 => ?_)
  obtain ⟨G27, F28⟩ := p25
  have F29 := F22.call F28 (by first | rfl | simp)
  exact hend σ24 _ _ G27 F29 dX12_ends_24
set_option maxRecDepth 100000 in
theorem c_M_ends (l : Launch) (D : va_G) (K : Nat → ClassId) {τ : Nat → Option Ty} {dom : List Nat} (Z : Sk τ dom) (zb zL : Nat) (zx : Nat → Int32) (zs : Nat → Nat) (h : Nat) (q : Nat → Nat) (Y : MS τ h q) (d : Int) (r_d : 0 ≤ d ∧ d ≤ 1) (σ0 : Nat → va_E) (G0 : GM K h q σ0) : MZ l yX12_ends wp_M_ends ({ frames := 3, cells := 0, slots := 0, locals := 70 }) D (tysA K) [.ref h, .int (iI d)] (fd dom σ0) zb zL zx zs (Qv D (fun σ' => GM K h q σ' ∧ Fr τ [(216, 0), (145, 0), (144, 0), (146, 0)] σ0 σ') (fun σ' => fd dom σ')) 0 0 := by
  refine mz_of (cc := cX12_ends) (maxL := 3) (ret := none) (by decide +kernel) rfl (Nat.le_of_ble_eq_true rfl) ?_
  intro p e s m below meth c A B hr hlk _ hz
  exact b_M_ends ⟨Nat.le_refl _, Nat.le_refl _⟩ B Z hz h q Y d r_d σ0 G0 (fun σ' lv pc G F hd => v_vret B hr hlk σ' ⟨G, F⟩ rfl (Nat.le_refl _) (Nat.le_refl _) hd)

def wp_M_isAnswer : List Cond := .code yX12_isAnswer cX12_isAnswer 3 (some .boolean) :: (([.fieldLink RX12 293 "LowEnergyModel" "asks" "[B", .methodLink RX12 618 yX12_areRows, .static yX12_areRows, .initialized RX12, .code yX12_areRows cX12_areRows 4 (some .boolean)] : List Cond) ++ (wsX120 ++ ([])))
theorem hi_M_isAnswer_X12 : ∀ x ∈ u_ws RX12 TX12 123, x ∈ wp_M_isAnswer := fun _ h => List.mem_cons_of_mem _ (List.mem_append_right _ (List.mem_append_left _ h))
set_option maxRecDepth 100000 in
theorem gd_M_isAnswer_M_areRows_618 : GoodIn wp_M_isAnswer (va_wsS RX12 618 yX12_areRows wp_M_areRows) := goodIn_app (goodIn_r _ [2, 3, 4] rfl rfl) (goodIn_ca (goodIn_r _ [5] rfl rfl) (goodIn_nil))
set_option maxHeartbeats 4000000 in
set_option maxRecDepth 100000 in
theorem b_M_isAnswer {p : Program} {l : Launch} {e : Env} {R : Room} {s : State} {m : MethodId} {args : Array Value} {below : List Frame} {meth : Method} {c : Code} {D : va_G} {K : Nat → ClassId} {A : Nat → Prop} {Q : State → Prop} {τ : Nat → Option Ty} {dom : List Nat} {zb zL : Nat} {zx : Nat → Int32} {zs : Nat → Nat} (hR : 1 ≤ R.frames ∧ 23 ≤ R.locals) (B : Bx p s m args c cX12_isAnswer 3 RX12 wp_M_isAnswer D (tysA K) A) (Z : Sk τ dom) (hz : ZL zb zL zx zs A s s.heap) (h : Nat) (q : Nat → Nat) (Y : MS τ h q) (x1 : Int) (x2 : Int) (r_x1 : 0 ≤ x1 ∧ x1 ≤ 255) (r_x2 : -4 ≤ x2 ∧ x2 ≤ 92) (σ0 : Nat → va_E) (G0 : GT K h q σ0) (hend : ∀ (z : Int) (lv : List (Nat × Value)) (pc : Nat), (0 ≤ z ∧ z ≤ 1) → (z = 1 → RowsOk σ0 (q 91) x1 x2) → decode cX12_isAnswer pc = .ok (.ireturn, 1) → V p l e R s m args below meth c 3 D A Q (0, 0) (fd dom σ0) lv pc [.int (iI z)]) : V p l e R s m args below meth c 3 D A Q (0, 0) (fd dom σ0) [(0, .ref h), (1, .int (iI x1)), (2, .int (iI x2))] 0 [] := by
  obtain ⟨z1, z2, z3, z4, z5, h6, r7, r8, r9, r10, r11⟩ := G0.o
  refine v_iload_n B dX12_isAnswer_0 rfl rfl ?_
  refine u_tsw B (tgtd := 240) (by omega) dX12_isAnswer_1 (by decide +kernel) ?_ ?_ (tswM (by decide +kernel)) (by decide +kernel)
  · intro i12 o13 g14 o15 x16 t17
    match i12, o15, x16 with
    | 0, o15, x16 =>
      replace o15 : o13 = 107 := by simp at o15; omega
      obtain rfl : g14 = 108 := by omega
      refine v_iload_n B dX12_isAnswer_108 rfl rfl ?_
      refine v_iconst B (v := iI 3) dX12_isAnswer_109 rfl ?_
      refine u_icmp_ne B (tgt := 117) (by omega) (by omega) dX12_isAnswer_110 (by decide +kernel) (fun c18 => ?_) (fun c18 => ?_)
      · refine v_iconst B (v := iI 0) dX12_isAnswer_117 rfl ?_
        exact hend 0 _ _ ⟨by omega, by omega⟩ (fun q => by omega) dX12_isAnswer_118
      · refine v_iconst B (v := iI 1) dX12_isAnswer_113 rfl ?_
        refine v_goto B (tgt := 118) dX12_isAnswer_114 (by decide +kernel) ?_
        exact hend 1 _ _ ⟨by omega, by omega⟩ (fun q _ _ _ _ _ _ _ _ _ _ => ⟨fun q => by omega, fun q => by omega, fun q => by omega, fun q => by omega⟩) dX12_isAnswer_118
    | 1, o15, x16 =>
      replace o15 : o13 = 239 := by simp at o15; omega
      obtain rfl : g14 = 240 := by omega
      refine v_iconst B (v := iI 1) dX12_isAnswer_240 rfl ?_
      exact hend 1 _ _ ⟨by omega, by omega⟩ (fun q _ _ _ _ _ _ _ _ _ _ => ⟨fun q => by omega, fun q => by omega, fun q => by omega, fun q => by omega⟩) dX12_isAnswer_241
    | 2, o15, x16 =>
      replace o15 : o13 = 118 := by simp at o15; omega
      obtain rfl : g14 = 119 := by omega
      refine v_iload_n B dX12_isAnswer_119 rfl rfl ?_
      refine v_iconst B (v := iI 2) dX12_isAnswer_120 rfl ?_
      refine u_icmp_le B (tgt := 148) (by omega) (by omega) dX12_isAnswer_121 (by decide +kernel) (fun c19 => ?_) (fun c19 => ?_)
      · refine v_iconst B (v := iI 0) dX12_isAnswer_148 rfl ?_
        exact hend 0 _ _ ⟨by omega, by omega⟩ (fun q => by omega) dX12_isAnswer_149
      · refine v_aload_n B dX12_isAnswer_124 rfl rfl ?_
        refine u_get B Z (C := RX12) (T := TX12) (N := 123) (ci := 12) hi_M_isAnswer_X12 Y.o h6 rfl 91 (by decide +kernel) (List.mem_of_getElem? (i := 1) rfl) rfl dX12_isAnswer_125 ?_
        refine v_iconst B (v := iI 1) dX12_isAnswer_128 rfl ?_
        obtain ⟨f20, h21, e22⟩ := ga_91 G0
        obtain ⟨z23, e24, r25⟩ := e22 (1 : Int).toNat
        refine u_bald B Z (t0 := 2) (ym_91 Y) h21 rfl (by omega) e24 dX12_isAnswer_129 ?_
        refine v_iconst B (v := iI 1) dX12_isAnswer_130 rfl ?_
        refine u_icmp_ne B (tgt := 148) (by omega) (by omega) dX12_isAnswer_131 (by decide +kernel) (fun c26 => ?_) (fun c26 => ?_)
        · refine v_iconst B (v := iI 0) dX12_isAnswer_148 rfl ?_
          exact hend 0 _ _ ⟨by omega, by omega⟩ (fun q => by omega) dX12_isAnswer_149
        · refine v_iload_n B dX12_isAnswer_134 rfl rfl ?_
          refine v_iconst B (v := iI 2) dX12_isAnswer_135 rfl ?_
          refine v_iconst B (v := iI 4) dX12_isAnswer_136 rfl ?_
          refine v_iconst B (v := iI 4) dX12_isAnswer_137 rfl ?_
          refine u_callSi B Z hz (n := 4) (As := [.int (iI x2), .int (iI 2), .int (iI 4), .int (iI 4)]) (rest := []) (c_M_areRows l D K Z _ _ _ _ h q Y x2 2 4 4 ⟨by omega, by omega⟩ ⟨by omega, by omega⟩ ⟨by omega, by omega⟩ ⟨by omega, by omega⟩ σ0 (G0)) gd_M_isAnswer_M_areRows_618 rfl rfl rfl (by decide +kernel) ⟨Nat.le_trans (by decide +kernel) hR.1, Nat.le_trans (by decide +kernel) hR.2⟩ rfl rfl (Nat.le_of_ble_eq_true rfl) dX12_isAnswer_138 ⟨Nat.zero_le _, Nat.zero_le _⟩ (fun v29 σ27 p28 => ?_)
          obtain ⟨rfl, z30, e31, r32, po33⟩ := p28
          subst e31
          refine u_if_eq B (tgt := 148) (by omega) dX12_isAnswer_141 (by decide +kernel) (fun c34 => ?_) (fun c34 => ?_)
          · refine v_iconst B (v := iI 0) dX12_isAnswer_148 rfl ?_
            exact hend 0 _ _ ⟨by omega, by omega⟩ (fun q => by omega) dX12_isAnswer_149
          · refine v_iconst B (v := iI 1) dX12_isAnswer_144 rfl ?_
            refine v_goto B (tgt := 149) dX12_isAnswer_145 (by decide +kernel) ?_
            exact hend 1 _ _ ⟨by omega, by omega⟩ (fun q _ _ _ _ _ _ _ _ _ _ => ⟨fun q9 => by have := po33 (by omega); omega, fun q9 => by have := po33 (by omega); omega, fun q => by omega, fun q => by omega⟩) dX12_isAnswer_149
    | 3, o15, x16 =>
      replace o15 : o13 = 239 := by simp at o15; omega
      obtain rfl : g14 = 240 := by omega
      refine v_iconst B (v := iI 1) dX12_isAnswer_240 rfl ?_
      exact hend 1 _ _ ⟨by omega, by omega⟩ (fun q _ _ _ _ _ _ _ _ _ _ => ⟨fun q => by omega, fun q => by omega, fun q => by omega, fun q => by omega⟩) dX12_isAnswer_241
    | 4, o15, x16 =>
      replace o15 : o13 = 149 := by simp at o15; omega
      obtain rfl : g14 = 150 := by omega
      refine v_iload_n B dX12_isAnswer_150 rfl rfl ?_
      refine v_iconst B (v := iI 1) dX12_isAnswer_151 rfl ?_
      refine v_iconst B (v := iI 4) dX12_isAnswer_152 rfl ?_
      refine v_iconst B (v := iI 4) dX12_isAnswer_153 rfl ?_
      refine u_callSi B Z hz (n := 4) (As := [.int (iI x2), .int (iI 1), .int (iI 4), .int (iI 4)]) (rest := []) (c_M_areRows l D K Z _ _ _ _ h q Y x2 1 4 4 ⟨by omega, by omega⟩ ⟨by omega, by omega⟩ ⟨by omega, by omega⟩ ⟨by omega, by omega⟩ σ0 (G0)) gd_M_isAnswer_M_areRows_618 rfl rfl rfl (by decide +kernel) ⟨Nat.le_trans (by decide +kernel) hR.1, Nat.le_trans (by decide +kernel) hR.2⟩ rfl rfl (Nat.le_of_ble_eq_true rfl) dX12_isAnswer_154 ⟨Nat.zero_le _, Nat.zero_le _⟩ (fun v37 σ35 p36 => ?_)
      obtain ⟨rfl, z38, e39, r40, po41⟩ := p36
      subst e39
      exact hend z38 _ _ ⟨by omega, by omega⟩ (fun q _ _ _ _ _ _ _ _ _ _ => ⟨fun q9 => by have := po41 (by omega); omega, fun q9 => by have := po41 (by omega); omega, fun q => by omega, fun q => by omega⟩) dX12_isAnswer_157
    | 5, o15, x16 =>
      replace o15 : o13 = 239 := by simp at o15; omega
      obtain rfl : g14 = 240 := by omega
      refine v_iconst B (v := iI 1) dX12_isAnswer_240 rfl ?_
      exact hend 1 _ _ ⟨by omega, by omega⟩ (fun q _ _ _ _ _ _ _ _ _ _ => ⟨fun q => by omega, fun q => by omega, fun q => by omega, fun q => by omega⟩) dX12_isAnswer_241
    | 6, o15, x16 =>
      replace o15 : o13 = 157 := by simp at o15; omega
      obtain rfl : g14 = 158 := by omega
      refine v_iload_n B dX12_isAnswer_158 rfl rfl ?_
      refine v_iconst B (v := iI 2) dX12_isAnswer_159 rfl ?_
      refine u_icmp_le B (tgt := 186) (by omega) (by omega) dX12_isAnswer_160 (by decide +kernel) (fun c42 => ?_) (fun c42 => ?_)
      · refine v_iconst B (v := iI 0) dX12_isAnswer_186 rfl ?_
        exact hend 0 _ _ ⟨by omega, by omega⟩ (fun q => by omega) dX12_isAnswer_187
      · refine v_iload_n B dX12_isAnswer_163 rfl rfl ?_
        refine v_iconst B (v := iI 2) dX12_isAnswer_164 rfl ?_
        refine v_aload_n B dX12_isAnswer_165 rfl rfl ?_
        refine u_get B Z (C := RX12) (T := TX12) (N := 123) (ci := 12) hi_M_isAnswer_X12 Y.o h6 rfl 91 (by decide +kernel) (List.mem_of_getElem? (i := 1) rfl) rfl dX12_isAnswer_166 ?_
        refine v_iconst B (v := iI 1) dX12_isAnswer_169 rfl ?_
        obtain ⟨f43, h44, e45⟩ := ga_91 G0
        obtain ⟨z46, e47, r48⟩ := e45 (1 : Int).toNat
        refine u_bald B Z (t0 := 2) (ym_91 Y) h44 rfl (by omega) e47 dX12_isAnswer_170 ?_
        refine v_sipush B (v := iI 255) dX12_isAnswer_171 (by decide +kernel) ?_
        obtain ⟨z49, e50, r51⟩ := iI_and z46 (c := 255) (by decide) (by decide)
        refine v_iand B (v := iI z49) dX12_isAnswer_174 e50 ?_
        refine v_iconst B (v := iI 2) dX12_isAnswer_175 rfl ?_
        refine u_callSi B Z hz (n := 4) (As := [.int (iI x2), .int (iI 2), .int (iI z49), .int (iI 2)]) (rest := []) (c_M_areRows l D K Z _ _ _ _ h q Y x2 2 z49 2 ⟨by omega, by omega⟩ ⟨by omega, by omega⟩ ⟨by omega, by omega⟩ ⟨by omega, by omega⟩ σ0 (G0)) gd_M_isAnswer_M_areRows_618 rfl rfl rfl (by decide +kernel) ⟨Nat.le_trans (by decide +kernel) hR.1, Nat.le_trans (by decide +kernel) hR.2⟩ rfl rfl (Nat.le_of_ble_eq_true rfl) dX12_isAnswer_176 ⟨Nat.zero_le _, Nat.zero_le _⟩ (fun v54 σ52 p53 => ?_)
        obtain ⟨rfl, z55, e56, r57, po58⟩ := p53
        subst e56
        refine u_if_eq B (tgt := 186) (by omega) dX12_isAnswer_179 (by decide +kernel) (fun c59 => ?_) (fun c59 => ?_)
        · refine v_iconst B (v := iI 0) dX12_isAnswer_186 rfl ?_
          exact hend 0 _ _ ⟨by omega, by omega⟩ (fun q => by omega) dX12_isAnswer_187
        · refine v_iconst B (v := iI 1) dX12_isAnswer_182 rfl ?_
          refine v_goto B (tgt := 187) dX12_isAnswer_183 (by decide +kernel) ?_
          exact hend 1 _ _ ⟨by omega, by omega⟩ (fun q => RowsOk.mk h44 e47 (by omega) e50 r51 ⟨fun q => by omega, fun q => by omega, fun q => by first | omega | exact ⟨by omega, (po58 (by omega)).1, (po58 (by omega)).2.2⟩, fun q => by first | omega | exact ⟨by omega, (po58 (by omega)).1, (po58 (by omega)).2.2⟩⟩) dX12_isAnswer_187
    | 7, o15, x16 =>
      replace o15 : o13 = 239 := by simp at o15; omega
      obtain rfl : g14 = 240 := by omega
      refine v_iconst B (v := iI 1) dX12_isAnswer_240 rfl ?_
      exact hend 1 _ _ ⟨by omega, by omega⟩ (fun q _ _ _ _ _ _ _ _ _ _ => ⟨fun q => by omega, fun q => by omega, fun q => by omega, fun q => by omega⟩) dX12_isAnswer_241
    | 8, o15, x16 =>
      replace o15 : o13 = 239 := by simp at o15; omega
      obtain rfl : g14 = 240 := by omega
      refine v_iconst B (v := iI 1) dX12_isAnswer_240 rfl ?_
      exact hend 1 _ _ ⟨by omega, by omega⟩ (fun q _ _ _ _ _ _ _ _ _ _ => ⟨fun q => by omega, fun q => by omega, fun q => by omega, fun q => by omega⟩) dX12_isAnswer_241
    | 9, o15, x16 =>
      replace o15 : o13 = 239 := by simp at o15; omega
      obtain rfl : g14 = 240 := by omega
      refine v_iconst B (v := iI 1) dX12_isAnswer_240 rfl ?_
      exact hend 1 _ _ ⟨by omega, by omega⟩ (fun q _ _ _ _ _ _ _ _ _ _ => ⟨fun q => by omega, fun q => by omega, fun q => by omega, fun q => by omega⟩) dX12_isAnswer_241
    | 10, o15, x16 =>
      replace o15 : o13 = 239 := by simp at o15; omega
      obtain rfl : g14 = 240 := by omega
      refine v_iconst B (v := iI 1) dX12_isAnswer_240 rfl ?_
      exact hend 1 _ _ ⟨by omega, by omega⟩ (fun q _ _ _ _ _ _ _ _ _ _ => ⟨fun q => by omega, fun q => by omega, fun q => by omega, fun q => by omega⟩) dX12_isAnswer_241
    | 11, o15, x16 =>
      replace o15 : o13 = 239 := by simp at o15; omega
      obtain rfl : g14 = 240 := by omega
      refine v_iconst B (v := iI 1) dX12_isAnswer_240 rfl ?_
      exact hend 1 _ _ ⟨by omega, by omega⟩ (fun q _ _ _ _ _ _ _ _ _ _ => ⟨fun q => by omega, fun q => by omega, fun q => by omega, fun q => by omega⟩) dX12_isAnswer_241
    | 12, o15, x16 =>
      replace o15 : o13 = 239 := by simp at o15; omega
      obtain rfl : g14 = 240 := by omega
      refine v_iconst B (v := iI 1) dX12_isAnswer_240 rfl ?_
      exact hend 1 _ _ ⟨by omega, by omega⟩ (fun q _ _ _ _ _ _ _ _ _ _ => ⟨fun q => by omega, fun q => by omega, fun q => by omega, fun q => by omega⟩) dX12_isAnswer_241
    | 13, o15, x16 =>
      replace o15 : o13 = 239 := by simp at o15; omega
      obtain rfl : g14 = 240 := by omega
      refine v_iconst B (v := iI 1) dX12_isAnswer_240 rfl ?_
      exact hend 1 _ _ ⟨by omega, by omega⟩ (fun q _ _ _ _ _ _ _ _ _ _ => ⟨fun q => by omega, fun q => by omega, fun q => by omega, fun q => by omega⟩) dX12_isAnswer_241
    | 14, o15, x16 =>
      replace o15 : o13 = 187 := by simp at o15; omega
      obtain rfl : g14 = 188 := by omega
      refine v_iload_n B dX12_isAnswer_188 rfl rfl ?_
      refine v_iconst B (v := iI 2) dX12_isAnswer_189 rfl ?_
      refine u_icmp_le B (tgt := 216) (by omega) (by omega) dX12_isAnswer_190 (by decide +kernel) (fun c60 => ?_) (fun c60 => ?_)
      · refine v_iconst B (v := iI 0) dX12_isAnswer_216 rfl ?_
        exact hend 0 _ _ ⟨by omega, by omega⟩ (fun q => by omega) dX12_isAnswer_217
      · refine v_iload_n B dX12_isAnswer_193 rfl rfl ?_
        refine v_iconst B (v := iI 2) dX12_isAnswer_194 rfl ?_
        refine v_aload_n B dX12_isAnswer_195 rfl rfl ?_
        refine u_get B Z (C := RX12) (T := TX12) (N := 123) (ci := 12) hi_M_isAnswer_X12 Y.o h6 rfl 91 (by decide +kernel) (List.mem_of_getElem? (i := 1) rfl) rfl dX12_isAnswer_196 ?_
        refine v_iconst B (v := iI 1) dX12_isAnswer_199 rfl ?_
        obtain ⟨f61, h62, e63⟩ := ga_91 G0
        obtain ⟨z64, e65, r66⟩ := e63 (1 : Int).toNat
        refine u_bald B Z (t0 := 2) (ym_91 Y) h62 rfl (by omega) e65 dX12_isAnswer_200 ?_
        refine v_sipush B (v := iI 255) dX12_isAnswer_201 (by decide +kernel) ?_
        obtain ⟨z67, e68, r69⟩ := iI_and z64 (c := 255) (by decide) (by decide)
        refine v_iand B (v := iI z67) dX12_isAnswer_204 e68 ?_
        refine v_iconst B (v := iI 4) dX12_isAnswer_205 rfl ?_
        refine u_callSi B Z hz (n := 4) (As := [.int (iI x2), .int (iI 2), .int (iI z67), .int (iI 4)]) (rest := []) (c_M_areRows l D K Z _ _ _ _ h q Y x2 2 z67 4 ⟨by omega, by omega⟩ ⟨by omega, by omega⟩ ⟨by omega, by omega⟩ ⟨by omega, by omega⟩ σ0 (G0)) gd_M_isAnswer_M_areRows_618 rfl rfl rfl (by decide +kernel) ⟨Nat.le_trans (by decide +kernel) hR.1, Nat.le_trans (by decide +kernel) hR.2⟩ rfl rfl (Nat.le_of_ble_eq_true rfl) dX12_isAnswer_206 ⟨Nat.zero_le _, Nat.zero_le _⟩ (fun v72 σ70 p71 => ?_)
        obtain ⟨rfl, z73, e74, r75, po76⟩ := p71
        subst e74
        refine u_if_eq B (tgt := 216) (by omega) dX12_isAnswer_209 (by decide +kernel) (fun c77 => ?_) (fun c77 => ?_)
        · refine v_iconst B (v := iI 0) dX12_isAnswer_216 rfl ?_
          exact hend 0 _ _ ⟨by omega, by omega⟩ (fun q => by omega) dX12_isAnswer_217
        · refine v_iconst B (v := iI 1) dX12_isAnswer_212 rfl ?_
          refine v_goto B (tgt := 217) dX12_isAnswer_213 (by decide +kernel) ?_
          exact hend 1 _ _ ⟨by omega, by omega⟩ (fun q => RowsOk.mk h62 e65 (by omega) e68 r69 ⟨fun q => by omega, fun q => by omega, fun q => by first | omega | exact ⟨by omega, (po76 (by omega)).1, (po76 (by omega)).2.2⟩, fun q => by first | omega | exact ⟨by omega, (po76 (by omega)).1, (po76 (by omega)).2.2⟩⟩) dX12_isAnswer_217
    | 15, o15, x16 =>
      replace o15 : o13 = 239 := by simp at o15; omega
      obtain rfl : g14 = 240 := by omega
      refine v_iconst B (v := iI 1) dX12_isAnswer_240 rfl ?_
      exact hend 1 _ _ ⟨by omega, by omega⟩ (fun q _ _ _ _ _ _ _ _ _ _ => ⟨fun q => by omega, fun q => by omega, fun q => by omega, fun q => by omega⟩) dX12_isAnswer_241
    | 16, o15, x16 =>
      replace o15 : o13 = 228 := by simp at o15; omega
      obtain rfl : g14 = 229 := by omega
      refine v_iload_n B dX12_isAnswer_229 rfl rfl ?_
      refine v_iconst B (v := iI 1) dX12_isAnswer_230 rfl ?_
      refine u_icmp_ne B (tgt := 238) (by omega) (by omega) dX12_isAnswer_231 (by decide +kernel) (fun c78 => ?_) (fun c78 => ?_)
      · refine v_iconst B (v := iI 0) dX12_isAnswer_238 rfl ?_
        exact hend 0 _ _ ⟨by omega, by omega⟩ (fun q => by omega) dX12_isAnswer_239
      · refine v_iconst B (v := iI 1) dX12_isAnswer_234 rfl ?_
        refine v_goto B (tgt := 239) dX12_isAnswer_235 (by decide +kernel) ?_
        exact hend 1 _ _ ⟨by omega, by omega⟩ (fun q _ _ _ _ _ _ _ _ _ _ => ⟨fun q => by omega, fun q => by omega, fun q => by omega, fun q => by omega⟩) dX12_isAnswer_239
    | 17, o15, x16 =>
      replace o15 : o13 = 239 := by simp at o15; omega
      obtain rfl : g14 = 240 := by omega
      refine v_iconst B (v := iI 1) dX12_isAnswer_240 rfl ?_
      exact hend 1 _ _ ⟨by omega, by omega⟩ (fun q _ _ _ _ _ _ _ _ _ _ => ⟨fun q => by omega, fun q => by omega, fun q => by omega, fun q => by omega⟩) dX12_isAnswer_241
    | 18, o15, x16 =>
      replace o15 : o13 = 239 := by simp at o15; omega
      obtain rfl : g14 = 240 := by omega
      refine v_iconst B (v := iI 1) dX12_isAnswer_240 rfl ?_
      exact hend 1 _ _ ⟨by omega, by omega⟩ (fun q _ _ _ _ _ _ _ _ _ _ => ⟨fun q => by omega, fun q => by omega, fun q => by omega, fun q => by omega⟩) dX12_isAnswer_241
    | 19, o15, x16 =>
      replace o15 : o13 = 239 := by simp at o15; omega
      obtain rfl : g14 = 240 := by omega
      refine v_iconst B (v := iI 1) dX12_isAnswer_240 rfl ?_
      exact hend 1 _ _ ⟨by omega, by omega⟩ (fun q _ _ _ _ _ _ _ _ _ _ => ⟨fun q => by omega, fun q => by omega, fun q => by omega, fun q => by omega⟩) dX12_isAnswer_241
    | 20, o15, x16 =>
      replace o15 : o13 = 217 := by simp at o15; omega
      obtain rfl : g14 = 218 := by omega
      refine v_iload_n B dX12_isAnswer_218 rfl rfl ?_
      refine v_iconst B (v := iI 5) dX12_isAnswer_219 rfl ?_
      refine u_icmp_lt B (tgt := 227) (by omega) (by omega) dX12_isAnswer_220 (by decide +kernel) (fun c79 => ?_) (fun c79 => ?_)
      · refine v_iconst B (v := iI 0) dX12_isAnswer_227 rfl ?_
        exact hend 0 _ _ ⟨by omega, by omega⟩ (fun q => by omega) dX12_isAnswer_228
      · refine v_iconst B (v := iI 1) dX12_isAnswer_223 rfl ?_
        refine v_goto B (tgt := 228) dX12_isAnswer_224 (by decide +kernel) ?_
        exact hend 1 _ _ ⟨by omega, by omega⟩ (fun q _ _ _ _ _ _ _ _ _ _ => ⟨fun q => by omega, fun q => by omega, fun q => by omega, fun q => by omega⟩) dX12_isAnswer_228
    | 21, o15, x16 =>
      replace o15 : o13 = 239 := by simp at o15; omega
      obtain rfl : g14 = 240 := by omega
      refine v_iconst B (v := iI 1) dX12_isAnswer_240 rfl ?_
      exact hend 1 _ _ ⟨by omega, by omega⟩ (fun q _ _ _ _ _ _ _ _ _ _ => ⟨fun q => by omega, fun q => by omega, fun q => by omega, fun q => by omega⟩) dX12_isAnswer_241
    | 22, o15, x16 =>
      replace o15 : o13 = 228 := by simp at o15; omega
      obtain rfl : g14 = 229 := by omega
      refine v_iload_n B dX12_isAnswer_229 rfl rfl ?_
      refine v_iconst B (v := iI 1) dX12_isAnswer_230 rfl ?_
      refine u_icmp_ne B (tgt := 238) (by omega) (by omega) dX12_isAnswer_231 (by decide +kernel) (fun c80 => ?_) (fun c80 => ?_)
      · refine v_iconst B (v := iI 0) dX12_isAnswer_238 rfl ?_
        exact hend 0 _ _ ⟨by omega, by omega⟩ (fun q => by omega) dX12_isAnswer_239
      · refine v_iconst B (v := iI 1) dX12_isAnswer_234 rfl ?_
        refine v_goto B (tgt := 239) dX12_isAnswer_235 (by decide +kernel) ?_
        exact hend 1 _ _ ⟨by omega, by omega⟩ (fun q _ _ _ _ _ _ _ _ _ _ => ⟨fun q => by omega, fun q => by omega, fun q => by omega, fun q => by omega⟩) dX12_isAnswer_239
    | i12 + 23, o15, x16 => exact absurd (o15.symm.trans (Array.getElem?_eq_none (by simp))) (by simp)
  · intro x16
    have rx16 := tswD x16 (by decide +kernel) (tswM (by decide +kernel))
    refine v_iconst B (v := iI 1) dX12_isAnswer_240 rfl ?_
    exact hend 1 _ _ ⟨by omega, by omega⟩ (fun q _ _ _ _ _ _ _ _ _ _ => ⟨fun q => by omega, fun q => by omega, fun q => by omega, fun q => by omega⟩) dX12_isAnswer_241
set_option maxRecDepth 100000 in
theorem c_M_isAnswer (l : Launch) (D : va_G) (K : Nat → ClassId) {τ : Nat → Option Ty} {dom : List Nat} (Z : Sk τ dom) (zb zL : Nat) (zx : Nat → Int32) (zs : Nat → Nat) (h : Nat) (q : Nat → Nat) (Y : MS τ h q) (x1 : Int) (x2 : Int) (r_x1 : 0 ≤ x1 ∧ x1 ≤ 255) (r_x2 : -4 ≤ x2 ∧ x2 ≤ 92) (σ0 : Nat → va_E) (G0 : GT K h q σ0) : MZ l yX12_isAnswer wp_M_isAnswer ({ frames := 1, cells := 0, slots := 0, locals := 23 }) D (tysA K) [.ref h, .int (iI x1), .int (iI x2)] (fd dom σ0) zb zL zx zs (Qi D (fun r σ' => σ0 = σ' ∧ ∃ z : Int, r = iI z ∧ (0 ≤ z ∧ z ≤ 1) ∧ (z = 1 → RowsOk σ0 (q 91) x1 x2)) (fun σ' => fd dom σ')) 0 0 := by
  refine mz_of (cc := cX12_isAnswer) (maxL := 3) (ret := (some .boolean)) (by decide +kernel) rfl (Nat.le_of_ble_eq_true rfl) ?_
  intro p e s m below meth c A B hr hlk _ hz
  exact b_M_isAnswer ⟨Nat.le_refl _, Nat.le_refl _⟩ B Z hz h q Y x1 x2 r_x1 r_x2 σ0 G0 (fun z lv pc hZ hP hd => v_zret B hr hlk (nar01 (by omega)) σ0 ⟨rfl, z, rfl, hZ, hP⟩ rfl (Nat.le_refl _) (Nat.le_refl _) hd)

def wp_M_rows : List Cond := .code yX12_rows cX12_rows 11 none :: (([.methodLink RX12 621 yX12_ends, .instanceMethod yX12_ends, .selects RX12 yX12_ends yX12_ends, .initialized RX12, .code yX12_ends cX12_ends 3 none, .fieldLink RX12 365 "LowEnergyModel" "job" "[I", .methodLink RX12 504 yX12_complete_, .instanceMethod yX12_complete_, .selects RX12 yX12_complete_ yX12_complete_, .code yX12_complete_ cX12_complete_ 6 none, .fieldLink RX12 10 "LowEnergyModel" "tape" "[B", .methodLink RX12 409 yX12_complete, .instanceMethod yX12_complete, .selects RX12 yX12_complete yX12_complete, .code yX12_complete cX12_complete 11 none, .fieldLink RX12 155 "LowEnergyModel" "kept" "[I", .fieldLink RX12 158 "LowEnergyModel" "keptMany" "[I", .methodLink RX12 404 Lib.Math.min.name, .static Lib.Math.min.name, .initialized "java/lang/Math", .code Lib.Math.min.name Lib.Math.min.code 2 (some .int), .fieldLink RX12 161 "LowEnergyModel" "notKept" "[I", .methodLink RX12 630 yX12_asksFor, .instanceMethod yX12_asksFor, .selects RX12 yX12_asksFor yX12_asksFor, .code yX12_asksFor cX12_asksFor 3 none, .methodLink RX12 606 yX12_request, .instanceMethod yX12_request, .selects RX12 yX12_request yX12_request, .code yX12_request cX12_request 4 none, .fieldLink RX12 290 "LowEnergyModel" "said" "[B", .fieldLink RX12 374 "LowEnergyModel" "due" "[I", .methodLink RX12 527 yX12_says, .instanceMethod yX12_says, .selects RX12 yX12_says yX12_says, .code yX12_says cX12_says 5 none, .fieldLink RX12 275 "LowEnergyModel" "messages" "[I", .fieldLink RX12 266 "LowEnergyModel" "message" "[B", .methodLink RX12 432 yX12_number, .static yX12_number, .code yX12_number cX12_number 6 none, .methodLink RX12 29 yX12_copy, .static yX12_copy, .code yX12_copy cX12_copy 6 none, .fieldLink RX12 272 "LowEnergyModel" "messageMany" "[I", .fieldLink RX12 377 "LowEnergyModel" "place" "[I", .fieldLink RX12 380 "LowEnergyModel" "jobMany" "[I", .fieldLink RX12 335 "LowEnergyModel" "ownMtu" "[I", .constantLong RX12 609 (65535), .constantLong RX12 611 (10240), .fieldLink RX12 383 "LowEnergyModel" "jobBytes" "[B", .fieldLink RX12 371 "LowEnergyModel" "jobB" "[I", .constantLong RX12 613 (10243), .fieldLink RX12 368 "LowEnergyModel" "jobA" "[I", .methodLink RX12 615 yX12_asksToWrite, .instanceMethod yX12_asksToWrite, .selects RX12 yX12_asksToWrite yX12_asksToWrite, .code yX12_asksToWrite cX12_asksToWrite 3 none, .fieldLink RX12 332 "LowEnergyModel" "mtu" "[I", .constant RX12 493 (65535), .fieldLink RX12 293 "LowEnergyModel" "asks" "[B", .methodLink RX12 489 yX12_two, .static yX12_two, .code yX12_two cX12_two 2 (some .int)] : List Cond) ++ (wsX120 ++ ([])))
theorem hi_M_rows_X12 : ∀ x ∈ u_ws RX12 TX12 123, x ∈ wp_M_rows := fun _ h => List.mem_cons_of_mem _ (List.mem_append_right _ (List.mem_append_left _ h))
set_option maxRecDepth 100000 in
theorem gd_M_rows_M_ends_621 : GoodIn wp_M_rows (wsV RX12 621 RX12 yX12_ends wp_M_ends) := goodIn_app (goodIn_r _ [1, 2, 3, 4] rfl rfl) (goodIn_ca (goodIn_r _ [5, 6, 7, 8, 9, 4, 10, 11, 12, 13, 14, 15, 16, 17, 18, 19, 20, 21, 22] rfl rfl) (goodIn_app (goodIn_cls hi_M_rows_X12 gw_X12) (goodIn_nil)))
set_option maxRecDepth 100000 in
theorem gd_M_rows_M_asksFor_630 : GoodIn wp_M_rows (wsV RX12 630 RX12 yX12_asksFor wp_M_asksFor) := goodIn_app (goodIn_r _ [23, 24, 25, 4] rfl rfl) (goodIn_ca (goodIn_r _ [26, 27, 28, 29, 4, 30, 31, 32, 33, 34, 35, 36, 37, 38, 39, 40, 41, 42, 43, 44, 45, 46, 6, 47, 48, 49, 50, 51, 52, 53, 54, 55, 56, 57, 58, 59, 18, 19, 20, 21] rfl rfl) (goodIn_app (goodIn_cls hi_M_rows_X12 gw_X12) (goodIn_nil)))
set_option maxRecDepth 100000 in
theorem gd_M_rows_M_complete_409 : GoodIn wp_M_rows (wsV RX12 409 RX12 yX12_complete wp_M_complete) := goodIn_app (goodIn_r _ [12, 13, 14, 4] rfl rfl) (goodIn_ca (goodIn_r _ [15, 16, 17, 18, 19, 20, 21, 22] rfl rfl) (goodIn_app (goodIn_cls hi_M_rows_X12 gw_X12) (goodIn_nil)))
set_option maxRecDepth 100000 in
theorem gd_M_rows_M_two_489 : GoodIn wp_M_rows (va_wsS RX12 489 yX12_two wp_M_two) := goodIn_app (goodIn_r _ [62, 63, 4] rfl rfl) (goodIn_ca (goodIn_r _ [64] rfl rfl) (goodIn_nil))
set_option maxHeartbeats 4000000 in
set_option maxRecDepth 100000 in
theorem b_M_rows {p : Program} {l : Launch} {e : Env} {R : Room} {s : State} {m : MethodId} {args : Array Value} {below : List Frame} {meth : Method} {c : Code} {D : va_G} {K : Nat → ClassId} {A : Nat → Prop} {Q : State → Prop} {τ : Nat → Option Ty} {dom : List Nat} {zb zL : Nat} {zx : Nat → Int32} {zs : Nat → Nat} (hR : 5 ≤ R.frames ∧ 116 ≤ R.locals) (B : Bx p s m args c cX12_rows 11 RX12 wp_M_rows D (tysA K) A) (Z : Sk τ dom) (hz : ZL zb zL zx zs A s s.heap) (h : Nat) (q : Nat → Nat) (Y : MS τ h q) (d : Int) (x2 : Int) (x3 : Int) (r_d : 0 ≤ d ∧ d ≤ 1) (r_x2 : 0 ≤ x2 ∧ x2 ≤ 255) (r_x3 : -4 ≤ x3 ∧ x3 ≤ 92) (σ0 : Nat → va_E) (G0 : GM K h q σ0) (hM : At σ0 (q 85) (d : Int).toNat (0) (7)) (hro : RowsOk σ0 (q 91) x2 x3) (ho2 : x2 = 5 ∨ x2 = 7 ∨ x2 = 9 ∨ x2 = 17) (hend : ∀ (σ' : Nat → va_E) (lv : List (Nat × Value)) (pc : Nat), GM K h q σ' → Fr τ [(145, 0), (144, 0), (146, 0), (216, 0), (190, 0), (219, 0), (182, 0), (184, 0), (185, 0), (220, 0)] σ0 σ' → decode cX12_rows pc = .ok (.return_, 1) → V p l e R s m args below meth c 11 D A Q (0, 0) (fd dom σ') lv pc []) : V p l e R s m args below meth c 11 D A Q (0, 0) (fd dom σ0) [(0, .ref h), (1, .int (iI d)), (2, .int (iI x2)), (3, .int (iI x3))] 0 [] := by
  have F0 : Fr τ [(145, 0), (144, 0), (146, 0), (216, 0), (190, 0), (219, 0), (182, 0), (184, 0), (185, 0), (220, 0)] σ0 σ0 := Fr.rf
  obtain ⟨z1, z2, z3, z4, z5, h6, r7, r8, r9, r10, r11⟩ := G0.t.o
  obtain ⟨f12, h13, e14⟩ := ga_85 G0.t
  obtain ⟨z15, e16, r17⟩ := e14 (d : Int).toNat
  have r18 := hM.use h13 e16 (by omega)
  obtain ⟨f19, h20, e21⟩ := ga_91 G0.t
  obtain ⟨z22, e23, r24⟩ := e21 (1 : Int).toNat
  have J185 : ∀ (σ_185 : Nat → va_E) (z185_6 : Int) (z185_s0 : Int), GM K h q σ_185 → Fr τ [(145, 0), (144, 0), (146, 0), (216, 0), (190, 0), (219, 0), (182, 0), (184, 0), (185, 0), (220, 0)] σ0 σ_185 → (σ_185 (q 85) = .inl (K 0, 2, .inl f12)) → (σ_185 (q 91) = .inl (K 2, 96, .inl f19)) → (σ_185 h = .inr (12, fsM q (iI z1) (iI z2) (iI z3) (iI z4) (iI z5))) → (0 ≤ z185_6 ∧ z185_6 ≤ 65535) → (-2147483648 ≤ z185_s0 ∧ z185_s0 ≤ 2147483647) → V p l e R s m args below meth c 11 D A Q (0, 0) (fd dom σ_185) [(0, .ref h), (1, .int (iI d)), (6, .int (iI z185_6))] 185 [.int (iI z185_s0)] := by
    intro σ_185 z185_6 z185_s0 G_185 F_185 hc185_q85 hc185_q91 hc185_h r185_6 r185_s0
    refine v_istore B (lv' := [(7, .int (iI z185_s0)), (0, .ref h), (1, .int (iI d)), (6, .int (iI z185_6))]) dX12_rows_185 (by decide +kernel) rfl ?_
    refine v_iload B dX12_rows_187 rfl ?_
    refine v_iload B dX12_rows_189 rfl ?_
    refine u_icmp_ge B (tgt := 206) (by omega) (by omega) dX12_rows_191 (by decide +kernel) (fun c25 => ?_) (fun c25 => ?_)
    · refine v_aload_n B dX12_rows_206 rfl rfl ?_
      refine v_iload_n B dX12_rows_207 rfl rfl ?_
      refine u_callVv B Z hz (n := 1) (As := [.int (iI d)]) (rest := []) (c_M_ends l D K Z _ _ _ _ h q Y d ⟨by omega, by omega⟩ σ_185 G_185) gd_M_rows_M_ends_621 rfl rfl rfl (by decide +kernel) ⟨Nat.le_trans (by decide +kernel) hR.1, Nat.le_trans (by decide +kernel) hR.2⟩ Y.o (clsM G_185.t) rfl rfl rfl rfl (Nat.le_of_ble_eq_true rfl) dX12_rows_208 ⟨Nat.zero_le _, Nat.zero_le _⟩ (fun σ26 p27 => ?_)
      obtain ⟨G29, F30⟩ := p27
      have F31 := F_185.call F30 (by first | rfl | simp)
      exact hend σ26 _ _ G29 F31 dX12_rows_211
    · refine v_aload_n B dX12_rows_194 rfl rfl ?_
      refine v_iload_n B dX12_rows_195 rfl rfl ?_
      refine v_iload B dX12_rows_196 rfl ?_
      refine v_iconst B (v := iI 1) dX12_rows_198 rfl ?_
      refine v_iadd B (v := iI (z185_6 + 1)) dX12_rows_199 ((iI_add _ _).trans (congrArg iI (by omega))) ?_
      refine u_callVv B Z hz (n := 2) (As := [.int (iI d), .int (iI (z185_6 + 1))]) (rest := []) (c_M_asksFor l D K Z _ _ _ _ h q Y d (z185_6 + 1) ⟨by omega, by omega⟩ ⟨by omega, by omega⟩ σ_185 G_185 (At.mk hc185_q85 e16 (by omega) ⟨by omega, by omega⟩)) gd_M_rows_M_asksFor_630 rfl rfl rfl (by decide +kernel) ⟨Nat.le_trans (by decide +kernel) hR.1, Nat.le_trans (by decide +kernel) hR.2⟩ Y.o (clsM G_185.t) rfl rfl rfl rfl (Nat.le_of_ble_eq_true rfl) dX12_rows_200 ⟨Nat.zero_le _, Nat.zero_le _⟩ (fun σ32 p33 => ?_)
      obtain ⟨G35, F36⟩ := p33
      have F37 := F_185.call F36 (by first | rfl | simp)
      refine v_goto B (tgt := 211) dX12_rows_203 (by decide +kernel) ?_
      exact hend σ32 _ _ G35 F37 dX12_rows_211
  have J173 : ∀ (σ_173 : Nat → va_E) (z173_6 : Int), GM K h q σ_173 → Fr τ [(145, 0), (144, 0), (146, 0), (216, 0), (190, 0), (219, 0), (182, 0), (184, 0), (185, 0), (220, 0)] σ0 σ_173 → (σ_173 (q 85) = .inl (K 0, 2, .inl f12)) → (σ_173 (q 91) = .inl (K 2, 96, .inl f19)) → (σ_173 h = .inr (12, fsM q (iI z1) (iI z2) (iI z3) (iI z4) (iI z5))) → (7 ≤ x2 ∧ x2 ≤ 17) → (0 ≤ z173_6 ∧ z173_6 ≤ 65535) → V p l e R s m args below meth c 11 D A Q (0, 0) (fd dom σ_173) [(0, .ref h), (1, .int (iI d)), (6, .int (iI z173_6))] 173 [] := by
    intro σ_173 z173_6 G_173 F_173 hc173_q85 hc173_q91 hc173_h rv173_x2 r173_6
    refine v_ldcw B (v := iI 65535) (u_ci (List.mem_of_getElem? (i := 60) rfl) (by decide +kernel)) dX12_rows_173 ?_
    refine v_goto B (tgt := 185) dX12_rows_176 (by decide +kernel) ?_
    exact J185 σ_173 z173_6 65535 G_173 F_173 hc173_q85 hc173_q91 hc173_h ⟨by omega, by omega⟩ ⟨by omega, by omega⟩
  have J47 : ∀ (k47 : Nat) (σ_47 : Nat → va_E) (z47_5 : Int) (z47_6 : Int) (z47_7 : Int), (1000 - z47_7).toNat ≤ k47 → GM K h q σ_47 → Fr τ [(145, 0), (144, 0), (146, 0), (216, 0), (190, 0), (219, 0), (182, 0), (184, 0), (185, 0), (220, 0)] σ0 σ_47 → (σ_47 (q 85) = .inl (K 0, 2, .inl f12)) → (σ_47 (q 91) = .inl (K 2, 96, .inl f19)) → (σ_47 h = .inr (12, fsM q (iI z1) (iI z2) (iI z3) (iI z4) (iI z5))) → (2 ≤ z47_5 ∧ z47_5 ≤ 255) → (0 ≤ z47_6 ∧ z47_6 ≤ 65535) → (1 ≤ z47_7 ∧ z47_7 ≤ 92) → (((x2 = 9 ∨ 4 ≤ z47_5) ∧ 2 ≤ z47_5 ∧ (x3 + (-1) * z47_7) % z47_5 = 0)) → V p l e R s m args below meth c 11 D A Q (0, 0) (fd dom σ_47) [(0, .ref h), (1, .int (iI d)), (2, .int (iI x2)), (3, .int (iI x3)), (5, .int (iI z47_5)), (6, .int (iI z47_6)), (7, .int (iI z47_7))] 47 [] := by
    intro k47
    induction k47 with
    | zero => intro σ_47 z47_5 z47_6 z47_7 m47 G_47 F_47 hc47_q85 hc47_q91 hc47_h r47_5 r47_6 r47_7 i47; omega
    | succ k47 IH47 =>
      intro σ_47 z47_5 z47_6 z47_7 m47 G_47 F_47 hc47_q85 hc47_q91 hc47_h r47_5 r47_6 r47_7 i47
      have J149 : ∀ (σ_149 : Nat → va_E) (z149_s0 : Int), GM K h q σ_149 → Fr τ [(145, 0), (144, 0), (146, 0), (216, 0), (190, 0), (219, 0), (182, 0), (184, 0), (185, 0), (220, 0)] σ0 σ_149 → (σ_149 (q 85) = .inl (K 0, 2, .inl f12)) → (σ_149 (q 91) = .inl (K 2, 96, .inl f19)) → (σ_149 h = .inr (12, fsM q (iI z1) (iI z2) (iI z3) (iI z4) (iI z5))) → (2 ≤ x3 ∧ x3 ≤ 92) → (1 ≤ z47_7 ∧ z47_7 ≤ 91) → (0 ≤ z149_s0 ∧ z149_s0 ≤ 65535) → (((z47_7 + z47_5 ≤ x3 ∧ 2 ≤ z47_5 ∧ (x2 = 9 ∨ 4 ≤ z47_5)) ∧ (x3 + (-1) * (z47_7 + z47_5)) % z47_5 = 0)) → V p l e R s m args below meth c 11 D A Q (0, 0) (fd dom σ_149) [(0, .ref h), (1, .int (iI d)), (2, .int (iI x2)), (3, .int (iI x3)), (5, .int (iI z47_5)), (7, .int (iI z47_7))] 149 [.int (iI z149_s0)] := by
        intro σ_149 z149_s0 G_149 F_149 hc149_q85 hc149_q91 hc149_h rv149_x3 rv149_z47_7 r149_s0 i149
        have r38 := i149
        refine v_istore B (lv' := [(6, .int (iI z149_s0)), (0, .ref h), (1, .int (iI d)), (2, .int (iI x2)), (3, .int (iI x3)), (5, .int (iI z47_5)), (7, .int (iI z47_7))]) dX12_rows_149 (by decide +kernel) rfl ?_
        refine v_iload B dX12_rows_151 rfl ?_
        refine v_iload B dX12_rows_153 rfl ?_
        refine v_iadd B (v := iI (z47_7 + z47_5)) dX12_rows_155 ((iI_add _ _).trans (congrArg iI (by omega))) ?_
        refine v_istore B (lv' := [(7, .int (iI (z47_7 + z47_5))), (6, .int (iI z149_s0)), (0, .ref h), (1, .int (iI d)), (2, .int (iI x2)), (3, .int (iI x3)), (5, .int (iI z47_5))]) dX12_rows_156 (by decide +kernel) rfl ?_
        refine v_goto B (tgt := 47) dX12_rows_158 (by decide +kernel) ?_
        refine v_lv [2, 3, 4, 5, 6, 1, 0] rfl ?_
        exact IH47 σ_149 z47_5 z149_s0 (z47_7 + z47_5) (by omega) G_149 F_149 hc149_q85 hc149_q91 hc149_h ⟨by omega, by omega⟩ ⟨by omega, by omega⟩ ⟨by omega, by omega⟩ ((⟨by omega, by omega, by first | assumption | omega | exact rfl⟩))
      have J142 : ∀ (σ_142 : Nat → va_E) (z142_9 : Int), GM K h q σ_142 → Fr τ [(145, 0), (144, 0), (146, 0), (216, 0), (190, 0), (219, 0), (182, 0), (184, 0), (185, 0), (220, 0)] σ0 σ_142 → (σ_142 (q 85) = .inl (K 0, 2, .inl f12)) → (σ_142 (q 91) = .inl (K 2, 96, .inl f19)) → (σ_142 h = .inr (12, fsM q (iI z1) (iI z2) (iI z3) (iI z4) (iI z5))) → (7 ≤ x2 ∧ x2 ≤ 17) → (2 ≤ x3 ∧ x3 ≤ 92) → (1 ≤ z47_7 ∧ z47_7 ≤ 91) → (0 ≤ z142_9 ∧ z142_9 ≤ 65535) → (((z47_7 + z47_5 ≤ x3 ∧ 2 ≤ z47_5 ∧ (x2 = 9 ∨ 4 ≤ z47_5)) ∧ (x3 + (-1) * (z47_7 + z47_5)) % z47_5 = 0)) → V p l e R s m args below meth c 11 D A Q (0, 0) (fd dom σ_142) [(0, .ref h), (1, .int (iI d)), (2, .int (iI x2)), (3, .int (iI x3)), (5, .int (iI z47_5)), (7, .int (iI z47_7)), (9, .int (iI z142_9))] 142 [] := by
        intro σ_142 z142_9 G_142 F_142 hc142_q85 hc142_q91 hc142_h rv142_x2 rv142_x3 rv142_z47_7 r142_9 i142
        have r39 := i142
        refine v_iload B dX12_rows_142 rfl ?_
        refine v_goto B (tgt := 149) dX12_rows_144 (by decide +kernel) ?_
        refine v_lv [0, 1, 2, 3, 4, 5] rfl ?_
        exact J149 σ_142 z142_9 G_142 F_142 hc142_q85 hc142_q91 hc142_h ⟨by omega, by omega⟩ ⟨by omega, by omega⟩ ⟨by omega, by omega⟩ ((⟨by omega, by first | assumption | omega⟩))
      have J98 : ∀ (z98_8 : Int) (z98_9 : Int) (z98_s0 : Int), (2 ≤ x3 ∧ x3 ≤ 92) → (1 ≤ z47_7 ∧ z47_7 ≤ 91) → (0 ≤ z98_8 ∧ z98_8 ≤ 65535) → (0 ≤ z98_9 ∧ z98_9 ≤ 65535) → (2 ≤ z98_s0 ∧ z98_s0 ≤ 4) → (((z47_7 + z47_5 ≤ x3 ∧ 2 ≤ z47_5 ∧ (x2 = 9 ∨ 4 ≤ z47_5)) ∧ (x3 + (-1) * (z47_7 + z47_5)) % z47_5 = 0)) → V p l e R s m args below meth c 11 D A Q (0, 0) (fd dom σ_47) [(0, .ref h), (1, .int (iI d)), (2, .int (iI x2)), (3, .int (iI x3)), (5, .int (iI z47_5)), (7, .int (iI z47_7)), (8, .int (iI z98_8)), (9, .int (iI z98_9))] 98 [.int (iI z98_s0)] := by
        intro z98_8 z98_9 z98_s0 rv98_x3 rv98_z47_7 r98_8 r98_9 r98_s0 i98
        have r40 := i98
        refine v_istore B (lv' := [(10, .int (iI z98_s0)), (0, .ref h), (1, .int (iI d)), (2, .int (iI x2)), (3, .int (iI x3)), (5, .int (iI z47_5)), (7, .int (iI z47_7)), (8, .int (iI z98_8)), (9, .int (iI z98_9))]) dX12_rows_98 (by decide +kernel) rfl ?_
        refine v_aload_n B dX12_rows_100 rfl rfl ?_
        refine v_iload_n B dX12_rows_101 rfl rfl ?_
        refine v_aload_n B dX12_rows_102 rfl rfl ?_
        refine u_get B Z (C := RX12) (T := TX12) (N := 123) (ci := 12) hi_M_rows_X12 Y.o hc47_h rfl 116 (by decide +kernel) (List.mem_of_getElem? (i := 6) rfl) rfl dX12_rows_103 ?_
        refine v_iload_n B dX12_rows_106 rfl rfl ?_
        obtain ⟨f41, h42, e43⟩ := ga_116 G_47.t
        obtain ⟨z44, e45, r46⟩ := e43 (d : Int).toNat
        refine u_iald B Z (t0 := 0) (ym_116 Y) h42 rfl (by omega) e45 dX12_rows_107 ?_
        refine v_iload B dX12_rows_108 rfl ?_
        refine v_iload B dX12_rows_110 rfl ?_
        refine v_iconst B (v := iI 0) dX12_rows_112 rfl ?_
        refine v_aload_n B dX12_rows_113 rfl rfl ?_
        refine u_get B Z (C := RX12) (T := TX12) (N := 123) (ci := 12) hi_M_rows_X12 Y.o hc47_h rfl 91 (by decide +kernel) (List.mem_of_getElem? (i := 61) rfl) rfl dX12_rows_114 ?_
        refine v_iload B dX12_rows_117 rfl ?_
        refine v_iload B dX12_rows_119 rfl ?_
        refine v_iadd B (v := iI (z47_7 + z98_s0)) dX12_rows_121 ((iI_add _ _).trans (congrArg iI (by omega))) ?_
        refine v_iload B dX12_rows_122 rfl ?_
        refine v_iload B dX12_rows_124 rfl ?_
        refine v_isub B (v := iI (z47_5 + (-1) * z98_s0)) dX12_rows_126 ((iI_sub _ _).trans (congrArg iI (by omega))) ?_
        refine u_callVv B Z hz (n := 8) (As := [.int (iI d), .int (iI z44), .int (iI z98_8), .int (iI z98_9), .int (iI 0), .ref (q 91), .int (iI (z47_7 + z98_s0)), .int (iI (z47_5 + (-1) * z98_s0))]) (rest := []) (c_M_complete l D K Z _ _ _ _ h q Y d z44 z98_8 z98_9 0 91 96 (z47_7 + z98_s0) (z47_5 + (-1) * z98_s0) ⟨by omega, by omega⟩ ⟨by omega, by omega⟩ ⟨by omega, by omega⟩ ⟨by omega, by omega⟩ ⟨by omega, by omega⟩ rfl ⟨by omega, by omega⟩ ⟨by omega, by omega⟩ σ_47 G_47 (by omega)) gd_M_rows_M_complete_409 rfl rfl rfl (by decide +kernel) ⟨Nat.le_trans (by decide +kernel) hR.1, Nat.le_trans (by decide +kernel) hR.2⟩ Y.o (clsM G_47.t) rfl rfl rfl rfl (Nat.le_of_ble_eq_true rfl) dX12_rows_127 ⟨Nat.zero_le _, Nat.zero_le _⟩ (fun σ47 p48 => ?_)
        obtain ⟨G50, F51⟩ := p48
        have F52 := F_47.call F51 (by first | rfl | simp)
        refine v_iload_n B dX12_rows_130 rfl rfl ?_
        refine v_bipush B (v := iI 17) dX12_rows_131 (by decide +kernel) ?_
        refine u_icmp_eq B (tgt := 142) (by omega) (by omega) dX12_rows_133 (by decide +kernel) (fun c53 => ?_) (fun c53 => ?_)
        · refine v_lv [1, 2, 3, 4, 5, 6, 8] rfl ?_
          have h54 := (F51 (q 85) _ (ym_85 Y) (by first | rfl | simp)).trans (hc47_q85)
          have h55 := (F51 (q 91) _ (ym_91 Y) (by first | rfl | simp)).trans (hc47_q91)
          have h56 := (F51 h _ Y.o (by first | rfl | simp)).trans (hc47_h)
          exact J142 σ47 z98_9 G50 F52 h54 h55 h56 ⟨by omega, by omega⟩ ⟨by omega, by omega⟩ ⟨by omega, by omega⟩ ⟨by omega, by omega⟩ ((⟨by omega, by first | assumption | omega⟩))
        · refine v_iload_n B dX12_rows_136 rfl rfl ?_
          refine v_bipush B (v := iI 7) dX12_rows_137 (by decide +kernel) ?_
          refine u_icmp_ne B (tgt := 147) (by omega) (by omega) dX12_rows_139 (by decide +kernel) (fun c57 => ?_) (fun c57 => ?_)
          · refine v_iload B dX12_rows_147 rfl ?_
            refine v_lv [1, 2, 3, 4, 5, 6] rfl ?_
            have h58 := (F51 (q 85) _ (ym_85 Y) (by first | rfl | simp)).trans (hc47_q85)
            have h59 := (F51 (q 91) _ (ym_91 Y) (by first | rfl | simp)).trans (hc47_q91)
            have h60 := (F51 h _ Y.o (by first | rfl | simp)).trans (hc47_h)
            exact J149 σ47 z98_8 G50 F52 h58 h59 h60 ⟨by omega, by omega⟩ ⟨by omega, by omega⟩ ⟨by omega, by omega⟩ ((⟨by omega, by first | assumption | omega⟩))
          · refine v_lv [1, 2, 3, 4, 5, 6, 8] rfl ?_
            have h61 := (F51 (q 85) _ (ym_85 Y) (by first | rfl | simp)).trans (hc47_q85)
            have h62 := (F51 (q 91) _ (ym_91 Y) (by first | rfl | simp)).trans (hc47_q91)
            have h63 := (F51 h _ Y.o (by first | rfl | simp)).trans (hc47_h)
            exact J142 σ47 z98_9 G50 F52 h61 h62 h63 ⟨by omega, by omega⟩ ⟨by omega, by omega⟩ ⟨by omega, by omega⟩ ⟨by omega, by omega⟩ ((⟨by omega, by first | assumption | omega⟩))
      have J85 : ∀ (z85_8 : Int) (z85_s0 : Int), (2 ≤ x3 ∧ x3 ≤ 92) → (1 ≤ z47_7 ∧ z47_7 ≤ 91) → (0 ≤ z85_8 ∧ z85_8 ≤ 65535) → (0 ≤ z85_s0 ∧ z85_s0 ≤ 65535) → (((z47_7 + z47_5 ≤ x3 ∧ 2 ≤ z47_5 ∧ (x2 = 9 ∨ 4 ≤ z47_5)) ∧ (x3 + (-1) * (z47_7 + z47_5)) % z47_5 = 0)) → V p l e R s m args below meth c 11 D A Q (0, 0) (fd dom σ_47) [(0, .ref h), (1, .int (iI d)), (2, .int (iI x2)), (3, .int (iI x3)), (5, .int (iI z47_5)), (7, .int (iI z47_7)), (8, .int (iI z85_8))] 85 [.int (iI z85_s0)] := by
        intro z85_8 z85_s0 rv85_x3 rv85_z47_7 r85_8 r85_s0 i85
        have r64 := i85
        refine v_istore B (lv' := [(9, .int (iI z85_s0)), (0, .ref h), (1, .int (iI d)), (2, .int (iI x2)), (3, .int (iI x3)), (5, .int (iI z47_5)), (7, .int (iI z47_7)), (8, .int (iI z85_8))]) dX12_rows_85 (by decide +kernel) rfl ?_
        refine v_iload_n B dX12_rows_87 rfl rfl ?_
        refine v_bipush B (v := iI 9) dX12_rows_88 (by decide +kernel) ?_
        refine u_icmp_ne B (tgt := 97) (by omega) (by omega) dX12_rows_90 (by decide +kernel) (fun c65 => ?_) (fun c65 => ?_)
        · refine v_iconst B (v := iI 4) dX12_rows_97 rfl ?_
          refine v_lv [1, 2, 3, 4, 5, 6, 7, 0] rfl ?_
          exact J98 z85_8 z85_s0 4 ⟨by omega, by omega⟩ ⟨by omega, by omega⟩ ⟨by omega, by omega⟩ ⟨by omega, by omega⟩ ⟨by omega, by omega⟩ ((⟨by omega, by first | assumption | omega⟩))
        · refine v_iconst B (v := iI 2) dX12_rows_93 rfl ?_
          refine v_goto B (tgt := 98) dX12_rows_94 (by decide +kernel) ?_
          refine v_lv [1, 2, 3, 4, 5, 6, 7, 0] rfl ?_
          exact J98 z85_8 z85_s0 2 ⟨by omega, by omega⟩ ⟨by omega, by omega⟩ ⟨by omega, by omega⟩ ⟨by omega, by omega⟩ ⟨by omega, by omega⟩ ((⟨by omega, by first | assumption | omega⟩))
      have r66 := i47
      refine v_iload B dX12_rows_47 rfl ?_
      refine v_iload_n B dX12_rows_49 rfl rfl ?_
      refine u_icmp_ge B (tgt := 161) (by omega) (by omega) dX12_rows_50 (by decide +kernel) (fun c67 => ?_) (fun c67 => ?_)
      · refine v_iload_n B dX12_rows_161 rfl rfl ?_
        refine v_bipush B (v := iI 17) dX12_rows_162 (by decide +kernel) ?_
        refine u_icmp_eq B (tgt := 173) (by omega) (by omega) dX12_rows_164 (by decide +kernel) (fun c68 => ?_) (fun c68 => ?_)
        · refine v_lv [0, 1, 5] rfl ?_
          exact J173 σ_47 z47_6 G_47 F_47 hc47_q85 hc47_q91 hc47_h ⟨by omega, by omega⟩ ⟨by omega, by omega⟩
        · refine v_iload_n B dX12_rows_167 rfl rfl ?_
          refine v_bipush B (v := iI 7) dX12_rows_168 (by decide +kernel) ?_
          refine u_icmp_ne B (tgt := 179) (by omega) (by omega) dX12_rows_170 (by decide +kernel) (fun c69 => ?_) (fun c69 => ?_)
          · refine v_aload_n B dX12_rows_179 rfl rfl ?_
            refine u_get B Z (C := RX12) (T := TX12) (N := 123) (ci := 12) hi_M_rows_X12 Y.o hc47_h rfl 118 (by decide +kernel) (List.mem_of_getElem? (i := 52) rfl) rfl dX12_rows_180 ?_
            refine v_iload_n B dX12_rows_183 rfl rfl ?_
            obtain ⟨f70, h71, e72⟩ := ga_118 G_47.t
            obtain ⟨z73, e74, r75⟩ := e72 (d : Int).toNat
            refine u_iald B Z (t0 := 0) (ym_118 Y) h71 rfl (by omega) e74 dX12_rows_184 ?_
            refine v_lv [0, 1, 5] rfl ?_
            exact J185 σ_47 z47_6 z73 G_47 F_47 hc47_q85 hc47_q91 hc47_h ⟨by omega, by omega⟩ ⟨by omega, by omega⟩
          · refine v_lv [0, 1, 5] rfl ?_
            exact J173 σ_47 z47_6 G_47 F_47 hc47_q85 hc47_q91 hc47_h ⟨by omega, by omega⟩ ⟨by omega, by omega⟩
      · obtain ⟨r77, r78⟩ := mod_step (n := x3) (a := z47_7) (e := z47_5) (by first | assumption | omega) (by omega) (by omega)
        refine v_aload_n B dX12_rows_53 rfl rfl ?_
        refine u_get B Z (C := RX12) (T := TX12) (N := 123) (ci := 12) hi_M_rows_X12 Y.o hc47_h rfl 91 (by decide +kernel) (List.mem_of_getElem? (i := 61) rfl) rfl dX12_rows_54 ?_
        refine v_iload B dX12_rows_57 rfl ?_
        refine u_callSi B Z hz (n := 2) (As := [.ref (q 91), .int (iI z47_7)]) (rest := []) (c_M_two l D K Z _ _ _ _ h q Y 91 96 z47_7 rfl ⟨by omega, by omega⟩ σ_47 (G_47.t) (by omega)) gd_M_rows_M_two_489 rfl rfl rfl (by decide +kernel) ⟨Nat.le_trans (by decide +kernel) hR.1, Nat.le_trans (by decide +kernel) hR.2⟩ rfl rfl (Nat.le_of_ble_eq_true rfl) dX12_rows_59 ⟨Nat.zero_le _, Nat.zero_le _⟩ (fun v81 σ79 p80 => ?_)
        obtain ⟨rfl, z82, e83, r84⟩ := p80
        subst e83
        refine v_istore B (lv' := [(8, .int (iI z82)), (0, .ref h), (1, .int (iI d)), (2, .int (iI x2)), (3, .int (iI x3)), (5, .int (iI z47_5)), (6, .int (iI z47_6)), (7, .int (iI z47_7))]) dX12_rows_62 (by decide +kernel) rfl ?_
        refine v_iload_n B dX12_rows_64 rfl rfl ?_
        refine v_bipush B (v := iI 9) dX12_rows_65 (by decide +kernel) ?_
        refine u_icmp_ne B (tgt := 74) (by omega) (by omega) dX12_rows_67 (by decide +kernel) (fun c85 => ?_) (fun c85 => ?_)
        · refine v_aload_n B dX12_rows_74 rfl rfl ?_
          refine u_get B Z (C := RX12) (T := TX12) (N := 123) (ci := 12) hi_M_rows_X12 Y.o hc47_h rfl 91 (by decide +kernel) (List.mem_of_getElem? (i := 61) rfl) rfl dX12_rows_75 ?_
          refine v_iload B dX12_rows_78 rfl ?_
          refine v_iconst B (v := iI 2) dX12_rows_80 rfl ?_
          refine v_iadd B (v := iI (z47_7 + 2)) dX12_rows_81 ((iI_add _ _).trans (congrArg iI (by omega))) ?_
          refine u_callSi B Z hz (n := 2) (As := [.ref (q 91), .int (iI (z47_7 + 2))]) (rest := []) (c_M_two l D K Z _ _ _ _ h q Y 91 96 (z47_7 + 2) rfl ⟨by omega, by omega⟩ σ_47 (G_47.t) (by omega)) gd_M_rows_M_two_489 rfl rfl rfl (by decide +kernel) ⟨Nat.le_trans (by decide +kernel) hR.1, Nat.le_trans (by decide +kernel) hR.2⟩ rfl rfl (Nat.le_of_ble_eq_true rfl) dX12_rows_82 ⟨Nat.zero_le _, Nat.zero_le _⟩ (fun v88 σ86 p87 => ?_)
          obtain ⟨rfl, z89, e90, r91⟩ := p87
          subst e90
          refine v_lv [1, 2, 3, 4, 5, 7, 0] rfl ?_
          exact J85 z82 z89 ⟨by omega, by omega⟩ ⟨by omega, by omega⟩ ⟨by omega, by omega⟩ ⟨by omega, by omega⟩ ((⟨by omega, by first | assumption | omega⟩))
        · refine v_iconst B (v := iI 0) dX12_rows_70 rfl ?_
          refine v_goto B (tgt := 85) dX12_rows_71 (by decide +kernel) ?_
          refine v_lv [1, 2, 3, 4, 5, 7, 0] rfl ?_
          exact J85 z82 0 ⟨by omega, by omega⟩ ⟨by omega, by omega⟩ ⟨by omega, by omega⟩ ⟨by omega, by omega⟩ ((⟨by omega, by first | assumption | omega⟩))
  refine v_iload_n B dX12_rows_0 rfl rfl ?_
  refine v_bipush B (v := iI 7) dX12_rows_1 (by decide +kernel) ?_
  refine u_icmp_ne B (tgt := 10) (by omega) (by omega) dX12_rows_3 (by decide +kernel) (fun c92 => ?_) (fun c92 => ?_)
  · refine v_iconst B (v := iI 2) dX12_rows_10 rfl ?_
    refine v_istore B (lv' := [(4, .int (iI 2)), (0, .ref h), (1, .int (iI d)), (2, .int (iI x2)), (3, .int (iI x3))]) dX12_rows_11 (by decide +kernel) rfl ?_
    refine v_iload_n B dX12_rows_13 rfl rfl ?_
    refine v_iconst B (v := iI 5) dX12_rows_14 rfl ?_
    refine u_icmp_eq B (tgt := 24) (by omega) (by omega) dX12_rows_15 (by decide +kernel) (fun c93 => ?_) (fun c93 => ?_)
    · refine v_iconst B (v := iI 4) dX12_rows_24 rfl ?_
      refine v_goto B (tgt := 38) dX12_rows_25 (by decide +kernel) ?_
      obtain ⟨w95, e96, r97⟩ := iI_and z22 (c := 255) (by decide) (by decide)
      have rk94 := hro _ _ _ _ _ h20 e23 (by omega) e96 r97
      have r98 : (x2 = 5 → 2 < x3 ∧ (x3 + (-1) * 2) % 4 = 0) ∧ (x2 = 7 → 1 < x3 ∧ (x3 + (-1) * 1) % 4 = 0) := ⟨rk94.1, rk94.2.1⟩
      refine v_istore B (lv' := [(5, .int (iI 4)), (4, .int (iI 2)), (0, .ref h), (1, .int (iI d)), (2, .int (iI x2)), (3, .int (iI x3))]) dX12_rows_38 (by decide +kernel) rfl ?_
      refine v_iconst B (v := iI 0) dX12_rows_40 rfl ?_
      refine v_istore B (lv' := [(6, .int (iI 0)), (5, .int (iI 4)), (4, .int (iI 2)), (0, .ref h), (1, .int (iI d)), (2, .int (iI x2)), (3, .int (iI x3))]) dX12_rows_41 (by decide +kernel) rfl ?_
      refine v_iload B dX12_rows_43 rfl ?_
      refine v_istore B (lv' := [(7, .int (iI 2)), (6, .int (iI 0)), (5, .int (iI 4)), (4, .int (iI 2)), (0, .ref h), (1, .int (iI d)), (2, .int (iI x2)), (3, .int (iI x3))]) dX12_rows_45 (by decide +kernel) rfl ?_
      refine v_lv [4, 5, 6, 7, 2, 1, 0] rfl ?_
      exact J47 _ σ0 4 0 2 (Nat.le_refl _) G0 F0 h13 h20 h6 ⟨by omega, by omega⟩ ⟨by omega, by omega⟩ ⟨by omega, by omega⟩ ((⟨by omega, by omega, by first | assumption | omega | exact rfl⟩))
    · refine v_iload_n B dX12_rows_18 rfl rfl ?_
      refine v_bipush B (v := iI 7) dX12_rows_19 (by decide +kernel) ?_
      refine u_icmp_ne B (tgt := 28) (by omega) (by omega) dX12_rows_21 (by decide +kernel) (fun c99 => ?_) (fun c99 => ?_)
      · refine v_aload_n B dX12_rows_28 rfl rfl ?_
        refine u_get B Z (C := RX12) (T := TX12) (N := 123) (ci := 12) hi_M_rows_X12 Y.o h6 rfl 91 (by decide +kernel) (List.mem_of_getElem? (i := 61) rfl) rfl dX12_rows_29 ?_
        refine v_iconst B (v := iI 1) dX12_rows_32 rfl ?_
        refine u_bald B Z (t0 := 2) (ym_91 Y) h20 rfl (by omega) e23 dX12_rows_33 ?_
        refine v_sipush B (v := iI 255) dX12_rows_34 (by decide +kernel) ?_
        obtain ⟨z100, e101, r102⟩ := iI_and z22 (c := 255) (by decide) (by decide)
        refine v_iand B (v := iI z100) dX12_rows_37 e101 ?_
        have rk103 := hro _ _ _ _ _ h20 e23 (by omega) e101 r102
        have r104 : 2 < x3 ∧ 2 ≤ z100 ∧ (x2 = 9 ∨ 4 ≤ z100) ∧ (x3 + (-1) * 2) % z100 = 0 := by rcases ho2 with q | q | q | q; (· omega); (· omega); (· exact ⟨(rk103.2.2.1 q).1, (rk103.2.2.1 q).2.1, Or.inl q, (rk103.2.2.1 q).2.2⟩); exact ⟨(rk103.2.2.2 q).1, by have := (rk103.2.2.2 q).2.1; omega, Or.inr (rk103.2.2.2 q).2.1, (rk103.2.2.2 q).2.2⟩
        have r105 := r104.2.2.2
        refine v_istore B (lv' := [(5, .int (iI z100)), (4, .int (iI 2)), (0, .ref h), (1, .int (iI d)), (2, .int (iI x2)), (3, .int (iI x3))]) dX12_rows_38 (by decide +kernel) rfl ?_
        refine v_iconst B (v := iI 0) dX12_rows_40 rfl ?_
        refine v_istore B (lv' := [(6, .int (iI 0)), (5, .int (iI z100)), (4, .int (iI 2)), (0, .ref h), (1, .int (iI d)), (2, .int (iI x2)), (3, .int (iI x3))]) dX12_rows_41 (by decide +kernel) rfl ?_
        refine v_iload B dX12_rows_43 rfl ?_
        refine v_istore B (lv' := [(7, .int (iI 2)), (6, .int (iI 0)), (5, .int (iI z100)), (4, .int (iI 2)), (0, .ref h), (1, .int (iI d)), (2, .int (iI x2)), (3, .int (iI x3))]) dX12_rows_45 (by decide +kernel) rfl ?_
        refine v_lv [4, 5, 6, 7, 2, 1, 0] rfl ?_
        exact J47 _ σ0 z100 0 2 (Nat.le_refl _) G0 F0 h13 h20 h6 ⟨by omega, by omega⟩ ⟨by omega, by omega⟩ ⟨by omega, by omega⟩ ((⟨by omega, by omega, by first | assumption | omega | exact rk103⟩))
      · refine v_iconst B (v := iI 4) dX12_rows_24 rfl ?_
        refine v_goto B (tgt := 38) dX12_rows_25 (by decide +kernel) ?_
        obtain ⟨w107, e108, r109⟩ := iI_and z22 (c := 255) (by decide) (by decide)
        have rk106 := hro _ _ _ _ _ h20 e23 (by omega) e108 r109
        have r110 : (x2 = 5 → 2 < x3 ∧ (x3 + (-1) * 2) % 4 = 0) ∧ (x2 = 7 → 1 < x3 ∧ (x3 + (-1) * 1) % 4 = 0) := ⟨rk106.1, rk106.2.1⟩
        refine v_istore B (lv' := [(5, .int (iI 4)), (4, .int (iI 2)), (0, .ref h), (1, .int (iI d)), (2, .int (iI x2)), (3, .int (iI x3))]) dX12_rows_38 (by decide +kernel) rfl ?_
        refine v_iconst B (v := iI 0) dX12_rows_40 rfl ?_
        refine v_istore B (lv' := [(6, .int (iI 0)), (5, .int (iI 4)), (4, .int (iI 2)), (0, .ref h), (1, .int (iI d)), (2, .int (iI x2)), (3, .int (iI x3))]) dX12_rows_41 (by decide +kernel) rfl ?_
        refine v_iload B dX12_rows_43 rfl ?_
        refine v_istore B (lv' := [(7, .int (iI 2)), (6, .int (iI 0)), (5, .int (iI 4)), (4, .int (iI 2)), (0, .ref h), (1, .int (iI d)), (2, .int (iI x2)), (3, .int (iI x3))]) dX12_rows_45 (by decide +kernel) rfl ?_
        refine v_lv [4, 5, 6, 7, 2, 1, 0] rfl ?_
        exact J47 _ σ0 4 0 2 (Nat.le_refl _) G0 F0 h13 h20 h6 ⟨by omega, by omega⟩ ⟨by omega, by omega⟩ ⟨by omega, by omega⟩ ((⟨by omega, by omega, by first | assumption | omega | exact rfl⟩))
  · refine v_iconst B (v := iI 1) dX12_rows_6 rfl ?_
    refine v_goto B (tgt := 11) dX12_rows_7 (by decide +kernel) ?_
    refine v_istore B (lv' := [(4, .int (iI 1)), (0, .ref h), (1, .int (iI d)), (2, .int (iI x2)), (3, .int (iI x3))]) dX12_rows_11 (by decide +kernel) rfl ?_
    refine v_iload_n B dX12_rows_13 rfl rfl ?_
    refine v_iconst B (v := iI 5) dX12_rows_14 rfl ?_
    refine u_icmp_eq B (tgt := 24) (by omega) (by omega) dX12_rows_15 (by decide +kernel) (fun c111 => by omega) (fun c111 => ?_)
    refine v_iload_n B dX12_rows_18 rfl rfl ?_
    refine v_bipush B (v := iI 7) dX12_rows_19 (by decide +kernel) ?_
    refine u_icmp_ne B (tgt := 28) (by omega) (by omega) dX12_rows_21 (by decide +kernel) (fun c112 => by omega) (fun c112 => ?_)
    refine v_iconst B (v := iI 4) dX12_rows_24 rfl ?_
    refine v_goto B (tgt := 38) dX12_rows_25 (by decide +kernel) ?_
    obtain ⟨w114, e115, r116⟩ := iI_and z22 (c := 255) (by decide) (by decide)
    have rk113 := hro _ _ _ _ _ h20 e23 (by omega) e115 r116
    have r117 : (x2 = 5 → 2 < x3 ∧ (x3 + (-1) * 2) % 4 = 0) ∧ (x2 = 7 → 1 < x3 ∧ (x3 + (-1) * 1) % 4 = 0) := ⟨rk113.1, rk113.2.1⟩
    refine v_istore B (lv' := [(5, .int (iI 4)), (4, .int (iI 1)), (0, .ref h), (1, .int (iI d)), (2, .int (iI x2)), (3, .int (iI x3))]) dX12_rows_38 (by decide +kernel) rfl ?_
    refine v_iconst B (v := iI 0) dX12_rows_40 rfl ?_
    refine v_istore B (lv' := [(6, .int (iI 0)), (5, .int (iI 4)), (4, .int (iI 1)), (0, .ref h), (1, .int (iI d)), (2, .int (iI x2)), (3, .int (iI x3))]) dX12_rows_41 (by decide +kernel) rfl ?_
    refine v_iload B dX12_rows_43 rfl ?_
    refine v_istore B (lv' := [(7, .int (iI 1)), (6, .int (iI 0)), (5, .int (iI 4)), (4, .int (iI 1)), (0, .ref h), (1, .int (iI d)), (2, .int (iI x2)), (3, .int (iI x3))]) dX12_rows_45 (by decide +kernel) rfl ?_
    refine v_lv [4, 5, 6, 7, 2, 1, 0] rfl ?_
    exact J47 _ σ0 4 0 1 (Nat.le_refl _) G0 F0 h13 h20 h6 ⟨by omega, by omega⟩ ⟨by omega, by omega⟩ ⟨by omega, by omega⟩ ((⟨by omega, by omega, by first | assumption | omega | exact rfl⟩))
set_option maxRecDepth 100000 in
theorem c_M_rows (l : Launch) (D : va_G) (K : Nat → ClassId) {τ : Nat → Option Ty} {dom : List Nat} (Z : Sk τ dom) (zb zL : Nat) (zx : Nat → Int32) (zs : Nat → Nat) (h : Nat) (q : Nat → Nat) (Y : MS τ h q) (d : Int) (x2 : Int) (x3 : Int) (r_d : 0 ≤ d ∧ d ≤ 1) (r_x2 : 0 ≤ x2 ∧ x2 ≤ 255) (r_x3 : -4 ≤ x3 ∧ x3 ≤ 92) (σ0 : Nat → va_E) (G0 : GM K h q σ0) (hM : At σ0 (q 85) (d : Int).toNat (0) (7)) (hro : RowsOk σ0 (q 91) x2 x3) (ho2 : x2 = 5 ∨ x2 = 7 ∨ x2 = 9 ∨ x2 = 17) : MZ l yX12_rows wp_M_rows ({ frames := 5, cells := 0, slots := 0, locals := 116 }) D (tysA K) [.ref h, .int (iI d), .int (iI x2), .int (iI x3)] (fd dom σ0) zb zL zx zs (Qv D (fun σ' => GM K h q σ' ∧ Fr τ [(145, 0), (144, 0), (146, 0), (216, 0), (190, 0), (219, 0), (182, 0), (184, 0), (185, 0), (220, 0)] σ0 σ') (fun σ' => fd dom σ')) 0 0 := by
  refine mz_of (cc := cX12_rows) (maxL := 11) (ret := none) (by decide +kernel) rfl (Nat.le_of_ble_eq_true rfl) ?_
  intro p e s m below meth c A B hr hlk _ hz
  exact b_M_rows ⟨Nat.le_refl _, Nat.le_refl _⟩ B Z hz h q Y d x2 x3 r_d r_x2 r_x3 σ0 G0 hM hro ho2 (fun σ' lv pc G F hd => v_vret B hr hlk σ' ⟨G, F⟩ rfl (Nat.le_refl _) (Nat.le_refl _) hd)

def wp_M_answered : List Cond := .code yX12_answered cX12_answered 6 none :: (([.fieldLink RX12 377 "LowEnergyModel" "place" "[I", .fieldLink RX12 380 "LowEnergyModel" "jobMany" "[I", .fieldLink RX12 332 "LowEnergyModel" "mtu" "[I", .fieldLink RX12 368 "LowEnergyModel" "jobA" "[I", .fieldLink RX12 383 "LowEnergyModel" "jobBytes" "[B", .methodLink RX12 409 yX12_complete, .instanceMethod yX12_complete, .selects RX12 yX12_complete yX12_complete, .initialized RX12, .code yX12_complete cX12_complete 11 none, .fieldLink RX12 155 "LowEnergyModel" "kept" "[I", .fieldLink RX12 158 "LowEnergyModel" "keptMany" "[I", .methodLink RX12 404 Lib.Math.min.name, .static Lib.Math.min.name, .initialized "java/lang/Math", .code Lib.Math.min.name Lib.Math.min.code 2 (some .int), .fieldLink RX12 161 "LowEnergyModel" "notKept" "[I", .methodLink RX12 621 yX12_ends, .instanceMethod yX12_ends, .selects RX12 yX12_ends yX12_ends, .code yX12_ends cX12_ends 3 none, .fieldLink RX12 365 "LowEnergyModel" "job" "[I", .methodLink RX12 504 yX12_complete_, .instanceMethod yX12_complete_, .selects RX12 yX12_complete_ yX12_complete_, .code yX12_complete_ cX12_complete_ 6 none, .fieldLink RX12 10 "LowEnergyModel" "tape" "[B", .methodLink RX12 630 yX12_asksFor, .instanceMethod yX12_asksFor, .selects RX12 yX12_asksFor yX12_asksFor, .code yX12_asksFor cX12_asksFor 3 none, .methodLink RX12 606 yX12_request, .instanceMethod yX12_request, .selects RX12 yX12_request yX12_request, .code yX12_request cX12_request 4 none, .fieldLink RX12 290 "LowEnergyModel" "said" "[B", .fieldLink RX12 374 "LowEnergyModel" "due" "[I", .methodLink RX12 527 yX12_says, .instanceMethod yX12_says, .selects RX12 yX12_says yX12_says, .code yX12_says cX12_says 5 none, .fieldLink RX12 275 "LowEnergyModel" "messages" "[I", .fieldLink RX12 266 "LowEnergyModel" "message" "[B", .methodLink RX12 432 yX12_number, .static yX12_number, .code yX12_number cX12_number 6 none, .methodLink RX12 29 yX12_copy, .static yX12_copy, .code yX12_copy cX12_copy 6 none, .fieldLink RX12 272 "LowEnergyModel" "messageMany" "[I", .fieldLink RX12 335 "LowEnergyModel" "ownMtu" "[I", .constantLong RX12 609 (65535), .constantLong RX12 611 (10240), .fieldLink RX12 371 "LowEnergyModel" "jobB" "[I", .constantLong RX12 613 (10243), .methodLink RX12 615 yX12_asksToWrite, .instanceMethod yX12_asksToWrite, .selects RX12 yX12_asksToWrite yX12_asksToWrite, .code yX12_asksToWrite cX12_asksToWrite 3 none, .fieldLink RX12 293 "LowEnergyModel" "asks" "[B", .methodLink RX12 489 yX12_two, .static yX12_two, .code yX12_two cX12_two 2 (some .int), .methodLink RX12 624 yX12_isAnswer, .instanceMethod yX12_isAnswer, .selects RX12 yX12_isAnswer yX12_isAnswer, .code yX12_isAnswer cX12_isAnswer 3 (some .boolean), .methodLink RX12 618 yX12_areRows, .static yX12_areRows, .code yX12_areRows cX12_areRows 4 (some .boolean), .methodLink RX12 596 Lib.Math.max.name, .static Lib.Math.max.name, .code Lib.Math.max.name Lib.Math.max.code 2 (some .int), .methodLink RX12 627 yX12_rows, .instanceMethod yX12_rows, .selects RX12 yX12_rows yX12_rows, .code yX12_rows cX12_rows 11 none, .constant RX12 493 (65535)] : List Cond) ++ (wsX120 ++ ([])))
theorem hi_M_answered_X12 : ∀ x ∈ u_ws RX12 TX12 123, x ∈ wp_M_answered := fun _ h => List.mem_cons_of_mem _ (List.mem_append_right _ (List.mem_append_left _ h))
set_option maxRecDepth 100000 in
theorem gd_M_answered_M_complete_409 : GoodIn wp_M_answered (wsV RX12 409 RX12 yX12_complete wp_M_complete) := goodIn_app (goodIn_r _ [6, 7, 8, 9] rfl rfl) (goodIn_ca (goodIn_r _ [10, 11, 12, 13, 14, 15, 16, 17] rfl rfl) (goodIn_app (goodIn_cls hi_M_answered_X12 gw_X12) (goodIn_nil)))
set_option maxRecDepth 100000 in
theorem gd_M_answered_M_ends_621 : GoodIn wp_M_answered (wsV RX12 621 RX12 yX12_ends wp_M_ends) := goodIn_app (goodIn_r _ [18, 19, 20, 9] rfl rfl) (goodIn_ca (goodIn_r _ [21, 22, 23, 24, 25, 9, 26, 27, 6, 7, 8, 10, 11, 12, 13, 14, 15, 16, 17] rfl rfl) (goodIn_app (goodIn_cls hi_M_answered_X12 gw_X12) (goodIn_nil)))
set_option maxRecDepth 100000 in
theorem gd_M_answered_M_asksFor_630 : GoodIn wp_M_answered (wsV RX12 630 RX12 yX12_asksFor wp_M_asksFor) := goodIn_app (goodIn_r _ [28, 29, 30, 9] rfl rfl) (goodIn_ca (goodIn_r _ [31, 32, 33, 34, 9, 35, 36, 37, 38, 39, 40, 41, 42, 43, 44, 45, 46, 47, 48, 49, 50, 1, 22, 2, 51, 52, 53, 5, 54, 55, 4, 56, 57, 58, 59, 3, 13, 14, 15, 16] rfl rfl) (goodIn_app (goodIn_cls hi_M_answered_X12 gw_X12) (goodIn_nil)))
set_option maxRecDepth 100000 in
theorem gd_M_answered_M_two_489 : GoodIn wp_M_answered (va_wsS RX12 489 yX12_two wp_M_two) := goodIn_app (goodIn_r _ [61, 62, 9] rfl rfl) (goodIn_ca (goodIn_r _ [63] rfl rfl) (goodIn_nil))
set_option maxRecDepth 100000 in
theorem gd_M_answered_M_complete5_504 : GoodIn wp_M_answered (wsV RX12 504 RX12 yX12_complete_ wp_M_complete5) := goodIn_app (goodIn_r _ [23, 24, 25, 9] rfl rfl) (goodIn_ca (goodIn_r _ [26, 27, 6, 7, 8, 9, 10, 11, 12, 13, 14, 15, 16, 17] rfl rfl) (goodIn_app (goodIn_cls hi_M_answered_X12 gw_X12) (goodIn_nil)))
set_option maxRecDepth 100000 in
theorem gd_M_answered_M_isAnswer_624 : GoodIn wp_M_answered (wsV RX12 624 RX12 yX12_isAnswer wp_M_isAnswer) := goodIn_app (goodIn_r _ [64, 65, 66, 9] rfl rfl) (goodIn_ca (goodIn_r _ [67, 60, 68, 69, 9, 70] rfl rfl) (goodIn_app (goodIn_cls hi_M_answered_X12 gw_X12) (goodIn_nil)))
set_option maxRecDepth 100000 in
theorem gd_M_answered_M_rows_627 : GoodIn wp_M_answered (wsV RX12 627 RX12 yX12_rows wp_M_rows) := goodIn_app (goodIn_r _ [74, 75, 76, 9] rfl rfl) (goodIn_ca (goodIn_r _ [77, 18, 19, 20, 9, 21, 22, 23, 24, 25, 26, 27, 6, 7, 8, 10, 11, 12, 13, 14, 15, 16, 17, 28, 29, 30, 31, 32, 33, 34, 35, 36, 37, 38, 39, 40, 41, 42, 43, 44, 45, 46, 47, 48, 49, 50, 1, 2, 51, 52, 53, 5, 54, 55, 4, 56, 57, 58, 59, 3, 78, 60, 61, 62, 63] rfl rfl) (goodIn_app (goodIn_cls hi_M_answered_X12 gw_X12) (goodIn_nil)))
set_option maxHeartbeats 4000000 in
set_option maxRecDepth 100000 in
theorem b_M_answered {p : Program} {l : Launch} {e : Env} {R : Room} {s : State} {m : MethodId} {args : Array Value} {below : List Frame} {meth : Method} {c : Code} {D : va_G} {K : Nat → ClassId} {A : Nat → Prop} {Q : State → Prop} {τ : Nat → Option Ty} {dom : List Nat} {zb zL : Nat} {zx : Nat → Int32} {zs : Nat → Nat} (hR : 6 ≤ R.frames ∧ 146 ≤ R.locals) (B : Bx p s m args c cX12_answered 6 RX12 wp_M_answered D (tysA K) A) (Z : Sk τ dom) (hz : ZL zb zL zx zs A s s.heap) (h : Nat) (q : Nat → Nat) (Y : MS τ h q) (d : Int) (x2 : Int) (x3 : Int) (r_d : 0 ≤ d ∧ d ≤ 1) (r_x2 : 0 ≤ x2 ∧ x2 ≤ 255) (r_x3 : -4 ≤ x3 ∧ x3 ≤ 92) (σ0 : Nat → va_E) (G0 : GM K h q σ0) (hM : At σ0 (q 85) (d : Int).toNat (0) (7)) (hend : ∀ (σ' : Nat → va_E) (lv : List (Nat × Value)) (pc : Nat), GM K h q σ' → Fr τ [(204, 0), (216, 0), (145, 0), (144, 0), (146, 0), (190, 0), (219, 0), (182, 0), (184, 0), (185, 0), (220, 0), (222, 0), (221, 0)] σ0 σ' → decode cX12_answered pc = .ok (.return_, 1) → V p l e R s m args below meth c 6 D A Q (0, 0) (fd dom σ') lv pc []) : V p l e R s m args below meth c 6 D A Q (0, 0) (fd dom σ0) [(0, .ref h), (1, .int (iI d)), (2, .int (iI x2)), (3, .int (iI x3))] 0 [] := by
  have F0 : Fr τ [(204, 0), (216, 0), (145, 0), (144, 0), (146, 0), (190, 0), (219, 0), (182, 0), (184, 0), (185, 0), (220, 0), (222, 0), (221, 0)] σ0 σ0 := Fr.rf
  obtain ⟨z1, z2, z3, z4, z5, h6, r7, r8, r9, r10, r11⟩ := G0.t.o
  obtain ⟨f12, h13, e14⟩ := ga_85 G0.t
  obtain ⟨z15, e16, r17⟩ := e14 (d : Int).toNat
  have r18 := hM.use h13 e16 (by omega)
  have J373 : ∀ (σ_373 : Nat → va_E), GM K h q σ_373 → Fr τ [(204, 0), (216, 0), (145, 0), (144, 0), (146, 0), (190, 0), (219, 0), (182, 0), (184, 0), (185, 0), (220, 0), (222, 0), (221, 0)] σ0 σ_373 → (σ_373 h = .inr (12, fsM q (iI z1) (iI z2) (iI z3) (iI z4) (iI z5))) → (11 ≤ x2 ∧ x2 ≤ 13) → (At σ_373 (q 85) (d : Int).toNat (0) (7)) → V p l e R s m args below meth c 6 D A Q (0, 0) (fd dom σ_373) [(0, .ref h), (1, .int (iI d)), (3, .int (iI x3))] 373 [] := by
    intro σ_373 G_373 F_373 hc373_h rv373_x2 i373
    obtain ⟨f19, h20, e21⟩ := ga_85 G_373.t
    obtain ⟨z22, e23, r24⟩ := e21 (d : Int).toNat
    have r25 := (i373).use h20 e23 (by omega)
    refine v_aload_n B dX12_answered_373 rfl rfl ?_
    refine u_get B Z (C := RX12) (T := TX12) (N := 123) (ci := 12) hi_M_answered_X12 Y.o hc373_h rfl 120 (by decide +kernel) (List.mem_of_getElem? (i := 1) rfl) rfl dX12_answered_374 ?_
    refine v_iload_n B dX12_answered_377 rfl rfl ?_
    refine v_aload_n B dX12_answered_378 rfl rfl ?_
    refine u_get B Z (C := RX12) (T := TX12) (N := 123) (ci := 12) hi_M_answered_X12 Y.o hc373_h rfl 121 (by decide +kernel) (List.mem_of_getElem? (i := 2) rfl) rfl dX12_answered_379 ?_
    refine v_iload_n B dX12_answered_382 rfl rfl ?_
    obtain ⟨f26, h27, e28⟩ := ga_121 G_373.t
    obtain ⟨z29, e30, r31⟩ := e28 (d : Int).toNat
    refine u_iald B Z (t0 := 0) (ym_121 Y) h27 rfl (by omega) e30 dX12_answered_383 ?_
    obtain ⟨f32, h33, e34⟩ := ga_120 G_373.t
    refine u_iast B Z (t0 := 0) (x := iI z29) (ym_120 Y) h33 rfl (by omega) dX12_answered_384 (fun σ35 h36 n37 => ?_)
    have e38 := el_upd (z := z29) e34 ⟨by omega, by omega⟩ (d : Int).toNat
    have F39 := F_373.put (ym_120 Y) (by simp) n37
    have G40 := gp_120 Y G_373 ⟨_, h36, e38⟩ n37
    refine v_iload_n B dX12_answered_385 rfl rfl ?_
    refine v_aload_n B dX12_answered_386 rfl rfl ?_
    have h41 := (n37 h (ne_ty Y.o (ym_120 Y) (by decide))).trans (hc373_h)
    refine u_get B Z (C := RX12) (T := TX12) (N := 123) (ci := 12) hi_M_answered_X12 Y.o h41 rfl 104 (by decide +kernel) (List.mem_of_getElem? (i := 3) rfl) rfl dX12_answered_387 ?_
    refine v_iload_n B dX12_answered_390 rfl rfl ?_
    obtain ⟨f42, h43, e44⟩ := ga_104 G40.t
    obtain ⟨z45, e46, r47⟩ := e44 (d : Int).toNat
    refine u_iald B Z (t0 := 0) (ym_104 Y) h43 rfl (by omega) e46 dX12_answered_391 ?_
    refine u_icmp_ne B (tgt := 404) (by omega) (by omega) dX12_answered_392 (by decide +kernel) (fun c48 => ?_) (fun c48 => ?_)
    · refine v_aload_n B dX12_answered_404 rfl rfl ?_
      refine v_iload_n B dX12_answered_405 rfl rfl ?_
      refine v_iconst B (v := iI 4) dX12_answered_406 rfl ?_
      refine v_aload_n B dX12_answered_407 rfl rfl ?_
      refine u_get B Z (C := RX12) (T := TX12) (N := 123) (ci := 12) hi_M_answered_X12 Y.o h41 rfl 117 (by decide +kernel) (List.mem_of_getElem? (i := 4) rfl) rfl dX12_answered_408 ?_
      refine v_iload_n B dX12_answered_411 rfl rfl ?_
      obtain ⟨f49, h50, e51⟩ := ga_117 G40.t
      obtain ⟨z52, e53, r54⟩ := e51 (d : Int).toNat
      refine u_iald B Z (t0 := 0) (ym_117 Y) h50 rfl (by omega) e53 dX12_answered_412 ?_
      refine v_iconst B (v := iI 0) dX12_answered_413 rfl ?_
      refine v_iconst B (v := iI 0) dX12_answered_414 rfl ?_
      refine v_aload_n B dX12_answered_415 rfl rfl ?_
      refine u_get B Z (C := RX12) (T := TX12) (N := 123) (ci := 12) hi_M_answered_X12 Y.o h41 rfl 122 (by decide +kernel) (List.mem_of_getElem? (i := 5) rfl) rfl dX12_answered_416 ?_
      refine v_bipush B (v := iI 40) dX12_answered_419 (by decide +kernel) ?_
      refine v_iload_n B dX12_answered_421 rfl rfl ?_
      refine v_imul B (v := iI (40 * d)) dX12_answered_422 ((iI_mul _ _).trans (congrArg iI (by omega))) ?_
      refine v_aload_n B dX12_answered_423 rfl rfl ?_
      refine u_get B Z (C := RX12) (T := TX12) (N := 123) (ci := 12) hi_M_answered_X12 Y.o h41 rfl 121 (by decide +kernel) (List.mem_of_getElem? (i := 2) rfl) rfl dX12_answered_424 ?_
      refine v_iload_n B dX12_answered_427 rfl rfl ?_
      have h55 := (n37 (q 121) (ne_ty (ym_121 Y) (ym_120 Y) (by decide))).trans (h27)
      refine u_iald B Z (t0 := 0) (ym_121 Y) h55 rfl (by omega) e30 dX12_answered_428 ?_
      refine u_callVv B Z hz (n := 8) (As := [.int (iI d), .int (iI 4), .int (iI z52), .int (iI 0), .int (iI 0), .ref (q 122), .int (iI (40 * d)), .int (iI z29)]) (rest := []) (c_M_complete l D K Z _ _ _ _ h q Y d 4 z52 0 0 122 80 (40 * d) z29 ⟨by omega, by omega⟩ ⟨by omega, by omega⟩ ⟨by omega, by omega⟩ ⟨by omega, by omega⟩ ⟨by omega, by omega⟩ rfl ⟨by omega, by omega⟩ ⟨by omega, by omega⟩ σ35 G40 (by omega)) gd_M_answered_M_complete_409 rfl rfl rfl (by decide +kernel) ⟨Nat.le_trans (by decide +kernel) hR.1, Nat.le_trans (by decide +kernel) hR.2⟩ Y.o (clsM G40.t) rfl rfl rfl rfl (Nat.le_of_ble_eq_true rfl) dX12_answered_429 ⟨Nat.zero_le _, Nat.zero_le _⟩ (fun σ56 p57 => ?_)
      obtain ⟨G59, F60⟩ := p57
      have F61 := F39.call F60 (by first | rfl | simp)
      refine v_aload_n B dX12_answered_432 rfl rfl ?_
      refine v_iload_n B dX12_answered_433 rfl rfl ?_
      refine u_callVv B Z hz (n := 1) (As := [.int (iI d)]) (rest := []) (c_M_ends l D K Z _ _ _ _ h q Y d ⟨by omega, by omega⟩ σ56 G59) gd_M_answered_M_ends_621 rfl rfl rfl (by decide +kernel) ⟨Nat.le_trans (by decide +kernel) hR.1, Nat.le_trans (by decide +kernel) hR.2⟩ Y.o (clsM G59.t) rfl rfl rfl rfl (Nat.le_of_ble_eq_true rfl) dX12_answered_434 ⟨Nat.zero_le _, Nat.zero_le _⟩ (fun σ62 p63 => ?_)
      obtain ⟨G65, F66⟩ := p63
      have F67 := F61.call F66 (by first | rfl | simp)
      refine v_goto B (tgt := 468) dX12_answered_437 (by decide +kernel) ?_
      exact hend σ62 _ _ G65 F67 dX12_answered_468
    · refine v_aload_n B dX12_answered_395 rfl rfl ?_
      refine v_iload_n B dX12_answered_396 rfl rfl ?_
      refine v_iconst B (v := iI 0) dX12_answered_397 rfl ?_
      have h68 := (n37 (q 85) (ne_ty (ym_85 Y) (ym_120 Y) (by decide))).trans (h20)
      refine u_callVv B Z hz (n := 2) (As := [.int (iI d), .int (iI 0)]) (rest := []) (c_M_asksFor l D K Z _ _ _ _ h q Y d 0 ⟨by omega, by omega⟩ ⟨by omega, by omega⟩ σ35 G40 (At.mk h68 e23 (by omega) ⟨by omega, by omega⟩)) gd_M_answered_M_asksFor_630 rfl rfl rfl (by decide +kernel) ⟨Nat.le_trans (by decide +kernel) hR.1, Nat.le_trans (by decide +kernel) hR.2⟩ Y.o (clsM G40.t) rfl rfl rfl rfl (Nat.le_of_ble_eq_true rfl) dX12_answered_398 ⟨Nat.zero_le _, Nat.zero_le _⟩ (fun σ69 p70 => ?_)
      obtain ⟨G72, F73⟩ := p70
      have F74 := F39.call F73 (by first | rfl | simp)
      refine v_goto B (tgt := 468) dX12_answered_401 (by decide +kernel) ?_
      exact hend σ69 _ _ G72 F74 dX12_answered_468
  have J317 : ∀ (k317 : Nat) (σ_317 : Nat → va_E) (z317_4 : Int), (2147483648 - z317_4).toNat ≤ k317 → GM K h q σ_317 → Fr τ [(204, 0), (216, 0), (145, 0), (144, 0), (146, 0), (190, 0), (219, 0), (182, 0), (184, 0), (185, 0), (220, 0), (222, 0), (221, 0)] σ0 σ_317 → (σ_317 h = .inr (12, fsM q (iI z1) (iI z2) (iI z3) (iI z4) (iI z5))) → (11 ≤ x2 ∧ x2 ≤ 13) → (1 ≤ z317_4 ∧ z317_4 ≤ 92) → (At σ_317 (q 85) (d : Int).toNat (0) (7)) → V p l e R s m args below meth c 6 D A Q (0, 0) (fd dom σ_317) [(0, .ref h), (1, .int (iI d)), (3, .int (iI x3)), (4, .int (iI z317_4))] 317 [] := by
    intro k317
    induction k317 with
    | zero => intro σ_317 z317_4 m317 G_317 F_317 hc317_h rv317_x2 r317_4 i317; omega
    | succ k317 IH317 =>
      intro σ_317 z317_4 m317 G_317 F_317 hc317_h rv317_x2 r317_4 i317
      obtain ⟨f75, h76, e77⟩ := ga_85 G_317.t
      obtain ⟨z78, e79, r80⟩ := e77 (d : Int).toNat
      have r81 := (i317).use h76 e79 (by omega)
      refine v_iload B dX12_answered_317 rfl ?_
      refine v_iload_n B dX12_answered_319 rfl rfl ?_
      refine u_icmp_ge B (tgt := 373) (by omega) (by omega) dX12_answered_320 (by decide +kernel) (fun c82 => ?_) (fun c82 => ?_)
      · refine v_lv [0, 1, 2] rfl ?_
        exact J373 σ_317 G_317 F_317 hc317_h ⟨by omega, by omega⟩ ((At.mk h76 e79 (by omega) ⟨by omega, by omega⟩))
      · refine v_aload_n B dX12_answered_323 rfl rfl ?_
        refine u_get B Z (C := RX12) (T := TX12) (N := 123) (ci := 12) hi_M_answered_X12 Y.o hc317_h rfl 121 (by decide +kernel) (List.mem_of_getElem? (i := 2) rfl) rfl dX12_answered_324 ?_
        refine v_iload_n B dX12_answered_327 rfl rfl ?_
        obtain ⟨f83, h84, e85⟩ := ga_121 G_317.t
        obtain ⟨z86, e87, r88⟩ := e85 (d : Int).toNat
        refine u_iald B Z (t0 := 0) (ym_121 Y) h84 rfl (by omega) e87 dX12_answered_328 ?_
        refine v_bipush B (v := iI 40) dX12_answered_329 (by decide +kernel) ?_
        refine u_icmp_ge B (tgt := 373) (by omega) (by omega) dX12_answered_331 (by decide +kernel) (fun c89 => ?_) (fun c89 => ?_)
        · refine v_lv [0, 1, 2] rfl ?_
          exact J373 σ_317 G_317 F_317 hc317_h ⟨by omega, by omega⟩ ((At.mk h76 e79 (by omega) ⟨by omega, by omega⟩))
        · refine v_aload_n B dX12_answered_334 rfl rfl ?_
          refine u_get B Z (C := RX12) (T := TX12) (N := 123) (ci := 12) hi_M_answered_X12 Y.o hc317_h rfl 122 (by decide +kernel) (List.mem_of_getElem? (i := 5) rfl) rfl dX12_answered_335 ?_
          refine v_bipush B (v := iI 40) dX12_answered_338 (by decide +kernel) ?_
          refine v_iload_n B dX12_answered_340 rfl rfl ?_
          refine v_imul B (v := iI (40 * d)) dX12_answered_341 ((iI_mul _ _).trans (congrArg iI (by omega))) ?_
          refine v_aload_n B dX12_answered_342 rfl rfl ?_
          refine u_get B Z (C := RX12) (T := TX12) (N := 123) (ci := 12) hi_M_answered_X12 Y.o hc317_h rfl 121 (by decide +kernel) (List.mem_of_getElem? (i := 2) rfl) rfl dX12_answered_343 ?_
          refine v_iload_n B dX12_answered_346 rfl rfl ?_
          refine u_iald B Z (t0 := 0) (ym_121 Y) h84 rfl (by omega) e87 dX12_answered_347 ?_
          refine v_iadd B (v := iI (40 * d + z86)) dX12_answered_348 ((iI_add _ _).trans (congrArg iI (by omega))) ?_
          refine v_aload_n B dX12_answered_349 rfl rfl ?_
          refine u_get B Z (C := RX12) (T := TX12) (N := 123) (ci := 12) hi_M_answered_X12 Y.o hc317_h rfl 91 (by decide +kernel) (List.mem_of_getElem? (i := 60) rfl) rfl dX12_answered_350 ?_
          refine v_iload B dX12_answered_353 rfl ?_
          obtain ⟨f90, h91, e92⟩ := ga_91 G_317.t
          obtain ⟨z93, e94, r95⟩ := e92 (z317_4 : Int).toNat
          refine u_bald B Z (t0 := 2) (ym_91 Y) h91 rfl (by omega) e94 dX12_answered_355 ?_
          obtain ⟨f96, h97, e98⟩ := ga_122 G_317.t
          refine u_bast B Z (t0 := 2) (x := iI z93) (y := iI z93) (ym_122 Y) h97 rfl (by omega) (nar8 (by omega)) dX12_answered_356 (fun σ99 h100 n101 => ?_)
          have F102 := F_317.put (ym_122 Y) (by simp) n101
          have G103 := gp_122 Y G_317 ⟨_, h100, el_upd (z := z93) e98 ⟨by omega, by omega⟩ _⟩ n101
          refine v_aload_n B dX12_answered_357 rfl rfl ?_
          have h104 := (n101 h (ne_ty Y.o (ym_122 Y) (by decide))).trans (hc317_h)
          refine u_get B Z (C := RX12) (T := TX12) (N := 123) (ci := 12) hi_M_answered_X12 Y.o h104 rfl 121 (by decide +kernel) (List.mem_of_getElem? (i := 2) rfl) rfl dX12_answered_358 ?_
          refine v_iload_n B dX12_answered_361 rfl rfl ?_
          refine v_dup2 B dX12_answered_362 rfl rfl ?_
          have h105 := (n101 (q 121) (ne_ty (ym_121 Y) (ym_122 Y) (by decide))).trans (h84)
          refine u_iald B Z (t0 := 0) (ym_121 Y) h105 rfl (by omega) e87 dX12_answered_363 ?_
          refine v_iconst B (v := iI 1) dX12_answered_364 rfl ?_
          refine v_iadd B (v := iI (z86 + 1)) dX12_answered_365 ((iI_add _ _).trans (congrArg iI (by omega))) ?_
          refine u_iast B Z (t0 := 0) (x := iI (z86 + 1)) (ym_121 Y) h105 rfl (by omega) dX12_answered_366 (fun σ106 h107 n108 => ?_)
          have e109 := el_upd (z := (z86 + 1)) e85 ⟨by omega, by omega⟩ (d : Int).toNat
          have F110 := F102.put (ym_121 Y) (by simp) n108
          have G111 := gp_121 Y G103 ⟨_, h107, e109⟩ n108
          refine v_iinc B (k := 3) (v := iI (z317_4 + 1)) (lv' := [(4, .int (iI (z317_4 + 1))), (0, .ref h), (1, .int (iI d)), (3, .int (iI x3))]) dX12_answered_367 rfl ((iI_add _ _).trans (congrArg iI (by omega))) (by decide +kernel) rfl ?_
          refine v_goto B (tgt := 317) dX12_answered_370 (by decide +kernel) ?_
          refine v_lv [1, 2, 3, 0] rfl ?_
          have h112 := (n108 (q 85) (ne_ty (ym_85 Y) (ym_121 Y) (by decide))).trans ((n101 (q 85) (ne_ty (ym_85 Y) (ym_122 Y) (by decide))).trans (h76))
          have h113 := (n108 h (ne_ty Y.o (ym_121 Y) (by decide))).trans (h104)
          exact IH317 σ106 (z317_4 + 1) (by omega) G111 F110 h113 ⟨by omega, by omega⟩ ⟨by omega, by omega⟩ ((At.mk h112 e79 (by omega) ⟨by omega, by omega⟩))
  have J105 : ∀ (σ_105 : Nat → va_E), GM K h q σ_105 → Fr τ [(204, 0), (216, 0), (145, 0), (144, 0), (146, 0), (190, 0), (219, 0), (182, 0), (184, 0), (185, 0), (220, 0), (222, 0), (221, 0)] σ0 σ_105 → (σ_105 (q 85) = .inl (K 0, 2, .inl f12)) → (σ_105 h = .inr (12, fsM q (iI z1) (iI z2) (iI z3) (iI z4) (iI z5))) → (1 ≤ x2 ∧ x2 ≤ 1) → (5 ≤ x3 ∧ x3 ≤ 5) → (At σ_105 (q 85) (d : Int).toNat (0) (7)) → V p l e R s m args below meth c 6 D A Q (0, 0) (fd dom σ_105) [(0, .ref h), (1, .int (iI d))] 105 [] := by
    intro σ_105 G_105 F_105 hc105_q85 hc105_h rv105_x2 rv105_x3 i105
    have r114 := (i105).use hc105_q85 e16 (by omega)
    refine v_aload_n B dX12_answered_105 rfl rfl ?_
    refine u_get B Z (C := RX12) (T := TX12) (N := 123) (ci := 12) hi_M_answered_X12 Y.o hc105_h rfl 116 (by decide +kernel) (List.mem_of_getElem? (i := 22) rfl) rfl dX12_answered_106 ?_
    refine v_iload_n B dX12_answered_109 rfl rfl ?_
    refine v_iconst B (v := iI (-1)) dX12_answered_110 rfl ?_
    obtain ⟨f115, h116, e117⟩ := ga_116 G_105.t
    refine u_iast B Z (t0 := 0) (x := iI (-1)) (ym_116 Y) h116 rfl (by omega) dX12_answered_111 (fun σ118 h119 n120 => ?_)
    have e121 := el_upd (z := (-1)) e117 ⟨by omega, by omega⟩ (d : Int).toNat
    have F122 := F_105.put (ym_116 Y) (by simp) n120
    have G123 := gp_116 Y G_105 ⟨_, h119, e121⟩ n120
    refine v_aload_n B dX12_answered_112 rfl rfl ?_
    refine v_iload_n B dX12_answered_113 rfl rfl ?_
    refine v_bipush B (v := iI 9) dX12_answered_114 (by decide +kernel) ?_
    refine v_aload_n B dX12_answered_116 rfl rfl ?_
    have h124 := (n120 h (ne_ty Y.o (ym_116 Y) (by decide))).trans (hc105_h)
    refine u_get B Z (C := RX12) (T := TX12) (N := 123) (ci := 12) hi_M_answered_X12 Y.o h124 rfl 91 (by decide +kernel) (List.mem_of_getElem? (i := 60) rfl) rfl dX12_answered_117 ?_
    refine v_iconst B (v := iI 1) dX12_answered_120 rfl ?_
    obtain ⟨f125, h126, e127⟩ := ga_91 G123.t
    obtain ⟨z128, e129, r130⟩ := e127 (1 : Int).toNat
    refine u_bald B Z (t0 := 2) (ym_91 Y) h126 rfl (by omega) e129 dX12_answered_121 ?_
    refine v_sipush B (v := iI 255) dX12_answered_122 (by decide +kernel) ?_
    obtain ⟨z131, e132, r133⟩ := iI_and z128 (c := 255) (by decide) (by decide)
    refine v_iand B (v := iI z131) dX12_answered_125 e132 ?_
    refine v_aload_n B dX12_answered_126 rfl rfl ?_
    refine u_get B Z (C := RX12) (T := TX12) (N := 123) (ci := 12) hi_M_answered_X12 Y.o h124 rfl 91 (by decide +kernel) (List.mem_of_getElem? (i := 60) rfl) rfl dX12_answered_127 ?_
    refine v_iconst B (v := iI 2) dX12_answered_130 rfl ?_
    refine u_callSi B Z hz (n := 2) (As := [.ref (q 91), .int (iI 2)]) (rest := [.int (iI z131), .int (iI 9), .int (iI d), .ref h]) (c_M_two l D K Z _ _ _ _ h q Y 91 96 2 rfl ⟨by omega, by omega⟩ σ118 (G123.t) (by omega)) gd_M_answered_M_two_489 rfl rfl rfl (by decide +kernel) ⟨Nat.le_trans (by decide +kernel) hR.1, Nat.le_trans (by decide +kernel) hR.2⟩ rfl rfl (Nat.le_of_ble_eq_true rfl) dX12_answered_131 ⟨Nat.zero_le _, Nat.zero_le _⟩ (fun v136 σ134 p135 => ?_)
    obtain ⟨rfl, z137, e138, r139⟩ := p135
    subst e138
    refine v_aload_n B dX12_answered_134 rfl rfl ?_
    refine u_get B Z (C := RX12) (T := TX12) (N := 123) (ci := 12) hi_M_answered_X12 Y.o h124 rfl 91 (by decide +kernel) (List.mem_of_getElem? (i := 60) rfl) rfl dX12_answered_135 ?_
    refine v_iconst B (v := iI 4) dX12_answered_138 rfl ?_
    obtain ⟨z140, e141, r142⟩ := e127 (4 : Int).toNat
    refine u_bald B Z (t0 := 2) (ym_91 Y) h126 rfl (by omega) e141 dX12_answered_139 ?_
    refine v_sipush B (v := iI 255) dX12_answered_140 (by decide +kernel) ?_
    obtain ⟨z143, e144, r145⟩ := iI_and z140 (c := 255) (by decide) (by decide)
    refine v_iand B (v := iI z143) dX12_answered_143 e144 ?_
    refine u_callVv B Z hz (n := 5) (As := [.int (iI d), .int (iI 9), .int (iI z131), .int (iI z137), .int (iI z143)]) (rest := []) (c_M_complete5 l D K Z _ _ _ _ h q Y d 9 z131 z137 z143 ⟨by omega, by omega⟩ ⟨by omega, by omega⟩ ⟨by omega, by omega⟩ ⟨by omega, by omega⟩ ⟨by omega, by omega⟩ σ118 G123) gd_M_answered_M_complete5_504 rfl rfl rfl (by decide +kernel) ⟨Nat.le_trans (by decide +kernel) hR.1, Nat.le_trans (by decide +kernel) hR.2⟩ Y.o (clsM G123.t) rfl rfl rfl rfl (Nat.le_of_ble_eq_true rfl) dX12_answered_144 ⟨Nat.zero_le _, Nat.zero_le _⟩ (fun σ146 p147 => ?_)
    obtain ⟨G149, F150⟩ := p147
    have F151 := F122.call F150 (by first | rfl | simp)
    exact hend σ146 _ _ G149 F151 dX12_answered_147
  have J81 : ∀ (z81_s0 : Int), (1 ≤ x2 ∧ x2 ≤ 1) → (5 ≤ x3 ∧ x3 ≤ 5) → (0 ≤ z81_s0 ∧ z81_s0 ≤ 1) → (At σ0 (q 85) (d : Int).toNat (0) (7)) → V p l e R s m args below meth c 6 D A Q (0, 0) (fd dom σ0) [(0, .ref h), (1, .int (iI d))] 81 [.int (iI z81_s0)] := by
    intro z81_s0 rv81_x2 rv81_x3 r81_s0 i81
    have r152 := (i81).use h13 e16 (by omega)
    refine v_istore B (lv' := [(5, .int (iI z81_s0)), (0, .ref h), (1, .int (iI d))]) dX12_answered_81 (by decide +kernel) rfl ?_
    refine v_iload B dX12_answered_83 rfl ?_
    refine u_if_eq B (tgt := 105) (by omega) dX12_answered_85 (by decide +kernel) (fun c153 => ?_) (fun c153 => ?_)
    · refine v_lv [1, 2] rfl ?_
      exact J105 σ0 G0 F0 h13 h6 ⟨by omega, by omega⟩ ⟨by omega, by omega⟩ ((At.mk h13 e16 (by omega) ⟨by omega, by omega⟩))
    · refine v_aload_n B dX12_answered_88 rfl rfl ?_
      refine u_get B Z (C := RX12) (T := TX12) (N := 123) (ci := 12) hi_M_answered_X12 Y.o h6 rfl 91 (by decide +kernel) (List.mem_of_getElem? (i := 60) rfl) rfl dX12_answered_89 ?_
      refine v_iconst B (v := iI 4) dX12_answered_92 rfl ?_
      obtain ⟨f154, h155, e156⟩ := ga_91 G0.t
      obtain ⟨z157, e158, r159⟩ := e156 (4 : Int).toNat
      refine u_bald B Z (t0 := 2) (ym_91 Y) h155 rfl (by omega) e158 dX12_answered_93 ?_
      refine v_bipush B (v := iI 10) dX12_answered_94 (by decide +kernel) ?_
      refine u_icmp_ne B (tgt := 105) (by omega) (by omega) dX12_answered_96 (by decide +kernel) (fun c160 => ?_) (fun c160 => ?_)
      · refine v_lv [1, 2] rfl ?_
        exact J105 σ0 G0 F0 h13 h6 ⟨by omega, by omega⟩ ⟨by omega, by omega⟩ ((At.mk h13 e16 (by omega) ⟨by omega, by omega⟩))
      · refine v_aload_n B dX12_answered_99 rfl rfl ?_
        refine v_iload_n B dX12_answered_100 rfl rfl ?_
        refine u_callVv B Z hz (n := 1) (As := [.int (iI d)]) (rest := []) (c_M_ends l D K Z _ _ _ _ h q Y d ⟨by omega, by omega⟩ σ0 G0) gd_M_answered_M_ends_621 rfl rfl rfl (by decide +kernel) ⟨Nat.le_trans (by decide +kernel) hR.1, Nat.le_trans (by decide +kernel) hR.2⟩ Y.o (clsM G0.t) rfl rfl rfl rfl (Nat.le_of_ble_eq_true rfl) dX12_answered_101 ⟨Nat.zero_le _, Nat.zero_le _⟩ (fun σ161 p162 => ?_)
        obtain ⟨G164, F165⟩ := p162
        have F166 := F0.call F165 (by first | rfl | simp)
        exact hend σ161 _ _ G164 F166 dX12_answered_104
  have J76 : (1 ≤ x2 ∧ x2 ≤ 1) → (5 ≤ x3 ∧ x3 ≤ 5) → (At σ0 (q 85) (d : Int).toNat (0) (7)) → V p l e R s m args below meth c 6 D A Q (0, 0) (fd dom σ0) [(0, .ref h), (1, .int (iI d))] 76 [] := by
    intro rv76_x2 rv76_x3 i76
    have r167 := (i76).use h13 e16 (by omega)
    refine v_iconst B (v := iI 1) dX12_answered_76 rfl ?_
    refine v_goto B (tgt := 81) dX12_answered_77 (by decide +kernel) ?_
    exact J81 1 ⟨by omega, by omega⟩ ⟨by omega, by omega⟩ ⟨by omega, by omega⟩ ((At.mk h13 e16 (by omega) ⟨by omega, by omega⟩))
  refine v_aload_n B dX12_answered_0 rfl rfl ?_
  refine u_get B Z (C := RX12) (T := TX12) (N := 123) (ci := 12) hi_M_answered_X12 Y.o h6 rfl 116 (by decide +kernel) (List.mem_of_getElem? (i := 22) rfl) rfl dX12_answered_1 ?_
  refine v_iload_n B dX12_answered_4 rfl rfl ?_
  obtain ⟨f168, h169, e170⟩ := ga_116 G0.t
  obtain ⟨z171, e172, r173⟩ := e170 (d : Int).toNat
  refine u_iald B Z (t0 := 0) (ym_116 Y) h169 rfl (by omega) e172 dX12_answered_5 ?_
  refine v_iconst B (v := iI (-1)) dX12_answered_6 rfl ?_
  refine u_icmp_ne B (tgt := 11) (by omega) (by omega) dX12_answered_7 (by decide +kernel) (fun c174 => ?_) (fun c174 => ?_)
  · refine v_iload_n B dX12_answered_11 rfl rfl ?_
    refine v_iconst B (v := iI 1) dX12_answered_12 rfl ?_
    refine u_icmp_ne B (tgt := 148) (by omega) (by omega) dX12_answered_13 (by decide +kernel) (fun c175 => ?_) (fun c175 => ?_)
    · refine v_iload_n B dX12_answered_148 rfl rfl ?_
      refine v_aload_n B dX12_answered_149 rfl rfl ?_
      refine u_get B Z (C := RX12) (T := TX12) (N := 123) (ci := 12) hi_M_answered_X12 Y.o h6 rfl 119 (by decide +kernel) (List.mem_of_getElem? (i := 37) rfl) rfl dX12_answered_150 ?_
      refine v_iload_n B dX12_answered_153 rfl rfl ?_
      obtain ⟨f176, h177, e178⟩ := ga_119 G0.t
      obtain ⟨z179, e180, r181⟩ := e178 (d : Int).toNat
      refine u_iald B Z (t0 := 0) (ym_119 Y) h177 rfl (by omega) e180 dX12_answered_154 ?_
      refine u_icmp_ne B (tgt := 167) (by omega) (by omega) dX12_answered_155 (by decide +kernel) (fun c182 => ?_) (fun c182 => ?_)
      · exact hend σ0 _ _ G0 F0 dX12_answered_167
      · refine v_aload_n B dX12_answered_158 rfl rfl ?_
        refine v_iload_n B dX12_answered_159 rfl rfl ?_
        refine v_iload_n B dX12_answered_160 rfl rfl ?_
        refine u_callVi B Z hz (n := 2) (As := [.int (iI x2), .int (iI x3)]) (rest := []) (c_M_isAnswer l D K Z _ _ _ _ h q Y x2 x3 ⟨by omega, by omega⟩ ⟨by omega, by omega⟩ σ0 (G0.t)) gd_M_answered_M_isAnswer_624 rfl rfl rfl (by decide +kernel) ⟨Nat.le_trans (by decide +kernel) hR.1, Nat.le_trans (by decide +kernel) hR.2⟩ Y.o (clsM G0.t) rfl rfl rfl rfl (Nat.le_of_ble_eq_true rfl) dX12_answered_161 ⟨Nat.zero_le _, Nat.zero_le _⟩ (fun v185 σ183 p184 => ?_)
        obtain ⟨rfl, z186, e187, r188, po189⟩ := p184
        subst e187
        refine u_if_ne B (tgt := 168) (by omega) dX12_answered_164 (by decide +kernel) (fun c190 => ?_) (fun c190 => ?_)
        · refine v_iload_n B dX12_answered_168 rfl rfl ?_
          refine u_tsw B (tgtd := 449) (by omega) dX12_answered_169 (by decide +kernel) ?_ ?_ (tswM (by decide +kernel)) (by decide +kernel)
          · intro i191 o192 g193 o194 x195 t196
            match i191, o194, x195 with
            | 0, o194, x195 =>
              replace o194 : o192 = 99 := by simp at o194; omega
              obtain rfl : g193 = 268 := by omega
              refine v_aload_n B dX12_answered_268 rfl rfl ?_
              refine u_get B Z (C := RX12) (T := TX12) (N := 123) (ci := 12) hi_M_answered_X12 Y.o h6 rfl 104 (by decide +kernel) (List.mem_of_getElem? (i := 3) rfl) rfl dX12_answered_269 ?_
              refine v_iload_n B dX12_answered_272 rfl rfl ?_
              refine v_bipush B (v := iI 23) dX12_answered_273 (by decide +kernel) ?_
              refine v_aload_n B dX12_answered_275 rfl rfl ?_
              refine u_get B Z (C := RX12) (T := TX12) (N := 123) (ci := 12) hi_M_answered_X12 Y.o h6 rfl 91 (by decide +kernel) (List.mem_of_getElem? (i := 60) rfl) rfl dX12_answered_276 ?_
              refine v_iconst B (v := iI 1) dX12_answered_279 rfl ?_
              refine u_callSi B Z hz (n := 2) (As := [.ref (q 91), .int (iI 1)]) (rest := [.int (iI 23), .int (iI d), .ref (q 104)]) (c_M_two l D K Z _ _ _ _ h q Y 91 96 1 rfl ⟨by omega, by omega⟩ σ0 (G0.t) (by omega)) gd_M_answered_M_two_489 rfl rfl rfl (by decide +kernel) ⟨Nat.le_trans (by decide +kernel) hR.1, Nat.le_trans (by decide +kernel) hR.2⟩ rfl rfl (Nat.le_of_ble_eq_true rfl) dX12_answered_280 ⟨Nat.zero_le _, Nat.zero_le _⟩ (fun v199 σ197 p198 => ?_)
              obtain ⟨rfl, z200, e201, r202⟩ := p198
              subst e201
              refine v_aload_n B dX12_answered_283 rfl rfl ?_
              refine u_get B Z (C := RX12) (T := TX12) (N := 123) (ci := 12) hi_M_answered_X12 Y.o h6 rfl 105 (by decide +kernel) (List.mem_of_getElem? (i := 51) rfl) rfl dX12_answered_284 ?_
              refine v_iload_n B dX12_answered_287 rfl rfl ?_
              obtain ⟨f203, h204, e205⟩ := ga_105 G0.t
              obtain ⟨z206, e207, r208⟩ := e205 (d : Int).toNat
              refine u_iald B Z (t0 := 0) (ym_105 Y) h204 rfl (by omega) e207 dX12_answered_288 ?_
              obtain ⟨z209, e210, r211⟩ := iI_min (a := z200) (b := z206) (by omega) (by omega)
              refine v_mmin B (v := iI z209) (List.mem_of_getElem? (i := 13) rfl) (List.mem_of_getElem? (i := 14) rfl) (List.mem_of_getElem? (i := 15) rfl) (List.mem_of_getElem? (i := 16) rfl) (Nat.le_trans (by decide +kernel) hR.1) (Nat.le_trans (Nat.le_of_ble_eq_true rfl) hR.2) (Nat.zero_le _) (Nat.zero_le _) e210 dX12_answered_289 ?_
              obtain ⟨z212, e213, r214⟩ := iI_max (a := 23) (b := z209) (by omega) (by omega)
              refine v_mmax B (v := iI z212) (List.mem_of_getElem? (i := 71) rfl) (List.mem_of_getElem? (i := 72) rfl) (List.mem_of_getElem? (i := 15) rfl) (List.mem_of_getElem? (i := 73) rfl) (Nat.le_trans (by decide +kernel) hR.1) (Nat.le_trans (Nat.le_of_ble_eq_true rfl) hR.2) (Nat.zero_le _) (Nat.zero_le _) e213 dX12_answered_292 ?_
              obtain ⟨f215, h216, e217⟩ := ga_104 G0.t
              refine u_iast B Z (t0 := 0) (x := iI z212) (ym_104 Y) h216 rfl (by omega) dX12_answered_295 (fun σ218 h219 n220 => ?_)
              have e221 := el_upd (z := z212) e217 ⟨by omega, by omega⟩ (d : Int).toNat
              have F222 := F0.put (ym_104 Y) (by simp) n220
              have G223 := gp_104 Y G0 ⟨_, h219, e221⟩ n220
              refine v_aload_n B dX12_answered_296 rfl rfl ?_
              refine v_iload_n B dX12_answered_297 rfl rfl ?_
              refine u_callVv B Z hz (n := 1) (As := [.int (iI d)]) (rest := []) (c_M_ends l D K Z _ _ _ _ h q Y d ⟨by omega, by omega⟩ σ218 G223) gd_M_answered_M_ends_621 rfl rfl rfl (by decide +kernel) ⟨Nat.le_trans (by decide +kernel) hR.1, Nat.le_trans (by decide +kernel) hR.2⟩ Y.o (clsM G223.t) rfl rfl rfl rfl (Nat.le_of_ble_eq_true rfl) dX12_answered_298 ⟨Nat.zero_le _, Nat.zero_le _⟩ (fun σ224 p225 => ?_)
              obtain ⟨G227, F228⟩ := p225
              have F229 := F222.call F228 (by first | rfl | simp)
              refine v_goto B (tgt := 468) dX12_answered_301 (by decide +kernel) ?_
              exact hend σ224 _ _ G227 F229 dX12_answered_468
            | 1, o194, x195 =>
              replace o194 : o192 = 280 := by simp at o194; omega
              obtain rfl : g193 = 449 := by omega
              refine v_aload_n B dX12_answered_449 rfl rfl ?_
              refine v_iload_n B dX12_answered_450 rfl rfl ?_
              refine v_iconst B (v := iI 5) dX12_answered_451 rfl ?_
              refine v_aload_n B dX12_answered_452 rfl rfl ?_
              refine u_get B Z (C := RX12) (T := TX12) (N := 123) (ci := 12) hi_M_answered_X12 Y.o h6 rfl 117 (by decide +kernel) (List.mem_of_getElem? (i := 4) rfl) rfl dX12_answered_453 ?_
              refine v_iload_n B dX12_answered_456 rfl rfl ?_
              obtain ⟨f230, h231, e232⟩ := ga_117 G0.t
              obtain ⟨z233, e234, r235⟩ := e232 (d : Int).toNat
              refine u_iald B Z (t0 := 0) (ym_117 Y) h231 rfl (by omega) e234 dX12_answered_457 ?_
              refine v_iconst B (v := iI 0) dX12_answered_458 rfl ?_
              refine v_iconst B (v := iI 0) dX12_answered_459 rfl ?_
              refine u_callVv B Z hz (n := 5) (As := [.int (iI d), .int (iI 5), .int (iI z233), .int (iI 0), .int (iI 0)]) (rest := []) (c_M_complete5 l D K Z _ _ _ _ h q Y d 5 z233 0 0 ⟨by omega, by omega⟩ ⟨by omega, by omega⟩ ⟨by omega, by omega⟩ ⟨by omega, by omega⟩ ⟨by omega, by omega⟩ σ0 G0) gd_M_answered_M_complete5_504 rfl rfl rfl (by decide +kernel) ⟨Nat.le_trans (by decide +kernel) hR.1, Nat.le_trans (by decide +kernel) hR.2⟩ Y.o (clsM G0.t) rfl rfl rfl rfl (Nat.le_of_ble_eq_true rfl) dX12_answered_460 ⟨Nat.zero_le _, Nat.zero_le _⟩ (fun σ236 p237 => ?_)
              obtain ⟨G239, F240⟩ := p237
              have F241 := F0.call F240 (by first | rfl | simp)
              refine v_aload_n B dX12_answered_463 rfl rfl ?_
              refine v_iload_n B dX12_answered_464 rfl rfl ?_
              refine u_callVv B Z hz (n := 1) (As := [.int (iI d)]) (rest := []) (c_M_ends l D K Z _ _ _ _ h q Y d ⟨by omega, by omega⟩ σ236 G239) gd_M_answered_M_ends_621 rfl rfl rfl (by decide +kernel) ⟨Nat.le_trans (by decide +kernel) hR.1, Nat.le_trans (by decide +kernel) hR.2⟩ Y.o (clsM G239.t) rfl rfl rfl rfl (Nat.le_of_ble_eq_true rfl) dX12_answered_465 ⟨Nat.zero_le _, Nat.zero_le _⟩ (fun σ242 p243 => ?_)
              obtain ⟨G245, F246⟩ := p243
              have F247 := F241.call F246 (by first | rfl | simp)
              exact hend σ242 _ _ G245 F247 dX12_answered_468
            | 2, o194, x195 =>
              replace o194 : o192 = 135 := by simp at o194; omega
              obtain rfl : g193 = 304 := by omega
              refine v_aload_n B dX12_answered_304 rfl rfl ?_
              refine v_iload_n B dX12_answered_305 rfl rfl ?_
              refine v_iload_n B dX12_answered_306 rfl rfl ?_
              refine v_iload_n B dX12_answered_307 rfl rfl ?_
              refine u_callVv B Z hz (n := 3) (As := [.int (iI d), .int (iI x2), .int (iI x3)]) (rest := []) (c_M_rows l D K Z _ _ _ _ h q Y d x2 x3 ⟨by omega, by omega⟩ ⟨by omega, by omega⟩ ⟨by omega, by omega⟩ σ0 G0 (At.mk h13 e16 (by omega) ⟨by omega, by omega⟩) (po189 (by omega)) (by omega)) gd_M_answered_M_rows_627 rfl rfl rfl (by decide +kernel) ⟨Nat.le_trans (by decide +kernel) hR.1, Nat.le_trans (by decide +kernel) hR.2⟩ Y.o (clsM G0.t) rfl rfl rfl rfl (Nat.le_of_ble_eq_true rfl) dX12_answered_308 ⟨Nat.zero_le _, Nat.zero_le _⟩ (fun σ248 p249 => ?_)
              obtain ⟨G251, F252⟩ := p249
              have F253 := F0.call F252 (by first | rfl | simp)
              refine v_goto B (tgt := 468) dX12_answered_311 (by decide +kernel) ?_
              exact hend σ248 _ _ G251 F253 dX12_answered_468
            | 3, o194, x195 =>
              replace o194 : o192 = 280 := by simp at o194; omega
              obtain rfl : g193 = 449 := by omega
              refine v_aload_n B dX12_answered_449 rfl rfl ?_
              refine v_iload_n B dX12_answered_450 rfl rfl ?_
              refine v_iconst B (v := iI 5) dX12_answered_451 rfl ?_
              refine v_aload_n B dX12_answered_452 rfl rfl ?_
              refine u_get B Z (C := RX12) (T := TX12) (N := 123) (ci := 12) hi_M_answered_X12 Y.o h6 rfl 117 (by decide +kernel) (List.mem_of_getElem? (i := 4) rfl) rfl dX12_answered_453 ?_
              refine v_iload_n B dX12_answered_456 rfl rfl ?_
              obtain ⟨f254, h255, e256⟩ := ga_117 G0.t
              obtain ⟨z257, e258, r259⟩ := e256 (d : Int).toNat
              refine u_iald B Z (t0 := 0) (ym_117 Y) h255 rfl (by omega) e258 dX12_answered_457 ?_
              refine v_iconst B (v := iI 0) dX12_answered_458 rfl ?_
              refine v_iconst B (v := iI 0) dX12_answered_459 rfl ?_
              refine u_callVv B Z hz (n := 5) (As := [.int (iI d), .int (iI 5), .int (iI z257), .int (iI 0), .int (iI 0)]) (rest := []) (c_M_complete5 l D K Z _ _ _ _ h q Y d 5 z257 0 0 ⟨by omega, by omega⟩ ⟨by omega, by omega⟩ ⟨by omega, by omega⟩ ⟨by omega, by omega⟩ ⟨by omega, by omega⟩ σ0 G0) gd_M_answered_M_complete5_504 rfl rfl rfl (by decide +kernel) ⟨Nat.le_trans (by decide +kernel) hR.1, Nat.le_trans (by decide +kernel) hR.2⟩ Y.o (clsM G0.t) rfl rfl rfl rfl (Nat.le_of_ble_eq_true rfl) dX12_answered_460 ⟨Nat.zero_le _, Nat.zero_le _⟩ (fun σ260 p261 => ?_)
              obtain ⟨G263, F264⟩ := p261
              have F265 := F0.call F264 (by first | rfl | simp)
              refine v_aload_n B dX12_answered_463 rfl rfl ?_
              refine v_iload_n B dX12_answered_464 rfl rfl ?_
              refine u_callVv B Z hz (n := 1) (As := [.int (iI d)]) (rest := []) (c_M_ends l D K Z _ _ _ _ h q Y d ⟨by omega, by omega⟩ σ260 G263) gd_M_answered_M_ends_621 rfl rfl rfl (by decide +kernel) ⟨Nat.le_trans (by decide +kernel) hR.1, Nat.le_trans (by decide +kernel) hR.2⟩ Y.o (clsM G263.t) rfl rfl rfl rfl (Nat.le_of_ble_eq_true rfl) dX12_answered_465 ⟨Nat.zero_le _, Nat.zero_le _⟩ (fun σ266 p267 => ?_)
              obtain ⟨G269, F270⟩ := p267
              have F271 := F265.call F270 (by first | rfl | simp)
              exact hend σ266 _ _ G269 F271 dX12_answered_468
            | 4, o194, x195 =>
              replace o194 : o192 = 135 := by simp at o194; omega
              obtain rfl : g193 = 304 := by omega
              refine v_aload_n B dX12_answered_304 rfl rfl ?_
              refine v_iload_n B dX12_answered_305 rfl rfl ?_
              refine v_iload_n B dX12_answered_306 rfl rfl ?_
              refine v_iload_n B dX12_answered_307 rfl rfl ?_
              refine u_callVv B Z hz (n := 3) (As := [.int (iI d), .int (iI x2), .int (iI x3)]) (rest := []) (c_M_rows l D K Z _ _ _ _ h q Y d x2 x3 ⟨by omega, by omega⟩ ⟨by omega, by omega⟩ ⟨by omega, by omega⟩ σ0 G0 (At.mk h13 e16 (by omega) ⟨by omega, by omega⟩) (po189 (by omega)) (by omega)) gd_M_answered_M_rows_627 rfl rfl rfl (by decide +kernel) ⟨Nat.le_trans (by decide +kernel) hR.1, Nat.le_trans (by decide +kernel) hR.2⟩ Y.o (clsM G0.t) rfl rfl rfl rfl (Nat.le_of_ble_eq_true rfl) dX12_answered_308 ⟨Nat.zero_le _, Nat.zero_le _⟩ (fun σ272 p273 => ?_)
              obtain ⟨G275, F276⟩ := p273
              have F277 := F0.call F276 (by first | rfl | simp)
              refine v_goto B (tgt := 468) dX12_answered_311 (by decide +kernel) ?_
              exact hend σ272 _ _ G275 F277 dX12_answered_468
            | 5, o194, x195 =>
              replace o194 : o192 = 280 := by simp at o194; omega
              obtain rfl : g193 = 449 := by omega
              refine v_aload_n B dX12_answered_449 rfl rfl ?_
              refine v_iload_n B dX12_answered_450 rfl rfl ?_
              refine v_iconst B (v := iI 5) dX12_answered_451 rfl ?_
              refine v_aload_n B dX12_answered_452 rfl rfl ?_
              refine u_get B Z (C := RX12) (T := TX12) (N := 123) (ci := 12) hi_M_answered_X12 Y.o h6 rfl 117 (by decide +kernel) (List.mem_of_getElem? (i := 4) rfl) rfl dX12_answered_453 ?_
              refine v_iload_n B dX12_answered_456 rfl rfl ?_
              obtain ⟨f278, h279, e280⟩ := ga_117 G0.t
              obtain ⟨z281, e282, r283⟩ := e280 (d : Int).toNat
              refine u_iald B Z (t0 := 0) (ym_117 Y) h279 rfl (by omega) e282 dX12_answered_457 ?_
              refine v_iconst B (v := iI 0) dX12_answered_458 rfl ?_
              refine v_iconst B (v := iI 0) dX12_answered_459 rfl ?_
              refine u_callVv B Z hz (n := 5) (As := [.int (iI d), .int (iI 5), .int (iI z281), .int (iI 0), .int (iI 0)]) (rest := []) (c_M_complete5 l D K Z _ _ _ _ h q Y d 5 z281 0 0 ⟨by omega, by omega⟩ ⟨by omega, by omega⟩ ⟨by omega, by omega⟩ ⟨by omega, by omega⟩ ⟨by omega, by omega⟩ σ0 G0) gd_M_answered_M_complete5_504 rfl rfl rfl (by decide +kernel) ⟨Nat.le_trans (by decide +kernel) hR.1, Nat.le_trans (by decide +kernel) hR.2⟩ Y.o (clsM G0.t) rfl rfl rfl rfl (Nat.le_of_ble_eq_true rfl) dX12_answered_460 ⟨Nat.zero_le _, Nat.zero_le _⟩ (fun σ284 p285 => ?_)
              obtain ⟨G287, F288⟩ := p285
              have F289 := F0.call F288 (by first | rfl | simp)
              refine v_aload_n B dX12_answered_463 rfl rfl ?_
              refine v_iload_n B dX12_answered_464 rfl rfl ?_
              refine u_callVv B Z hz (n := 1) (As := [.int (iI d)]) (rest := []) (c_M_ends l D K Z _ _ _ _ h q Y d ⟨by omega, by omega⟩ σ284 G287) gd_M_answered_M_ends_621 rfl rfl rfl (by decide +kernel) ⟨Nat.le_trans (by decide +kernel) hR.1, Nat.le_trans (by decide +kernel) hR.2⟩ Y.o (clsM G287.t) rfl rfl rfl rfl (Nat.le_of_ble_eq_true rfl) dX12_answered_465 ⟨Nat.zero_le _, Nat.zero_le _⟩ (fun σ290 p291 => ?_)
              obtain ⟨G293, F294⟩ := p291
              have F295 := F289.call F294 (by first | rfl | simp)
              exact hend σ290 _ _ G293 F295 dX12_answered_468
            | 6, o194, x195 =>
              replace o194 : o192 = 135 := by simp at o194; omega
              obtain rfl : g193 = 304 := by omega
              refine v_aload_n B dX12_answered_304 rfl rfl ?_
              refine v_iload_n B dX12_answered_305 rfl rfl ?_
              refine v_iload_n B dX12_answered_306 rfl rfl ?_
              refine v_iload_n B dX12_answered_307 rfl rfl ?_
              refine u_callVv B Z hz (n := 3) (As := [.int (iI d), .int (iI x2), .int (iI x3)]) (rest := []) (c_M_rows l D K Z _ _ _ _ h q Y d x2 x3 ⟨by omega, by omega⟩ ⟨by omega, by omega⟩ ⟨by omega, by omega⟩ σ0 G0 (At.mk h13 e16 (by omega) ⟨by omega, by omega⟩) (po189 (by omega)) (by omega)) gd_M_answered_M_rows_627 rfl rfl rfl (by decide +kernel) ⟨Nat.le_trans (by decide +kernel) hR.1, Nat.le_trans (by decide +kernel) hR.2⟩ Y.o (clsM G0.t) rfl rfl rfl rfl (Nat.le_of_ble_eq_true rfl) dX12_answered_308 ⟨Nat.zero_le _, Nat.zero_le _⟩ (fun σ296 p297 => ?_)
              obtain ⟨G299, F300⟩ := p297
              have F301 := F0.call F300 (by first | rfl | simp)
              refine v_goto B (tgt := 468) dX12_answered_311 (by decide +kernel) ?_
              exact hend σ296 _ _ G299 F301 dX12_answered_468
            | 7, o194, x195 =>
              replace o194 : o192 = 280 := by simp at o194; omega
              obtain rfl : g193 = 449 := by omega
              refine v_aload_n B dX12_answered_449 rfl rfl ?_
              refine v_iload_n B dX12_answered_450 rfl rfl ?_
              refine v_iconst B (v := iI 5) dX12_answered_451 rfl ?_
              refine v_aload_n B dX12_answered_452 rfl rfl ?_
              refine u_get B Z (C := RX12) (T := TX12) (N := 123) (ci := 12) hi_M_answered_X12 Y.o h6 rfl 117 (by decide +kernel) (List.mem_of_getElem? (i := 4) rfl) rfl dX12_answered_453 ?_
              refine v_iload_n B dX12_answered_456 rfl rfl ?_
              obtain ⟨f302, h303, e304⟩ := ga_117 G0.t
              obtain ⟨z305, e306, r307⟩ := e304 (d : Int).toNat
              refine u_iald B Z (t0 := 0) (ym_117 Y) h303 rfl (by omega) e306 dX12_answered_457 ?_
              refine v_iconst B (v := iI 0) dX12_answered_458 rfl ?_
              refine v_iconst B (v := iI 0) dX12_answered_459 rfl ?_
              refine u_callVv B Z hz (n := 5) (As := [.int (iI d), .int (iI 5), .int (iI z305), .int (iI 0), .int (iI 0)]) (rest := []) (c_M_complete5 l D K Z _ _ _ _ h q Y d 5 z305 0 0 ⟨by omega, by omega⟩ ⟨by omega, by omega⟩ ⟨by omega, by omega⟩ ⟨by omega, by omega⟩ ⟨by omega, by omega⟩ σ0 G0) gd_M_answered_M_complete5_504 rfl rfl rfl (by decide +kernel) ⟨Nat.le_trans (by decide +kernel) hR.1, Nat.le_trans (by decide +kernel) hR.2⟩ Y.o (clsM G0.t) rfl rfl rfl rfl (Nat.le_of_ble_eq_true rfl) dX12_answered_460 ⟨Nat.zero_le _, Nat.zero_le _⟩ (fun σ308 p309 => ?_)
              obtain ⟨G311, F312⟩ := p309
              have F313 := F0.call F312 (by first | rfl | simp)
              refine v_aload_n B dX12_answered_463 rfl rfl ?_
              refine v_iload_n B dX12_answered_464 rfl rfl ?_
              refine u_callVv B Z hz (n := 1) (As := [.int (iI d)]) (rest := []) (c_M_ends l D K Z _ _ _ _ h q Y d ⟨by omega, by omega⟩ σ308 G311) gd_M_answered_M_ends_621 rfl rfl rfl (by decide +kernel) ⟨Nat.le_trans (by decide +kernel) hR.1, Nat.le_trans (by decide +kernel) hR.2⟩ Y.o (clsM G311.t) rfl rfl rfl rfl (Nat.le_of_ble_eq_true rfl) dX12_answered_465 ⟨Nat.zero_le _, Nat.zero_le _⟩ (fun σ314 p315 => ?_)
              obtain ⟨G317, F318⟩ := p315
              have F319 := F313.call F318 (by first | rfl | simp)
              exact hend σ314 _ _ G317 F319 dX12_answered_468
            | 8, o194, x195 =>
              replace o194 : o192 = 145 := by simp at o194; omega
              obtain rfl : g193 = 314 := by omega
              refine v_iconst B (v := iI 1) dX12_answered_314 rfl ?_
              refine v_istore B (lv' := [(4, .int (iI 1)), (0, .ref h), (1, .int (iI d)), (2, .int (iI x2)), (3, .int (iI x3))]) dX12_answered_315 (by decide +kernel) rfl ?_
              refine v_lv [1, 2, 4, 0] rfl ?_
              exact J317 _ σ0 1 (Nat.le_refl _) G0 F0 h6 ⟨by omega, by omega⟩ ⟨by omega, by omega⟩ ((At.mk h13 e16 (by omega) ⟨by omega, by omega⟩))
            | 9, o194, x195 =>
              replace o194 : o192 = 280 := by simp at o194; omega
              obtain rfl : g193 = 449 := by omega
              refine v_aload_n B dX12_answered_449 rfl rfl ?_
              refine v_iload_n B dX12_answered_450 rfl rfl ?_
              refine v_iconst B (v := iI 5) dX12_answered_451 rfl ?_
              refine v_aload_n B dX12_answered_452 rfl rfl ?_
              refine u_get B Z (C := RX12) (T := TX12) (N := 123) (ci := 12) hi_M_answered_X12 Y.o h6 rfl 117 (by decide +kernel) (List.mem_of_getElem? (i := 4) rfl) rfl dX12_answered_453 ?_
              refine v_iload_n B dX12_answered_456 rfl rfl ?_
              obtain ⟨f320, h321, e322⟩ := ga_117 G0.t
              obtain ⟨z323, e324, r325⟩ := e322 (d : Int).toNat
              refine u_iald B Z (t0 := 0) (ym_117 Y) h321 rfl (by omega) e324 dX12_answered_457 ?_
              refine v_iconst B (v := iI 0) dX12_answered_458 rfl ?_
              refine v_iconst B (v := iI 0) dX12_answered_459 rfl ?_
              refine u_callVv B Z hz (n := 5) (As := [.int (iI d), .int (iI 5), .int (iI z323), .int (iI 0), .int (iI 0)]) (rest := []) (c_M_complete5 l D K Z _ _ _ _ h q Y d 5 z323 0 0 ⟨by omega, by omega⟩ ⟨by omega, by omega⟩ ⟨by omega, by omega⟩ ⟨by omega, by omega⟩ ⟨by omega, by omega⟩ σ0 G0) gd_M_answered_M_complete5_504 rfl rfl rfl (by decide +kernel) ⟨Nat.le_trans (by decide +kernel) hR.1, Nat.le_trans (by decide +kernel) hR.2⟩ Y.o (clsM G0.t) rfl rfl rfl rfl (Nat.le_of_ble_eq_true rfl) dX12_answered_460 ⟨Nat.zero_le _, Nat.zero_le _⟩ (fun σ326 p327 => ?_)
              obtain ⟨G329, F330⟩ := p327
              have F331 := F0.call F330 (by first | rfl | simp)
              refine v_aload_n B dX12_answered_463 rfl rfl ?_
              refine v_iload_n B dX12_answered_464 rfl rfl ?_
              refine u_callVv B Z hz (n := 1) (As := [.int (iI d)]) (rest := []) (c_M_ends l D K Z _ _ _ _ h q Y d ⟨by omega, by omega⟩ σ326 G329) gd_M_answered_M_ends_621 rfl rfl rfl (by decide +kernel) ⟨Nat.le_trans (by decide +kernel) hR.1, Nat.le_trans (by decide +kernel) hR.2⟩ Y.o (clsM G329.t) rfl rfl rfl rfl (Nat.le_of_ble_eq_true rfl) dX12_answered_465 ⟨Nat.zero_le _, Nat.zero_le _⟩ (fun σ332 p333 => ?_)
              obtain ⟨G335, F336⟩ := p333
              have F337 := F331.call F336 (by first | rfl | simp)
              exact hend σ332 _ _ G335 F337 dX12_answered_468
            | 10, o194, x195 =>
              replace o194 : o192 = 145 := by simp at o194; omega
              obtain rfl : g193 = 314 := by omega
              refine v_iconst B (v := iI 1) dX12_answered_314 rfl ?_
              refine v_istore B (lv' := [(4, .int (iI 1)), (0, .ref h), (1, .int (iI d)), (2, .int (iI x2)), (3, .int (iI x3))]) dX12_answered_315 (by decide +kernel) rfl ?_
              refine v_lv [1, 2, 4, 0] rfl ?_
              exact J317 _ σ0 1 (Nat.le_refl _) G0 F0 h6 ⟨by omega, by omega⟩ ⟨by omega, by omega⟩ ((At.mk h13 e16 (by omega) ⟨by omega, by omega⟩))
            | 11, o194, x195 =>
              replace o194 : o192 = 280 := by simp at o194; omega
              obtain rfl : g193 = 449 := by omega
              refine v_aload_n B dX12_answered_449 rfl rfl ?_
              refine v_iload_n B dX12_answered_450 rfl rfl ?_
              refine v_iconst B (v := iI 5) dX12_answered_451 rfl ?_
              refine v_aload_n B dX12_answered_452 rfl rfl ?_
              refine u_get B Z (C := RX12) (T := TX12) (N := 123) (ci := 12) hi_M_answered_X12 Y.o h6 rfl 117 (by decide +kernel) (List.mem_of_getElem? (i := 4) rfl) rfl dX12_answered_453 ?_
              refine v_iload_n B dX12_answered_456 rfl rfl ?_
              obtain ⟨f338, h339, e340⟩ := ga_117 G0.t
              obtain ⟨z341, e342, r343⟩ := e340 (d : Int).toNat
              refine u_iald B Z (t0 := 0) (ym_117 Y) h339 rfl (by omega) e342 dX12_answered_457 ?_
              refine v_iconst B (v := iI 0) dX12_answered_458 rfl ?_
              refine v_iconst B (v := iI 0) dX12_answered_459 rfl ?_
              refine u_callVv B Z hz (n := 5) (As := [.int (iI d), .int (iI 5), .int (iI z341), .int (iI 0), .int (iI 0)]) (rest := []) (c_M_complete5 l D K Z _ _ _ _ h q Y d 5 z341 0 0 ⟨by omega, by omega⟩ ⟨by omega, by omega⟩ ⟨by omega, by omega⟩ ⟨by omega, by omega⟩ ⟨by omega, by omega⟩ σ0 G0) gd_M_answered_M_complete5_504 rfl rfl rfl (by decide +kernel) ⟨Nat.le_trans (by decide +kernel) hR.1, Nat.le_trans (by decide +kernel) hR.2⟩ Y.o (clsM G0.t) rfl rfl rfl rfl (Nat.le_of_ble_eq_true rfl) dX12_answered_460 ⟨Nat.zero_le _, Nat.zero_le _⟩ (fun σ344 p345 => ?_)
              obtain ⟨G347, F348⟩ := p345
              have F349 := F0.call F348 (by first | rfl | simp)
              refine v_aload_n B dX12_answered_463 rfl rfl ?_
              refine v_iload_n B dX12_answered_464 rfl rfl ?_
              refine u_callVv B Z hz (n := 1) (As := [.int (iI d)]) (rest := []) (c_M_ends l D K Z _ _ _ _ h q Y d ⟨by omega, by omega⟩ σ344 G347) gd_M_answered_M_ends_621 rfl rfl rfl (by decide +kernel) ⟨Nat.le_trans (by decide +kernel) hR.1, Nat.le_trans (by decide +kernel) hR.2⟩ Y.o (clsM G347.t) rfl rfl rfl rfl (Nat.le_of_ble_eq_true rfl) dX12_answered_465 ⟨Nat.zero_le _, Nat.zero_le _⟩ (fun σ350 p351 => ?_)
              obtain ⟨G353, F354⟩ := p351
              have F355 := F349.call F354 (by first | rfl | simp)
              exact hend σ350 _ _ G353 F355 dX12_answered_468
            | 12, o194, x195 =>
              replace o194 : o192 = 280 := by simp at o194; omega
              obtain rfl : g193 = 449 := by omega
              refine v_aload_n B dX12_answered_449 rfl rfl ?_
              refine v_iload_n B dX12_answered_450 rfl rfl ?_
              refine v_iconst B (v := iI 5) dX12_answered_451 rfl ?_
              refine v_aload_n B dX12_answered_452 rfl rfl ?_
              refine u_get B Z (C := RX12) (T := TX12) (N := 123) (ci := 12) hi_M_answered_X12 Y.o h6 rfl 117 (by decide +kernel) (List.mem_of_getElem? (i := 4) rfl) rfl dX12_answered_453 ?_
              refine v_iload_n B dX12_answered_456 rfl rfl ?_
              obtain ⟨f356, h357, e358⟩ := ga_117 G0.t
              obtain ⟨z359, e360, r361⟩ := e358 (d : Int).toNat
              refine u_iald B Z (t0 := 0) (ym_117 Y) h357 rfl (by omega) e360 dX12_answered_457 ?_
              refine v_iconst B (v := iI 0) dX12_answered_458 rfl ?_
              refine v_iconst B (v := iI 0) dX12_answered_459 rfl ?_
              refine u_callVv B Z hz (n := 5) (As := [.int (iI d), .int (iI 5), .int (iI z359), .int (iI 0), .int (iI 0)]) (rest := []) (c_M_complete5 l D K Z _ _ _ _ h q Y d 5 z359 0 0 ⟨by omega, by omega⟩ ⟨by omega, by omega⟩ ⟨by omega, by omega⟩ ⟨by omega, by omega⟩ ⟨by omega, by omega⟩ σ0 G0) gd_M_answered_M_complete5_504 rfl rfl rfl (by decide +kernel) ⟨Nat.le_trans (by decide +kernel) hR.1, Nat.le_trans (by decide +kernel) hR.2⟩ Y.o (clsM G0.t) rfl rfl rfl rfl (Nat.le_of_ble_eq_true rfl) dX12_answered_460 ⟨Nat.zero_le _, Nat.zero_le _⟩ (fun σ362 p363 => ?_)
              obtain ⟨G365, F366⟩ := p363
              have F367 := F0.call F366 (by first | rfl | simp)
              refine v_aload_n B dX12_answered_463 rfl rfl ?_
              refine v_iload_n B dX12_answered_464 rfl rfl ?_
              refine u_callVv B Z hz (n := 1) (As := [.int (iI d)]) (rest := []) (c_M_ends l D K Z _ _ _ _ h q Y d ⟨by omega, by omega⟩ σ362 G365) gd_M_answered_M_ends_621 rfl rfl rfl (by decide +kernel) ⟨Nat.le_trans (by decide +kernel) hR.1, Nat.le_trans (by decide +kernel) hR.2⟩ Y.o (clsM G365.t) rfl rfl rfl rfl (Nat.le_of_ble_eq_true rfl) dX12_answered_465 ⟨Nat.zero_le _, Nat.zero_le _⟩ (fun σ368 p369 => ?_)
              obtain ⟨G371, F372⟩ := p369
              have F373 := F367.call F372 (by first | rfl | simp)
              exact hend σ368 _ _ G371 F373 dX12_answered_468
            | 13, o194, x195 =>
              replace o194 : o192 = 280 := by simp at o194; omega
              obtain rfl : g193 = 449 := by omega
              refine v_aload_n B dX12_answered_449 rfl rfl ?_
              refine v_iload_n B dX12_answered_450 rfl rfl ?_
              refine v_iconst B (v := iI 5) dX12_answered_451 rfl ?_
              refine v_aload_n B dX12_answered_452 rfl rfl ?_
              refine u_get B Z (C := RX12) (T := TX12) (N := 123) (ci := 12) hi_M_answered_X12 Y.o h6 rfl 117 (by decide +kernel) (List.mem_of_getElem? (i := 4) rfl) rfl dX12_answered_453 ?_
              refine v_iload_n B dX12_answered_456 rfl rfl ?_
              obtain ⟨f374, h375, e376⟩ := ga_117 G0.t
              obtain ⟨z377, e378, r379⟩ := e376 (d : Int).toNat
              refine u_iald B Z (t0 := 0) (ym_117 Y) h375 rfl (by omega) e378 dX12_answered_457 ?_
              refine v_iconst B (v := iI 0) dX12_answered_458 rfl ?_
              refine v_iconst B (v := iI 0) dX12_answered_459 rfl ?_
              refine u_callVv B Z hz (n := 5) (As := [.int (iI d), .int (iI 5), .int (iI z377), .int (iI 0), .int (iI 0)]) (rest := []) (c_M_complete5 l D K Z _ _ _ _ h q Y d 5 z377 0 0 ⟨by omega, by omega⟩ ⟨by omega, by omega⟩ ⟨by omega, by omega⟩ ⟨by omega, by omega⟩ ⟨by omega, by omega⟩ σ0 G0) gd_M_answered_M_complete5_504 rfl rfl rfl (by decide +kernel) ⟨Nat.le_trans (by decide +kernel) hR.1, Nat.le_trans (by decide +kernel) hR.2⟩ Y.o (clsM G0.t) rfl rfl rfl rfl (Nat.le_of_ble_eq_true rfl) dX12_answered_460 ⟨Nat.zero_le _, Nat.zero_le _⟩ (fun σ380 p381 => ?_)
              obtain ⟨G383, F384⟩ := p381
              have F385 := F0.call F384 (by first | rfl | simp)
              refine v_aload_n B dX12_answered_463 rfl rfl ?_
              refine v_iload_n B dX12_answered_464 rfl rfl ?_
              refine u_callVv B Z hz (n := 1) (As := [.int (iI d)]) (rest := []) (c_M_ends l D K Z _ _ _ _ h q Y d ⟨by omega, by omega⟩ σ380 G383) gd_M_answered_M_ends_621 rfl rfl rfl (by decide +kernel) ⟨Nat.le_trans (by decide +kernel) hR.1, Nat.le_trans (by decide +kernel) hR.2⟩ Y.o (clsM G383.t) rfl rfl rfl rfl (Nat.le_of_ble_eq_true rfl) dX12_answered_465 ⟨Nat.zero_le _, Nat.zero_le _⟩ (fun σ386 p387 => ?_)
              obtain ⟨G389, F390⟩ := p387
              have F391 := F385.call F390 (by first | rfl | simp)
              exact hend σ386 _ _ G389 F391 dX12_answered_468
            | 14, o194, x195 =>
              replace o194 : o192 = 135 := by simp at o194; omega
              obtain rfl : g193 = 304 := by omega
              refine v_aload_n B dX12_answered_304 rfl rfl ?_
              refine v_iload_n B dX12_answered_305 rfl rfl ?_
              refine v_iload_n B dX12_answered_306 rfl rfl ?_
              refine v_iload_n B dX12_answered_307 rfl rfl ?_
              refine u_callVv B Z hz (n := 3) (As := [.int (iI d), .int (iI x2), .int (iI x3)]) (rest := []) (c_M_rows l D K Z _ _ _ _ h q Y d x2 x3 ⟨by omega, by omega⟩ ⟨by omega, by omega⟩ ⟨by omega, by omega⟩ σ0 G0 (At.mk h13 e16 (by omega) ⟨by omega, by omega⟩) (po189 (by omega)) (by omega)) gd_M_answered_M_rows_627 rfl rfl rfl (by decide +kernel) ⟨Nat.le_trans (by decide +kernel) hR.1, Nat.le_trans (by decide +kernel) hR.2⟩ Y.o (clsM G0.t) rfl rfl rfl rfl (Nat.le_of_ble_eq_true rfl) dX12_answered_308 ⟨Nat.zero_le _, Nat.zero_le _⟩ (fun σ392 p393 => ?_)
              obtain ⟨G395, F396⟩ := p393
              have F397 := F0.call F396 (by first | rfl | simp)
              refine v_goto B (tgt := 468) dX12_answered_311 (by decide +kernel) ?_
              exact hend σ392 _ _ G395 F397 dX12_answered_468
            | 15, o194, x195 =>
              replace o194 : o192 = 280 := by simp at o194; omega
              obtain rfl : g193 = 449 := by omega
              refine v_aload_n B dX12_answered_449 rfl rfl ?_
              refine v_iload_n B dX12_answered_450 rfl rfl ?_
              refine v_iconst B (v := iI 5) dX12_answered_451 rfl ?_
              refine v_aload_n B dX12_answered_452 rfl rfl ?_
              refine u_get B Z (C := RX12) (T := TX12) (N := 123) (ci := 12) hi_M_answered_X12 Y.o h6 rfl 117 (by decide +kernel) (List.mem_of_getElem? (i := 4) rfl) rfl dX12_answered_453 ?_
              refine v_iload_n B dX12_answered_456 rfl rfl ?_
              obtain ⟨f398, h399, e400⟩ := ga_117 G0.t
              obtain ⟨z401, e402, r403⟩ := e400 (d : Int).toNat
              refine u_iald B Z (t0 := 0) (ym_117 Y) h399 rfl (by omega) e402 dX12_answered_457 ?_
              refine v_iconst B (v := iI 0) dX12_answered_458 rfl ?_
              refine v_iconst B (v := iI 0) dX12_answered_459 rfl ?_
              refine u_callVv B Z hz (n := 5) (As := [.int (iI d), .int (iI 5), .int (iI z401), .int (iI 0), .int (iI 0)]) (rest := []) (c_M_complete5 l D K Z _ _ _ _ h q Y d 5 z401 0 0 ⟨by omega, by omega⟩ ⟨by omega, by omega⟩ ⟨by omega, by omega⟩ ⟨by omega, by omega⟩ ⟨by omega, by omega⟩ σ0 G0) gd_M_answered_M_complete5_504 rfl rfl rfl (by decide +kernel) ⟨Nat.le_trans (by decide +kernel) hR.1, Nat.le_trans (by decide +kernel) hR.2⟩ Y.o (clsM G0.t) rfl rfl rfl rfl (Nat.le_of_ble_eq_true rfl) dX12_answered_460 ⟨Nat.zero_le _, Nat.zero_le _⟩ (fun σ404 p405 => ?_)
              obtain ⟨G407, F408⟩ := p405
              have F409 := F0.call F408 (by first | rfl | simp)
              refine v_aload_n B dX12_answered_463 rfl rfl ?_
              refine v_iload_n B dX12_answered_464 rfl rfl ?_
              refine u_callVv B Z hz (n := 1) (As := [.int (iI d)]) (rest := []) (c_M_ends l D K Z _ _ _ _ h q Y d ⟨by omega, by omega⟩ σ404 G407) gd_M_answered_M_ends_621 rfl rfl rfl (by decide +kernel) ⟨Nat.le_trans (by decide +kernel) hR.1, Nat.le_trans (by decide +kernel) hR.2⟩ Y.o (clsM G407.t) rfl rfl rfl rfl (Nat.le_of_ble_eq_true rfl) dX12_answered_465 ⟨Nat.zero_le _, Nat.zero_le _⟩ (fun σ410 p411 => ?_)
              obtain ⟨G413, F414⟩ := p411
              have F415 := F409.call F414 (by first | rfl | simp)
              exact hend σ410 _ _ G413 F415 dX12_answered_468
            | 16, o194, x195 =>
              replace o194 : o192 = 280 := by simp at o194; omega
              obtain rfl : g193 = 449 := by omega
              refine v_aload_n B dX12_answered_449 rfl rfl ?_
              refine v_iload_n B dX12_answered_450 rfl rfl ?_
              refine v_iconst B (v := iI 5) dX12_answered_451 rfl ?_
              refine v_aload_n B dX12_answered_452 rfl rfl ?_
              refine u_get B Z (C := RX12) (T := TX12) (N := 123) (ci := 12) hi_M_answered_X12 Y.o h6 rfl 117 (by decide +kernel) (List.mem_of_getElem? (i := 4) rfl) rfl dX12_answered_453 ?_
              refine v_iload_n B dX12_answered_456 rfl rfl ?_
              obtain ⟨f416, h417, e418⟩ := ga_117 G0.t
              obtain ⟨z419, e420, r421⟩ := e418 (d : Int).toNat
              refine u_iald B Z (t0 := 0) (ym_117 Y) h417 rfl (by omega) e420 dX12_answered_457 ?_
              refine v_iconst B (v := iI 0) dX12_answered_458 rfl ?_
              refine v_iconst B (v := iI 0) dX12_answered_459 rfl ?_
              refine u_callVv B Z hz (n := 5) (As := [.int (iI d), .int (iI 5), .int (iI z419), .int (iI 0), .int (iI 0)]) (rest := []) (c_M_complete5 l D K Z _ _ _ _ h q Y d 5 z419 0 0 ⟨by omega, by omega⟩ ⟨by omega, by omega⟩ ⟨by omega, by omega⟩ ⟨by omega, by omega⟩ ⟨by omega, by omega⟩ σ0 G0) gd_M_answered_M_complete5_504 rfl rfl rfl (by decide +kernel) ⟨Nat.le_trans (by decide +kernel) hR.1, Nat.le_trans (by decide +kernel) hR.2⟩ Y.o (clsM G0.t) rfl rfl rfl rfl (Nat.le_of_ble_eq_true rfl) dX12_answered_460 ⟨Nat.zero_le _, Nat.zero_le _⟩ (fun σ422 p423 => ?_)
              obtain ⟨G425, F426⟩ := p423
              have F427 := F0.call F426 (by first | rfl | simp)
              refine v_aload_n B dX12_answered_463 rfl rfl ?_
              refine v_iload_n B dX12_answered_464 rfl rfl ?_
              refine u_callVv B Z hz (n := 1) (As := [.int (iI d)]) (rest := []) (c_M_ends l D K Z _ _ _ _ h q Y d ⟨by omega, by omega⟩ σ422 G425) gd_M_answered_M_ends_621 rfl rfl rfl (by decide +kernel) ⟨Nat.le_trans (by decide +kernel) hR.1, Nat.le_trans (by decide +kernel) hR.2⟩ Y.o (clsM G425.t) rfl rfl rfl rfl (Nat.le_of_ble_eq_true rfl) dX12_answered_465 ⟨Nat.zero_le _, Nat.zero_le _⟩ (fun σ428 p429 => ?_)
              obtain ⟨G431, F432⟩ := p429
              have F433 := F427.call F432 (by first | rfl | simp)
              exact hend σ428 _ _ G431 F433 dX12_answered_468
            | 17, o194, x195 =>
              replace o194 : o192 = 280 := by simp at o194; omega
              obtain rfl : g193 = 449 := by omega
              refine v_aload_n B dX12_answered_449 rfl rfl ?_
              refine v_iload_n B dX12_answered_450 rfl rfl ?_
              refine v_iconst B (v := iI 5) dX12_answered_451 rfl ?_
              refine v_aload_n B dX12_answered_452 rfl rfl ?_
              refine u_get B Z (C := RX12) (T := TX12) (N := 123) (ci := 12) hi_M_answered_X12 Y.o h6 rfl 117 (by decide +kernel) (List.mem_of_getElem? (i := 4) rfl) rfl dX12_answered_453 ?_
              refine v_iload_n B dX12_answered_456 rfl rfl ?_
              obtain ⟨f434, h435, e436⟩ := ga_117 G0.t
              obtain ⟨z437, e438, r439⟩ := e436 (d : Int).toNat
              refine u_iald B Z (t0 := 0) (ym_117 Y) h435 rfl (by omega) e438 dX12_answered_457 ?_
              refine v_iconst B (v := iI 0) dX12_answered_458 rfl ?_
              refine v_iconst B (v := iI 0) dX12_answered_459 rfl ?_
              refine u_callVv B Z hz (n := 5) (As := [.int (iI d), .int (iI 5), .int (iI z437), .int (iI 0), .int (iI 0)]) (rest := []) (c_M_complete5 l D K Z _ _ _ _ h q Y d 5 z437 0 0 ⟨by omega, by omega⟩ ⟨by omega, by omega⟩ ⟨by omega, by omega⟩ ⟨by omega, by omega⟩ ⟨by omega, by omega⟩ σ0 G0) gd_M_answered_M_complete5_504 rfl rfl rfl (by decide +kernel) ⟨Nat.le_trans (by decide +kernel) hR.1, Nat.le_trans (by decide +kernel) hR.2⟩ Y.o (clsM G0.t) rfl rfl rfl rfl (Nat.le_of_ble_eq_true rfl) dX12_answered_460 ⟨Nat.zero_le _, Nat.zero_le _⟩ (fun σ440 p441 => ?_)
              obtain ⟨G443, F444⟩ := p441
              have F445 := F0.call F444 (by first | rfl | simp)
              refine v_aload_n B dX12_answered_463 rfl rfl ?_
              refine v_iload_n B dX12_answered_464 rfl rfl ?_
              refine u_callVv B Z hz (n := 1) (As := [.int (iI d)]) (rest := []) (c_M_ends l D K Z _ _ _ _ h q Y d ⟨by omega, by omega⟩ σ440 G443) gd_M_answered_M_ends_621 rfl rfl rfl (by decide +kernel) ⟨Nat.le_trans (by decide +kernel) hR.1, Nat.le_trans (by decide +kernel) hR.2⟩ Y.o (clsM G443.t) rfl rfl rfl rfl (Nat.le_of_ble_eq_true rfl) dX12_answered_465 ⟨Nat.zero_le _, Nat.zero_le _⟩ (fun σ446 p447 => ?_)
              obtain ⟨G449, F450⟩ := p447
              have F451 := F445.call F450 (by first | rfl | simp)
              exact hend σ446 _ _ G449 F451 dX12_answered_468
            | 18, o194, x195 =>
              replace o194 : o192 = 280 := by simp at o194; omega
              obtain rfl : g193 = 449 := by omega
              refine v_aload_n B dX12_answered_449 rfl rfl ?_
              refine v_iload_n B dX12_answered_450 rfl rfl ?_
              refine v_iconst B (v := iI 5) dX12_answered_451 rfl ?_
              refine v_aload_n B dX12_answered_452 rfl rfl ?_
              refine u_get B Z (C := RX12) (T := TX12) (N := 123) (ci := 12) hi_M_answered_X12 Y.o h6 rfl 117 (by decide +kernel) (List.mem_of_getElem? (i := 4) rfl) rfl dX12_answered_453 ?_
              refine v_iload_n B dX12_answered_456 rfl rfl ?_
              obtain ⟨f452, h453, e454⟩ := ga_117 G0.t
              obtain ⟨z455, e456, r457⟩ := e454 (d : Int).toNat
              refine u_iald B Z (t0 := 0) (ym_117 Y) h453 rfl (by omega) e456 dX12_answered_457 ?_
              refine v_iconst B (v := iI 0) dX12_answered_458 rfl ?_
              refine v_iconst B (v := iI 0) dX12_answered_459 rfl ?_
              refine u_callVv B Z hz (n := 5) (As := [.int (iI d), .int (iI 5), .int (iI z455), .int (iI 0), .int (iI 0)]) (rest := []) (c_M_complete5 l D K Z _ _ _ _ h q Y d 5 z455 0 0 ⟨by omega, by omega⟩ ⟨by omega, by omega⟩ ⟨by omega, by omega⟩ ⟨by omega, by omega⟩ ⟨by omega, by omega⟩ σ0 G0) gd_M_answered_M_complete5_504 rfl rfl rfl (by decide +kernel) ⟨Nat.le_trans (by decide +kernel) hR.1, Nat.le_trans (by decide +kernel) hR.2⟩ Y.o (clsM G0.t) rfl rfl rfl rfl (Nat.le_of_ble_eq_true rfl) dX12_answered_460 ⟨Nat.zero_le _, Nat.zero_le _⟩ (fun σ458 p459 => ?_)
              obtain ⟨G461, F462⟩ := p459
              have F463 := F0.call F462 (by first | rfl | simp)
              refine v_aload_n B dX12_answered_463 rfl rfl ?_
              refine v_iload_n B dX12_answered_464 rfl rfl ?_
              refine u_callVv B Z hz (n := 1) (As := [.int (iI d)]) (rest := []) (c_M_ends l D K Z _ _ _ _ h q Y d ⟨by omega, by omega⟩ σ458 G461) gd_M_answered_M_ends_621 rfl rfl rfl (by decide +kernel) ⟨Nat.le_trans (by decide +kernel) hR.1, Nat.le_trans (by decide +kernel) hR.2⟩ Y.o (clsM G461.t) rfl rfl rfl rfl (Nat.le_of_ble_eq_true rfl) dX12_answered_465 ⟨Nat.zero_le _, Nat.zero_le _⟩ (fun σ464 p465 => ?_)
              obtain ⟨G467, F468⟩ := p465
              have F469 := F463.call F468 (by first | rfl | simp)
              exact hend σ464 _ _ G467 F469 dX12_answered_468
            | 19, o194, x195 =>
              replace o194 : o192 = 280 := by simp at o194; omega
              obtain rfl : g193 = 449 := by omega
              refine v_aload_n B dX12_answered_449 rfl rfl ?_
              refine v_iload_n B dX12_answered_450 rfl rfl ?_
              refine v_iconst B (v := iI 5) dX12_answered_451 rfl ?_
              refine v_aload_n B dX12_answered_452 rfl rfl ?_
              refine u_get B Z (C := RX12) (T := TX12) (N := 123) (ci := 12) hi_M_answered_X12 Y.o h6 rfl 117 (by decide +kernel) (List.mem_of_getElem? (i := 4) rfl) rfl dX12_answered_453 ?_
              refine v_iload_n B dX12_answered_456 rfl rfl ?_
              obtain ⟨f470, h471, e472⟩ := ga_117 G0.t
              obtain ⟨z473, e474, r475⟩ := e472 (d : Int).toNat
              refine u_iald B Z (t0 := 0) (ym_117 Y) h471 rfl (by omega) e474 dX12_answered_457 ?_
              refine v_iconst B (v := iI 0) dX12_answered_458 rfl ?_
              refine v_iconst B (v := iI 0) dX12_answered_459 rfl ?_
              refine u_callVv B Z hz (n := 5) (As := [.int (iI d), .int (iI 5), .int (iI z473), .int (iI 0), .int (iI 0)]) (rest := []) (c_M_complete5 l D K Z _ _ _ _ h q Y d 5 z473 0 0 ⟨by omega, by omega⟩ ⟨by omega, by omega⟩ ⟨by omega, by omega⟩ ⟨by omega, by omega⟩ ⟨by omega, by omega⟩ σ0 G0) gd_M_answered_M_complete5_504 rfl rfl rfl (by decide +kernel) ⟨Nat.le_trans (by decide +kernel) hR.1, Nat.le_trans (by decide +kernel) hR.2⟩ Y.o (clsM G0.t) rfl rfl rfl rfl (Nat.le_of_ble_eq_true rfl) dX12_answered_460 ⟨Nat.zero_le _, Nat.zero_le _⟩ (fun σ476 p477 => ?_)
              obtain ⟨G479, F480⟩ := p477
              have F481 := F0.call F480 (by first | rfl | simp)
              refine v_aload_n B dX12_answered_463 rfl rfl ?_
              refine v_iload_n B dX12_answered_464 rfl rfl ?_
              refine u_callVv B Z hz (n := 1) (As := [.int (iI d)]) (rest := []) (c_M_ends l D K Z _ _ _ _ h q Y d ⟨by omega, by omega⟩ σ476 G479) gd_M_answered_M_ends_621 rfl rfl rfl (by decide +kernel) ⟨Nat.le_trans (by decide +kernel) hR.1, Nat.le_trans (by decide +kernel) hR.2⟩ Y.o (clsM G479.t) rfl rfl rfl rfl (Nat.le_of_ble_eq_true rfl) dX12_answered_465 ⟨Nat.zero_le _, Nat.zero_le _⟩ (fun σ482 p483 => ?_)
              obtain ⟨G485, F486⟩ := p483
              have F487 := F481.call F486 (by first | rfl | simp)
              exact hend σ482 _ _ G485 F487 dX12_answered_468
            | 20, o194, x195 =>
              replace o194 : o192 = 271 := by simp at o194; omega
              obtain rfl : g193 = 440 := by omega
              refine v_aload_n B dX12_answered_440 rfl rfl ?_
              refine v_iload_n B dX12_answered_441 rfl rfl ?_
              refine v_iconst B (v := iI 0) dX12_answered_442 rfl ?_
              refine u_callVv B Z hz (n := 2) (As := [.int (iI d), .int (iI 0)]) (rest := []) (c_M_asksFor l D K Z _ _ _ _ h q Y d 0 ⟨by omega, by omega⟩ ⟨by omega, by omega⟩ σ0 G0 (At.mk h13 e16 (by omega) ⟨by omega, by omega⟩)) gd_M_answered_M_asksFor_630 rfl rfl rfl (by decide +kernel) ⟨Nat.le_trans (by decide +kernel) hR.1, Nat.le_trans (by decide +kernel) hR.2⟩ Y.o (clsM G0.t) rfl rfl rfl rfl (Nat.le_of_ble_eq_true rfl) dX12_answered_443 ⟨Nat.zero_le _, Nat.zero_le _⟩ (fun σ488 p489 => ?_)
              obtain ⟨G491, F492⟩ := p489
              have F493 := F0.call F492 (by first | rfl | simp)
              refine v_goto B (tgt := 468) dX12_answered_446 (by decide +kernel) ?_
              exact hend σ488 _ _ G491 F493 dX12_answered_468
            | i191 + 21, o194, x195 => exact absurd (o194.symm.trans (Array.getElem?_eq_none (by simp))) (by simp)
          · intro x195
            refine v_aload_n B dX12_answered_449 rfl rfl ?_
            refine v_iload_n B dX12_answered_450 rfl rfl ?_
            refine v_iconst B (v := iI 5) dX12_answered_451 rfl ?_
            refine v_aload_n B dX12_answered_452 rfl rfl ?_
            refine u_get B Z (C := RX12) (T := TX12) (N := 123) (ci := 12) hi_M_answered_X12 Y.o h6 rfl 117 (by decide +kernel) (List.mem_of_getElem? (i := 4) rfl) rfl dX12_answered_453 ?_
            refine v_iload_n B dX12_answered_456 rfl rfl ?_
            obtain ⟨f494, h495, e496⟩ := ga_117 G0.t
            obtain ⟨z497, e498, r499⟩ := e496 (d : Int).toNat
            refine u_iald B Z (t0 := 0) (ym_117 Y) h495 rfl (by omega) e498 dX12_answered_457 ?_
            refine v_iconst B (v := iI 0) dX12_answered_458 rfl ?_
            refine v_iconst B (v := iI 0) dX12_answered_459 rfl ?_
            refine u_callVv B Z hz (n := 5) (As := [.int (iI d), .int (iI 5), .int (iI z497), .int (iI 0), .int (iI 0)]) (rest := []) (c_M_complete5 l D K Z _ _ _ _ h q Y d 5 z497 0 0 ⟨by omega, by omega⟩ ⟨by omega, by omega⟩ ⟨by omega, by omega⟩ ⟨by omega, by omega⟩ ⟨by omega, by omega⟩ σ0 G0) gd_M_answered_M_complete5_504 rfl rfl rfl (by decide +kernel) ⟨Nat.le_trans (by decide +kernel) hR.1, Nat.le_trans (by decide +kernel) hR.2⟩ Y.o (clsM G0.t) rfl rfl rfl rfl (Nat.le_of_ble_eq_true rfl) dX12_answered_460 ⟨Nat.zero_le _, Nat.zero_le _⟩ (fun σ500 p501 => ?_)
            obtain ⟨G503, F504⟩ := p501
            have F505 := F0.call F504 (by first | rfl | simp)
            refine v_aload_n B dX12_answered_463 rfl rfl ?_
            refine v_iload_n B dX12_answered_464 rfl rfl ?_
            refine u_callVv B Z hz (n := 1) (As := [.int (iI d)]) (rest := []) (c_M_ends l D K Z _ _ _ _ h q Y d ⟨by omega, by omega⟩ σ500 G503) gd_M_answered_M_ends_621 rfl rfl rfl (by decide +kernel) ⟨Nat.le_trans (by decide +kernel) hR.1, Nat.le_trans (by decide +kernel) hR.2⟩ Y.o (clsM G503.t) rfl rfl rfl rfl (Nat.le_of_ble_eq_true rfl) dX12_answered_465 ⟨Nat.zero_le _, Nat.zero_le _⟩ (fun σ506 p507 => ?_)
            obtain ⟨G509, F510⟩ := p507
            have F511 := F505.call F510 (by first | rfl | simp)
            exact hend σ506 _ _ G509 F511 dX12_answered_468
        · exact hend σ0 _ _ G0 F0 dX12_answered_167
    · refine v_iload_n B dX12_answered_16 rfl rfl ?_
      refine v_iconst B (v := iI 5) dX12_answered_17 rfl ?_
      refine u_icmp_ne B (tgt := 42) (by omega) (by omega) dX12_answered_18 (by decide +kernel) (fun c512 => ?_) (fun c512 => ?_)
      · exact hend σ0 _ _ G0 F0 dX12_answered_42
      · refine v_aload_n B dX12_answered_21 rfl rfl ?_
        refine u_get B Z (C := RX12) (T := TX12) (N := 123) (ci := 12) hi_M_answered_X12 Y.o h6 rfl 91 (by decide +kernel) (List.mem_of_getElem? (i := 60) rfl) rfl dX12_answered_22 ?_
        refine v_iconst B (v := iI 1) dX12_answered_25 rfl ?_
        obtain ⟨f513, h514, e515⟩ := ga_91 G0.t
        obtain ⟨z516, e517, r518⟩ := e515 (1 : Int).toNat
        refine u_bald B Z (t0 := 2) (ym_91 Y) h514 rfl (by omega) e517 dX12_answered_26 ?_
        refine v_sipush B (v := iI 255) dX12_answered_27 (by decide +kernel) ?_
        obtain ⟨z519, e520, r521⟩ := iI_and z516 (c := 255) (by decide) (by decide)
        refine v_iand B (v := iI z519) dX12_answered_30 e520 ?_
        refine v_aload_n B dX12_answered_31 rfl rfl ?_
        refine u_get B Z (C := RX12) (T := TX12) (N := 123) (ci := 12) hi_M_answered_X12 Y.o h6 rfl 119 (by decide +kernel) (List.mem_of_getElem? (i := 37) rfl) rfl dX12_answered_32 ?_
        refine v_iload_n B dX12_answered_35 rfl rfl ?_
        obtain ⟨f522, h523, e524⟩ := ga_119 G0.t
        obtain ⟨z525, e526, r527⟩ := e524 (d : Int).toNat
        refine u_iald B Z (t0 := 0) (ym_119 Y) h523 rfl (by omega) e526 dX12_answered_36 ?_
        refine v_iconst B (v := iI 1) dX12_answered_37 rfl ?_
        obtain ⟨z528, e529, r530⟩ := iI_any (iI z525 - iI 1)
        refine v_isub B (v := iI z528) dX12_answered_38 e529 ?_
        refine u_icmp_eq B (tgt := 43) (by omega) (by omega) dX12_answered_39 (by decide +kernel) (fun c531 => ?_) (fun c531 => ?_)
        · refine v_aload_n B dX12_answered_43 rfl rfl ?_
          refine u_get B Z (C := RX12) (T := TX12) (N := 123) (ci := 12) hi_M_answered_X12 Y.o h6 rfl 116 (by decide +kernel) (List.mem_of_getElem? (i := 22) rfl) rfl dX12_answered_44 ?_
          refine v_iload_n B dX12_answered_47 rfl rfl ?_
          refine u_iald B Z (t0 := 0) (ym_116 Y) h169 rfl (by omega) e172 dX12_answered_48 ?_
          refine v_istore B (lv' := [(4, .int (iI z171)), (0, .ref h), (1, .int (iI d)), (2, .int (iI x2)), (3, .int (iI x3))]) dX12_answered_49 (by decide +kernel) rfl ?_
          refine v_iload B dX12_answered_51 rfl ?_
          refine v_iconst B (v := iI 1) dX12_answered_53 rfl ?_
          refine u_icmp_eq B (tgt := 76) (by omega) (by omega) dX12_answered_54 (by decide +kernel) (fun c532 => ?_) (fun c532 => ?_)
          · refine v_lv [1, 2] rfl ?_
            exact J76 ⟨by omega, by omega⟩ ⟨by omega, by omega⟩ ((At.mk h13 e16 (by omega) ⟨by omega, by omega⟩))
          · refine v_iload B dX12_answered_57 rfl ?_
            refine v_iconst B (v := iI 2) dX12_answered_59 rfl ?_
            refine u_icmp_eq B (tgt := 76) (by omega) (by omega) dX12_answered_60 (by decide +kernel) (fun c533 => ?_) (fun c533 => ?_)
            · refine v_lv [1, 2] rfl ?_
              exact J76 ⟨by omega, by omega⟩ ⟨by omega, by omega⟩ ((At.mk h13 e16 (by omega) ⟨by omega, by omega⟩))
            · refine v_iload B dX12_answered_63 rfl ?_
              refine v_iconst B (v := iI 3) dX12_answered_65 rfl ?_
              refine u_icmp_eq B (tgt := 76) (by omega) (by omega) dX12_answered_66 (by decide +kernel) (fun c534 => ?_) (fun c534 => ?_)
              · refine v_lv [1, 2] rfl ?_
                exact J76 ⟨by omega, by omega⟩ ⟨by omega, by omega⟩ ((At.mk h13 e16 (by omega) ⟨by omega, by omega⟩))
              · refine v_iload B dX12_answered_69 rfl ?_
                refine v_bipush B (v := iI 6) dX12_answered_71 (by decide +kernel) ?_
                refine u_icmp_ne B (tgt := 80) (by omega) (by omega) dX12_answered_73 (by decide +kernel) (fun c535 => ?_) (fun c535 => ?_)
                · refine v_iconst B (v := iI 0) dX12_answered_80 rfl ?_
                  refine v_lv [1, 2] rfl ?_
                  exact J81 0 ⟨by omega, by omega⟩ ⟨by omega, by omega⟩ ⟨by omega, by omega⟩ ((At.mk h13 e16 (by omega) ⟨by omega, by omega⟩))
                · refine v_lv [1, 2] rfl ?_
                  exact J76 ⟨by omega, by omega⟩ ⟨by omega, by omega⟩ ((At.mk h13 e16 (by omega) ⟨by omega, by omega⟩))
        · exact hend σ0 _ _ G0 F0 dX12_answered_42
  · exact hend σ0 _ _ G0 F0 dX12_answered_10
set_option maxRecDepth 100000 in
theorem c_M_answered (l : Launch) (D : va_G) (K : Nat → ClassId) {τ : Nat → Option Ty} {dom : List Nat} (Z : Sk τ dom) (zb zL : Nat) (zx : Nat → Int32) (zs : Nat → Nat) (h : Nat) (q : Nat → Nat) (Y : MS τ h q) (d : Int) (x2 : Int) (x3 : Int) (r_d : 0 ≤ d ∧ d ≤ 1) (r_x2 : 0 ≤ x2 ∧ x2 ≤ 255) (r_x3 : -4 ≤ x3 ∧ x3 ≤ 92) (σ0 : Nat → va_E) (G0 : GM K h q σ0) (hM : At σ0 (q 85) (d : Int).toNat (0) (7)) : MZ l yX12_answered wp_M_answered ({ frames := 6, cells := 0, slots := 0, locals := 146 }) D (tysA K) [.ref h, .int (iI d), .int (iI x2), .int (iI x3)] (fd dom σ0) zb zL zx zs (Qv D (fun σ' => GM K h q σ' ∧ Fr τ [(204, 0), (216, 0), (145, 0), (144, 0), (146, 0), (190, 0), (219, 0), (182, 0), (184, 0), (185, 0), (220, 0), (222, 0), (221, 0)] σ0 σ') (fun σ' => fd dom σ')) 0 0 := by
  refine mz_of (cc := cX12_answered) (maxL := 6) (ret := none) (by decide +kernel) rfl (Nat.le_of_ble_eq_true rfl) ?_
  intro p e s m below meth c A B hr hlk _ hz
  exact b_M_answered ⟨Nat.le_refl _, Nat.le_refl _⟩ B Z hz h q Y d x2 x3 r_d r_x2 r_x3 σ0 G0 hM (fun σ' lv pc G F hd => v_vret B hr hlk σ' ⟨G, F⟩ rfl (Nat.le_refl _) (Nat.le_refl _) hd)
