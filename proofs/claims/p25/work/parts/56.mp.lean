def wp_M_says : List Cond := .code yX12_says cX12_says 5 none :: (([.fieldLink RX12 275 "LowEnergyModel" "messages" "[I", .fieldLink RX12 266 "LowEnergyModel" "message" "[B", .methodLink RX12 432 yX12_number, .static yX12_number, .initialized RX12, .code yX12_number cX12_number 6 none, .fieldLink RX12 290 "LowEnergyModel" "said" "[B", .methodLink RX12 29 yX12_copy, .static yX12_copy, .code yX12_copy cX12_copy 6 none, .fieldLink RX12 272 "LowEnergyModel" "messageMany" "[I"] : List Cond) ++ (wsX120 ++ ([])))
theorem hi_M_says_X12 : ∀ x ∈ u_ws RX12 TX12 123, x ∈ wp_M_says := fun _ h => List.mem_cons_of_mem _ (List.mem_append_right _ (List.mem_append_left _ h))
set_option maxRecDepth 100000 in
theorem gd_M_says_M_numberP_432 : GoodIn wp_M_says (va_wsS RX12 432 yX12_number wp_M_numberP) := goodIn_app (goodIn_r _ [3, 4, 5] rfl rfl) (goodIn_ca (goodIn_r _ [6] rfl rfl) (goodIn_nil))
set_option maxRecDepth 100000 in
theorem gd_M_says_M_copy_29 : GoodIn wp_M_says (va_wsS RX12 29 yX12_copy wp_M_copy) := goodIn_app (goodIn_r _ [8, 9, 5] rfl rfl) (goodIn_ca (goodIn_r _ [10] rfl rfl) (goodIn_nil))
set_option maxHeartbeats 4000000 in
set_option maxRecDepth 100000 in
theorem b_M_says {p : Program} {l : Launch} {e : Env} {R : Room} {s : State} {m : MethodId} {args : Array Value} {below : List Frame} {meth : Method} {c : Code} {D : va_G} {K : Nat → ClassId} {A : Nat → Prop} {Q : State → Prop} {τ : Nat → Option Ty} {dom : List Nat} {zb zL : Nat} {zx : Nat → Int32} {zs : Nat → Nat} (hR : 1 ≤ R.frames ∧ 25 ≤ R.locals) (B : Bx p s m args c cX12_says 5 RX12 wp_M_says D (tysA K) A) (Z : Sk τ dom) (hz : ZL zb zL zx zs A s s.heap) (h : Nat) (q : Nat → Nat) (Y : MS τ h q) (d : Int) (x2 : Int) (x3 : Int) (r_d : 0 ≤ d ∧ d ≤ 1) (r_x2 : -2147483648 ≤ x2 ∧ x2 ≤ 2147483647) (r_x3 : -3000 ≤ x3 ∧ x3 ≤ 92) (σ0 : Nat → va_E) (G0 : GM K h q σ0) (hM : At σ0 (q 85) (d : Int).toNat (0) (7)) (hn : 0 ≤ x3) (hend : ∀ (σ' : Nat → va_E) (lv : List (Nat × Value)) (pc : Nat), GM K h q σ' → Fr τ [(182, 0), (184, 0), (185, 0)] σ0 σ' → decode cX12_says pc = .ok (.return_, 1) → V p l e R s m args below meth c 5 D A Q (0, 0) (fd dom σ') lv pc []) : V p l e R s m args below meth c 5 D A Q (0, 0) (fd dom σ0) [(0, .ref h), (1, .int (iI d)), (2, .int (iI x2)), (3, .int (iI x3))] 0 [] := by
  have F0 : Fr τ [(182, 0), (184, 0), (185, 0)] σ0 σ0 := Fr.rf
  obtain ⟨z1, z2, z3, z4, z5, h6, r7, r8, r9, r10, r11⟩ := G0.t.o
  obtain ⟨f12, h13, e14⟩ := ga_85 G0.t
  obtain ⟨z15, e16, r17⟩ := e14 (d : Int).toNat
  have r18 := hM.use h13 e16 (by omega)
  refine v_bipush B (v := iI 96) dX12_says_0 (by decide +kernel) ?_
  refine v_bipush B (v := iI 8) dX12_says_2 (by decide +kernel) ?_
  refine v_iload_n B dX12_says_4 rfl rfl ?_
  refine v_imul B (v := iI (8 * d)) dX12_says_5 ((iI_mul _ _).trans (congrArg iI (by omega))) ?_
  refine v_aload_n B dX12_says_6 rfl rfl ?_
  refine u_get B Z (C := RX12) (T := TX12) (N := 123) (ci := 12) hi_M_says_X12 Y.o h6 rfl 85 (by decide +kernel) (List.mem_of_getElem? (i := 1) rfl) rfl dX12_says_7 ?_
  refine v_iload_n B dX12_says_10 rfl rfl ?_
  refine u_iald B Z (t0 := 0) (ym_85 Y) h13 rfl (by omega) e16 dX12_says_11 ?_
  refine v_iadd B (v := iI (8 * d + z15)) dX12_says_12 ((iI_add _ _).trans (congrArg iI (by omega))) ?_
  refine v_imul B (v := iI (768 * d + 96 * z15)) dX12_says_13 ((iI_mul _ _).trans (congrArg iI (by omega))) ?_
  refine v_istore B (lv' := [(4, .int (iI (768 * d + 96 * z15))), (0, .ref h), (1, .int (iI d)), (2, .int (iI x2)), (3, .int (iI x3))]) dX12_says_14 (by decide +kernel) rfl ?_
  refine v_aload_n B dX12_says_16 rfl rfl ?_
  refine u_get B Z (C := RX12) (T := TX12) (N := 123) (ci := 12) hi_M_says_X12 Y.o h6 rfl 82 (by decide +kernel) (List.mem_of_getElem? (i := 2) rfl) rfl dX12_says_17 ?_
  refine v_iload B dX12_says_20 rfl ?_
  refine v_iload_n B dX12_says_22 rfl rfl ?_
  refine v_i2l B (v := lI x3) dX12_says_23 (lI_i (by omega)) ?_
  refine v_iconst B (v := iI 2) dX12_says_24 rfl ?_
  refine u_callSv B Z hz (n := 4) (As := [.ref (q 82), .int (iI (768 * d + 96 * z15)), .long (lI x3), .int (iI 2)]) (rest := []) (c_M_numberP l D K Z _ _ _ _ h q Y 82 1536 (768 * d + 96 * z15) x3 2 rfl ⟨by omega, by omega⟩ ⟨by omega, by omega⟩ ⟨by omega, by omega⟩ σ0 G0 (by omega)) gd_M_says_M_numberP_432 rfl rfl rfl (by decide +kernel) ⟨Nat.le_trans (by decide +kernel) hR.1, Nat.le_trans (by decide +kernel) hR.2⟩ rfl rfl (Nat.le_of_ble_eq_true rfl) dX12_says_25 ⟨Nat.zero_le _, Nat.zero_le _⟩ (fun σ19 p20 => ?_)
  obtain ⟨G22, F23⟩ := p20
  have F24 := F0.call F23 (by first | rfl | simp)
  refine v_aload_n B dX12_says_28 rfl rfl ?_
  have h25 := (F23 h _ Y.o (by first | rfl | simp)).trans (h6)
  refine u_get B Z (C := RX12) (T := TX12) (N := 123) (ci := 12) hi_M_says_X12 Y.o h25 rfl 82 (by decide +kernel) (List.mem_of_getElem? (i := 2) rfl) rfl dX12_says_29 ?_
  refine v_iload B dX12_says_32 rfl ?_
  refine v_iconst B (v := iI 2) dX12_says_34 rfl ?_
  refine v_iadd B (v := iI (768 * d + 96 * z15 + 2)) dX12_says_35 ((iI_add _ _).trans (congrArg iI (by omega))) ?_
  refine v_iload_n B dX12_says_36 rfl rfl ?_
  refine v_i2l B (v := lI x2) dX12_says_37 (lI_i (by omega)) ?_
  refine v_iconst B (v := iI 2) dX12_says_38 rfl ?_
  refine u_callSv B Z hz (n := 4) (As := [.ref (q 82), .int (iI (768 * d + 96 * z15 + 2)), .long (lI x2), .int (iI 2)]) (rest := []) (c_M_numberP l D K Z _ _ _ _ h q Y 82 1536 (768 * d + 96 * z15 + 2) x2 2 rfl ⟨by omega, by omega⟩ ⟨by omega, by omega⟩ ⟨by omega, by omega⟩ σ19 G22 (by omega)) gd_M_says_M_numberP_432 rfl rfl rfl (by decide +kernel) ⟨Nat.le_trans (by decide +kernel) hR.1, Nat.le_trans (by decide +kernel) hR.2⟩ rfl rfl (Nat.le_of_ble_eq_true rfl) dX12_says_39 ⟨Nat.zero_le _, Nat.zero_le _⟩ (fun σ26 p27 => ?_)
  obtain ⟨G29, F30⟩ := p27
  have F31 := F24.call F30 (by first | rfl | simp)
  refine v_aload_n B dX12_says_42 rfl rfl ?_
  have h32 := (F30 h _ Y.o (by first | rfl | simp)).trans (h25)
  refine u_get B Z (C := RX12) (T := TX12) (N := 123) (ci := 12) hi_M_says_X12 Y.o h32 rfl 90 (by decide +kernel) (List.mem_of_getElem? (i := 7) rfl) rfl dX12_says_43 ?_
  refine v_iconst B (v := iI 0) dX12_says_46 rfl ?_
  refine v_aload_n B dX12_says_47 rfl rfl ?_
  refine u_get B Z (C := RX12) (T := TX12) (N := 123) (ci := 12) hi_M_says_X12 Y.o h32 rfl 82 (by decide +kernel) (List.mem_of_getElem? (i := 2) rfl) rfl dX12_says_48 ?_
  refine v_iload B dX12_says_51 rfl ?_
  refine v_iconst B (v := iI 4) dX12_says_53 rfl ?_
  refine v_iadd B (v := iI (768 * d + 96 * z15 + 4)) dX12_says_54 ((iI_add _ _).trans (congrArg iI (by omega))) ?_
  refine v_iload_n B dX12_says_55 rfl rfl ?_
  refine u_callSv B Z hz (n := 5) (As := [.ref (q 90), .int (iI 0), .ref (q 82), .int (iI (768 * d + 96 * z15 + 4)), .int (iI x3)]) (rest := []) (c_M_copy l D K Z _ _ _ _ h q Y 90 96 0 82 1536 (768 * d + 96 * z15 + 4) x3 rfl ⟨by omega, by omega⟩ rfl ⟨by omega, by omega⟩ ⟨by omega, by omega⟩ σ26 G29 (by omega)) gd_M_says_M_copy_29 rfl rfl rfl (by decide +kernel) ⟨Nat.le_trans (by decide +kernel) hR.1, Nat.le_trans (by decide +kernel) hR.2⟩ rfl rfl (Nat.le_of_ble_eq_true rfl) dX12_says_56 ⟨Nat.zero_le _, Nat.zero_le _⟩ (fun σ33 p34 => ?_)
  obtain ⟨G36, F37⟩ := p34
  have F38 := F31.call F37 (by first | rfl | simp)
  refine v_aload_n B dX12_says_59 rfl rfl ?_
  have h39 := (F37 h _ Y.o (by first | rfl | simp)).trans (h32)
  refine u_get B Z (C := RX12) (T := TX12) (N := 123) (ci := 12) hi_M_says_X12 Y.o h39 rfl 84 (by decide +kernel) (List.mem_of_getElem? (i := 11) rfl) rfl dX12_says_60 ?_
  refine v_bipush B (v := iI 8) dX12_says_63 (by decide +kernel) ?_
  refine v_iload_n B dX12_says_65 rfl rfl ?_
  refine v_imul B (v := iI (8 * d)) dX12_says_66 ((iI_mul _ _).trans (congrArg iI (by omega))) ?_
  refine v_aload_n B dX12_says_67 rfl rfl ?_
  refine u_get B Z (C := RX12) (T := TX12) (N := 123) (ci := 12) hi_M_says_X12 Y.o h39 rfl 85 (by decide +kernel) (List.mem_of_getElem? (i := 1) rfl) rfl dX12_says_68 ?_
  refine v_iload_n B dX12_says_71 rfl rfl ?_
  have h40 := (F37 (q 85) _ (ym_85 Y) (by first | rfl | simp)).trans ((F30 (q 85) _ (ym_85 Y) (by first | rfl | simp)).trans ((F23 (q 85) _ (ym_85 Y) (by first | rfl | simp)).trans (h13)))
  refine u_iald B Z (t0 := 0) (ym_85 Y) h40 rfl (by omega) e16 dX12_says_72 ?_
  refine v_iadd B (v := iI (8 * d + z15)) dX12_says_73 ((iI_add _ _).trans (congrArg iI (by omega))) ?_
  refine v_iload_n B dX12_says_74 rfl rfl ?_
  refine v_iconst B (v := iI 4) dX12_says_75 rfl ?_
  refine v_iadd B (v := iI (x3 + 4)) dX12_says_76 ((iI_add _ _).trans (congrArg iI (by omega))) ?_
  obtain ⟨f41, h42, e43⟩ := ga_86 G36.t
  obtain ⟨f44, h45, e46⟩ := ga_84 G36.t
  obtain ⟨z47, e48, r49⟩ := e43 (d : Int).toNat
  have ra50 := G36.a _ _ _ _ _ _ _ _ _ h40 h42 h45
  refine u_iast B Z (t0 := 0) (x := iI (x3 + 4)) (ym_84 Y) h45 rfl (by omega) dX12_says_77 (fun σ51 h52 n53 => ?_)
  have e54 := el_upd (z := (x3 + 4)) e46 ⟨by omega, by omega⟩ ((8 * d + z15) : Int).toNat
  have F55 := F38.put (ym_84 Y) (by simp) n53
  have T56 := gp_84 Y G36.t ⟨_, h52, e54⟩ n53
  have R57 := (G36.b).kept (n53 _ (ne_ty (ym_106 Y) (ym_84 Y) (by decide))) (n53 _ (ne_ty (ym_110 Y) (ym_84 Y) (by decide)))
  have R58 := (G36.c).kept (n53 _ (ne_ty (ym_7 Y) (ym_84 Y) (by decide))) (n53 _ (ne_ty (ym_15 Y) (ym_84 Y) (by decide)))
  have R59 := (G36.d).kept (n53 _ (ne_ty (ym_41 Y) (ym_84 Y) (by decide))) (n53 _ (ne_ty (ym_16 Y) (ym_84 Y) (by decide)))
  have h60 := (n53 (q 85) (ne_ty (ym_85 Y) (ym_84 Y) (by decide))).trans (h40)
  have h61 := (n53 (q 86) (ne_ty (ym_86 Y) (ym_84 Y) (by decide))).trans (h42)
  have R62 : RelA q σ51 := RelA.mk h60 h61 h52 (RA.set ra50 (d : Int).toNat (fun _ _ => rfl) (fun _ _ => rfl) (fun i h2 hi => upd_n (by omega)) (fun x y z e1 e2 e3 r1 r2 r3 => by have a1 : z15 = x := (iI_eq (by omega) r1).mp ((e16).symm.trans e1); have a2 : z47 = y := (iI_eq (by omega) r2).mp ((e48).symm.trans e2); obtain ⟨z9, e9, r9⟩ := e46 (8 * (d : Int).toNat); have ro := ra50 (d : Int).toNat (by omega) z15 z47 z9 e16 e48 e9 (by omega) (by omega) (by omega); obtain ⟨z8, e8, r8⟩ := e54 (8 * (d : Int).toNat); have a3 : z8 = z := (iI_eq (by omega) r3).mp (e8.symm.trans e3); by_cases c9 : z15 = 0; (· omega); have a4 : z47 = 0 ∨ z9 = z := (by first | exact Or.inl (by omega) | exact Or.inr ((iI_eq (by omega) r3).mp (e9.symm.trans ((upd_n (by omega)).symm.trans e3)))); omega))
  have G63 : GM K h q σ51 := ⟨T56, R62, R57, R58, R59⟩
  refine v_aload_n B dX12_says_78 rfl rfl ?_
  have h64 := (n53 h (ne_ty Y.o (ym_84 Y) (by decide))).trans (h39)
  refine u_get B Z (C := RX12) (T := TX12) (N := 123) (ci := 12) hi_M_says_X12 Y.o h64 rfl 85 (by decide +kernel) (List.mem_of_getElem? (i := 1) rfl) rfl dX12_says_79 ?_
  refine v_iload_n B dX12_says_82 rfl rfl ?_
  refine v_dup2 B dX12_says_83 rfl rfl ?_
  refine u_iald B Z (t0 := 0) (ym_85 Y) h60 rfl (by omega) e16 dX12_says_84 ?_
  refine v_iconst B (v := iI 1) dX12_says_85 rfl ?_
  refine v_iadd B (v := iI (z15 + 1)) dX12_says_86 ((iI_add _ _).trans (congrArg iI (by omega))) ?_
  have ra65 := G63.a _ _ _ _ _ _ _ _ _ h60 h61 h52
  refine u_iast B Z (t0 := 0) (x := iI (z15 + 1)) (ym_85 Y) h60 rfl (by omega) dX12_says_87 (fun σ66 h67 n68 => ?_)
  have e69 := el_upd (z := (z15 + 1)) e14 ⟨by omega, by omega⟩ (d : Int).toNat
  have F70 := F55.put (ym_85 Y) (by simp) n68
  have T71 := gp_85 Y G63.t ⟨_, h67, e69⟩ n68
  have R72 := (G63.b).kept (n68 _ (ne_ty (ym_106 Y) (ym_85 Y) (by decide))) (n68 _ (ne_ty (ym_110 Y) (ym_85 Y) (by decide)))
  have R73 := (G63.c).kept (n68 _ (ne_ty (ym_7 Y) (ym_85 Y) (by decide))) (n68 _ (ne_ty (ym_15 Y) (ym_85 Y) (by decide)))
  have R74 := (G63.d).kept (n68 _ (ne_ty (ym_41 Y) (ym_85 Y) (by decide))) (n68 _ (ne_ty (ym_16 Y) (ym_85 Y) (by decide)))
  have h75 := (n68 (q 86) (ne_ty (ym_86 Y) (ym_85 Y) (by decide))).trans (h61)
  have h76 := (n68 (q 84) (ne_ty (ym_84 Y) (ym_85 Y) (by decide))).trans (h52)
  have R77 : RelA q σ66 := RelA.mk h67 h75 h76 (RA.set ra65 (d : Int).toNat (fun i hi => upd_n hi) (fun _ _ => rfl) (fun _ _ _ => rfl) (fun x y z e1 e2 e3 r1 r2 r3 => by have a1 : (z15 + 1) = x := (iI_eq (by omega) r1).mp ((upd_s).symm.trans e1); have a2 : z47 = y := (iI_eq (by omega) r2).mp ((e48).symm.trans e2); obtain ⟨z9, e9, r9⟩ := e54 (8 * (d : Int).toNat); have ro := ra65 (d : Int).toNat (by omega) z15 z47 z9 e16 e48 e9 (by omega) (by omega) (by omega); have a3 : z9 = z := (iI_eq (by omega) r3).mp (e9.symm.trans e3); omega))
  have G78 : GM K h q σ66 := ⟨T71, R77, R72, R73, R74⟩
  exact hend σ66 _ _ G78 F70 dX12_says_88
set_option maxRecDepth 100000 in
theorem c_M_says (l : Launch) (D : va_G) (K : Nat → ClassId) {τ : Nat → Option Ty} {dom : List Nat} (Z : Sk τ dom) (zb zL : Nat) (zx : Nat → Int32) (zs : Nat → Nat) (h : Nat) (q : Nat → Nat) (Y : MS τ h q) (d : Int) (x2 : Int) (x3 : Int) (r_d : 0 ≤ d ∧ d ≤ 1) (r_x2 : -2147483648 ≤ x2 ∧ x2 ≤ 2147483647) (r_x3 : -3000 ≤ x3 ∧ x3 ≤ 92) (σ0 : Nat → va_E) (G0 : GM K h q σ0) (hM : At σ0 (q 85) (d : Int).toNat (0) (7)) (hn : 0 ≤ x3) : MZ l yX12_says wp_M_says ({ frames := 1, cells := 0, slots := 0, locals := 25 }) D (tysA K) [.ref h, .int (iI d), .int (iI x2), .int (iI x3)] (fd dom σ0) zb zL zx zs (Qv D (fun σ' => GM K h q σ' ∧ Fr τ [(182, 0), (184, 0), (185, 0)] σ0 σ') (fun σ' => fd dom σ')) 0 0 := by
  refine mz_of (cc := cX12_says) (maxL := 5) (ret := none) (by decide +kernel) rfl (Nat.le_of_ble_eq_true rfl) ?_
  intro p e s m below meth c A B hr hlk _ hz
  exact b_M_says ⟨Nat.le_refl _, Nat.le_refl _⟩ B Z hz h q Y d x2 x3 r_d r_x2 r_x3 σ0 G0 hM hn (fun σ' lv pc G F hd => v_vret B hr hlk σ' ⟨G, F⟩ rfl (Nat.le_refl _) (Nat.le_refl _) hd)

def wp_M_saysFirst : List Cond := .code yX12_saysFirst cX12_saysFirst 3 none :: (([.fieldLink RX12 290 "LowEnergyModel" "said" "[B", .fieldLink RX12 305 "LowEnergyModel" "firstTwo" "[B", .methodLink RX12 29 yX12_copy, .static yX12_copy, .initialized RX12, .code yX12_copy cX12_copy 6 none, .methodLink RX12 527 yX12_says, .instanceMethod yX12_says, .selects RX12 yX12_says yX12_says, .code yX12_says cX12_says 5 none, .fieldLink RX12 275 "LowEnergyModel" "messages" "[I", .fieldLink RX12 266 "LowEnergyModel" "message" "[B", .methodLink RX12 432 yX12_number, .static yX12_number, .code yX12_number cX12_number 6 none, .fieldLink RX12 272 "LowEnergyModel" "messageMany" "[I"] : List Cond) ++ (wsX120 ++ ([])))
theorem hi_M_saysFirst_X12 : ∀ x ∈ u_ws RX12 TX12 123, x ∈ wp_M_saysFirst := fun _ h => List.mem_cons_of_mem _ (List.mem_append_right _ (List.mem_append_left _ h))
set_option maxRecDepth 100000 in
theorem gd_M_saysFirst_M_copy_29 : GoodIn wp_M_saysFirst (va_wsS RX12 29 yX12_copy wp_M_copy) := goodIn_app (goodIn_r _ [3, 4, 5] rfl rfl) (goodIn_ca (goodIn_r _ [6] rfl rfl) (goodIn_nil))
set_option maxRecDepth 100000 in
theorem gd_M_saysFirst_M_says_527 : GoodIn wp_M_saysFirst (wsV RX12 527 RX12 yX12_says wp_M_says) := goodIn_app (goodIn_r _ [7, 8, 9, 5] rfl rfl) (goodIn_ca (goodIn_r _ [10, 11, 12, 13, 14, 5, 15, 1, 3, 4, 6, 16] rfl rfl) (goodIn_app (goodIn_cls hi_M_saysFirst_X12 gw_X12) (goodIn_nil)))
set_option maxHeartbeats 4000000 in
set_option maxRecDepth 100000 in
theorem b_M_saysFirst {p : Program} {l : Launch} {e : Env} {R : Room} {s : State} {m : MethodId} {args : Array Value} {below : List Frame} {meth : Method} {c : Code} {D : va_G} {K : Nat → ClassId} {A : Nat → Prop} {Q : State → Prop} {τ : Nat → Option Ty} {dom : List Nat} {zb zL : Nat} {zx : Nat → Int32} {zs : Nat → Nat} (hR : 2 ≤ R.frames ∧ 49 ≤ R.locals) (B : Bx p s m args c cX12_saysFirst 3 RX12 wp_M_saysFirst D (tysA K) A) (Z : Sk τ dom) (hz : ZL zb zL zx zs A s s.heap) (h : Nat) (q : Nat → Nat) (Y : MS τ h q) (d : Int) (x2 : Int) (r_d : 0 ≤ d ∧ d ≤ 1) (r_x2 : 1 ≤ x2 ∧ x2 ≤ 2) (σ0 : Nat → va_E) (G0 : GM K h q σ0) (hM : At σ0 (q 85) (d : Int).toNat (0) (7)) (hend : ∀ (σ' : Nat → va_E) (lv : List (Nat × Value)) (pc : Nat), GM K h q σ' → Fr τ [(190, 0), (195, 0), (182, 0), (184, 0), (185, 0)] σ0 σ' → decode cX12_saysFirst pc = .ok (.return_, 1) → V p l e R s m args below meth c 3 D A Q (0, 0) (fd dom σ') lv pc []) : V p l e R s m args below meth c 3 D A Q (0, 0) (fd dom σ0) [(0, .ref h), (1, .int (iI d)), (2, .int (iI x2))] 0 [] := by
  have F0 : Fr τ [(190, 0), (195, 0), (182, 0), (184, 0), (185, 0)] σ0 σ0 := Fr.rf
  obtain ⟨z1, z2, z3, z4, z5, h6, r7, r8, r9, r10, r11⟩ := G0.t.o
  obtain ⟨f12, h13, e14⟩ := ga_85 G0.t
  obtain ⟨z15, e16, r17⟩ := e14 (d : Int).toNat
  have r18 := hM.use h13 e16 (by omega)
  refine v_aload_n B dX12_saysFirst_0 rfl rfl ?_
  refine u_get B Z (C := RX12) (T := TX12) (N := 123) (ci := 12) hi_M_saysFirst_X12 Y.o h6 rfl 90 (by decide +kernel) (List.mem_of_getElem? (i := 1) rfl) rfl dX12_saysFirst_1 ?_
  refine v_iconst B (v := iI 0) dX12_saysFirst_4 rfl ?_
  refine v_iload_n B dX12_saysFirst_5 rfl rfl ?_
  obtain ⟨z19, e20, r21⟩ := iI_i8 x2
  refine v_i2b B (v := iI z19) dX12_saysFirst_6 e20 ?_
  obtain ⟨f22, h23, e24⟩ := ga_90 G0.t
  refine u_bast B Z (t0 := 2) (x := iI z19) (y := iI z19) (ym_90 Y) h23 rfl (by omega) (nar8 (by omega)) dX12_saysFirst_7 (fun σ25 h26 n27 => ?_)
  have F28 := F0.put (ym_90 Y) (by simp) n27
  have G29 := gp_90 Y G0 ⟨_, h26, el_upd (z := z19) e24 ⟨by omega, by omega⟩ _⟩ n27
  refine v_aload_n B dX12_saysFirst_8 rfl rfl ?_
  have h30 := (n27 h (ne_ty Y.o (ym_90 Y) (by decide))).trans (h6)
  refine u_get B Z (C := RX12) (T := TX12) (N := 123) (ci := 12) hi_M_saysFirst_X12 Y.o h30 rfl 90 (by decide +kernel) (List.mem_of_getElem? (i := 1) rfl) rfl dX12_saysFirst_9 ?_
  refine v_iconst B (v := iI 1) dX12_saysFirst_12 rfl ?_
  refine v_iconst B (v := iI 3) dX12_saysFirst_13 rfl ?_
  obtain ⟨f31, h32, e33⟩ := ga_90 G29.t
  refine u_bast B Z (t0 := 2) (x := iI 3) (y := iI 3) (ym_90 Y) h32 rfl (by omega) (nar8 (by omega)) dX12_saysFirst_14 (fun σ34 h35 n36 => ?_)
  have F37 := F28.put (ym_90 Y) (by simp) n36
  have G38 := gp_90 Y G29 ⟨_, h35, el_upd (z := 3) e33 ⟨by omega, by omega⟩ _⟩ n36
  refine v_aload_n B dX12_saysFirst_15 rfl rfl ?_
  have h39 := (n36 h (ne_ty Y.o (ym_90 Y) (by decide))).trans (h30)
  refine u_get B Z (C := RX12) (T := TX12) (N := 123) (ci := 12) hi_M_saysFirst_X12 Y.o h39 rfl 90 (by decide +kernel) (List.mem_of_getElem? (i := 1) rfl) rfl dX12_saysFirst_16 ?_
  refine v_iconst B (v := iI 2) dX12_saysFirst_19 rfl ?_
  refine v_iconst B (v := iI 0) dX12_saysFirst_20 rfl ?_
  obtain ⟨f40, h41, e42⟩ := ga_90 G38.t
  refine u_bast B Z (t0 := 2) (x := iI 0) (y := iI 0) (ym_90 Y) h41 rfl (by omega) (nar8 (by omega)) dX12_saysFirst_21 (fun σ43 h44 n45 => ?_)
  have F46 := F37.put (ym_90 Y) (by simp) n45
  have G47 := gp_90 Y G38 ⟨_, h44, el_upd (z := 0) e42 ⟨by omega, by omega⟩ _⟩ n45
  refine v_aload_n B dX12_saysFirst_22 rfl rfl ?_
  have h48 := (n45 h (ne_ty Y.o (ym_90 Y) (by decide))).trans (h39)
  refine u_get B Z (C := RX12) (T := TX12) (N := 123) (ci := 12) hi_M_saysFirst_X12 Y.o h48 rfl 90 (by decide +kernel) (List.mem_of_getElem? (i := 1) rfl) rfl dX12_saysFirst_23 ?_
  refine v_iconst B (v := iI 3) dX12_saysFirst_26 rfl ?_
  refine v_iconst B (v := iI 0) dX12_saysFirst_27 rfl ?_
  obtain ⟨f49, h50, e51⟩ := ga_90 G47.t
  refine u_bast B Z (t0 := 2) (x := iI 0) (y := iI 0) (ym_90 Y) h50 rfl (by omega) (nar8 (by omega)) dX12_saysFirst_28 (fun σ52 h53 n54 => ?_)
  have F55 := F46.put (ym_90 Y) (by simp) n54
  have G56 := gp_90 Y G47 ⟨_, h53, el_upd (z := 0) e51 ⟨by omega, by omega⟩ _⟩ n54
  refine v_aload_n B dX12_saysFirst_29 rfl rfl ?_
  have h57 := (n54 h (ne_ty Y.o (ym_90 Y) (by decide))).trans (h48)
  refine u_get B Z (C := RX12) (T := TX12) (N := 123) (ci := 12) hi_M_saysFirst_X12 Y.o h57 rfl 90 (by decide +kernel) (List.mem_of_getElem? (i := 1) rfl) rfl dX12_saysFirst_30 ?_
  refine v_iconst B (v := iI 4) dX12_saysFirst_33 rfl ?_
  refine v_bipush B (v := iI 16) dX12_saysFirst_34 (by decide +kernel) ?_
  obtain ⟨f58, h59, e60⟩ := ga_90 G56.t
  refine u_bast B Z (t0 := 2) (x := iI 16) (y := iI 16) (ym_90 Y) h59 rfl (by omega) (nar8 (by omega)) dX12_saysFirst_36 (fun σ61 h62 n63 => ?_)
  have F64 := F55.put (ym_90 Y) (by simp) n63
  have G65 := gp_90 Y G56 ⟨_, h62, el_upd (z := 16) e60 ⟨by omega, by omega⟩ _⟩ n63
  refine v_aload_n B dX12_saysFirst_37 rfl rfl ?_
  have h66 := (n63 h (ne_ty Y.o (ym_90 Y) (by decide))).trans (h57)
  refine u_get B Z (C := RX12) (T := TX12) (N := 123) (ci := 12) hi_M_saysFirst_X12 Y.o h66 rfl 90 (by decide +kernel) (List.mem_of_getElem? (i := 1) rfl) rfl dX12_saysFirst_38 ?_
  refine v_iconst B (v := iI 5) dX12_saysFirst_41 rfl ?_
  refine v_iconst B (v := iI 0) dX12_saysFirst_42 rfl ?_
  obtain ⟨f67, h68, e69⟩ := ga_90 G65.t
  refine u_bast B Z (t0 := 2) (x := iI 0) (y := iI 0) (ym_90 Y) h68 rfl (by omega) (nar8 (by omega)) dX12_saysFirst_43 (fun σ70 h71 n72 => ?_)
  have F73 := F64.put (ym_90 Y) (by simp) n72
  have G74 := gp_90 Y G65 ⟨_, h71, el_upd (z := 0) e69 ⟨by omega, by omega⟩ _⟩ n72
  refine v_aload_n B dX12_saysFirst_44 rfl rfl ?_
  have h75 := (n72 h (ne_ty Y.o (ym_90 Y) (by decide))).trans (h66)
  refine u_get B Z (C := RX12) (T := TX12) (N := 123) (ci := 12) hi_M_saysFirst_X12 Y.o h75 rfl 90 (by decide +kernel) (List.mem_of_getElem? (i := 1) rfl) rfl dX12_saysFirst_45 ?_
  refine v_bipush B (v := iI 6) dX12_saysFirst_48 (by decide +kernel) ?_
  refine v_iconst B (v := iI 0) dX12_saysFirst_50 rfl ?_
  obtain ⟨f76, h77, e78⟩ := ga_90 G74.t
  refine u_bast B Z (t0 := 2) (x := iI 0) (y := iI 0) (ym_90 Y) h77 rfl (by omega) (nar8 (by omega)) dX12_saysFirst_51 (fun σ79 h80 n81 => ?_)
  have F82 := F73.put (ym_90 Y) (by simp) n81
  have G83 := gp_90 Y G74 ⟨_, h80, el_upd (z := 0) e78 ⟨by omega, by omega⟩ _⟩ n81
  refine v_aload_n B dX12_saysFirst_52 rfl rfl ?_
  have h84 := (n81 h (ne_ty Y.o (ym_90 Y) (by decide))).trans (h75)
  refine u_get B Z (C := RX12) (T := TX12) (N := 123) (ci := 12) hi_M_saysFirst_X12 Y.o h84 rfl 90 (by decide +kernel) (List.mem_of_getElem? (i := 1) rfl) rfl dX12_saysFirst_53 ?_
  refine v_iconst B (v := iI 0) dX12_saysFirst_56 rfl ?_
  refine v_aload_n B dX12_saysFirst_57 rfl rfl ?_
  refine u_get B Z (C := RX12) (T := TX12) (N := 123) (ci := 12) hi_M_saysFirst_X12 Y.o h84 rfl 95 (by decide +kernel) (List.mem_of_getElem? (i := 2) rfl) rfl dX12_saysFirst_58 ?_
  refine v_bipush B (v := iI 14) dX12_saysFirst_61 (by decide +kernel) ?_
  refine v_iload_n B dX12_saysFirst_63 rfl rfl ?_
  refine v_imul B (v := iI (14 * d)) dX12_saysFirst_64 ((iI_mul _ _).trans (congrArg iI (by omega))) ?_
  refine v_bipush B (v := iI 7) dX12_saysFirst_65 (by decide +kernel) ?_
  refine v_iload_n B dX12_saysFirst_67 rfl rfl ?_
  refine v_iconst B (v := iI 1) dX12_saysFirst_68 rfl ?_
  refine v_isub B (v := iI (x2 + (-1))) dX12_saysFirst_69 ((iI_sub _ _).trans (congrArg iI (by omega))) ?_
  refine v_imul B (v := iI (7 * x2 + (-7))) dX12_saysFirst_70 ((iI_mul _ _).trans (congrArg iI (by omega))) ?_
  refine v_iadd B (v := iI (14 * d + 7 * x2 + (-7))) dX12_saysFirst_71 ((iI_add _ _).trans (congrArg iI (by omega))) ?_
  refine v_bipush B (v := iI 7) dX12_saysFirst_72 (by decide +kernel) ?_
  refine u_callSv B Z hz (n := 5) (As := [.ref (q 90), .int (iI 0), .ref (q 95), .int (iI (14 * d + 7 * x2 + (-7))), .int (iI 7)]) (rest := []) (c_M_copy l D K Z _ _ _ _ h q Y 90 96 0 95 28 (14 * d + 7 * x2 + (-7)) 7 rfl ⟨by omega, by omega⟩ rfl ⟨by omega, by omega⟩ ⟨by omega, by omega⟩ σ79 G83 (by omega)) gd_M_saysFirst_M_copy_29 rfl rfl rfl (by decide +kernel) ⟨Nat.le_trans (by decide +kernel) hR.1, Nat.le_trans (by decide +kernel) hR.2⟩ rfl rfl (Nat.le_of_ble_eq_true rfl) dX12_saysFirst_74 ⟨Nat.zero_le _, Nat.zero_le _⟩ (fun σ85 p86 => ?_)
  obtain ⟨G88, F89⟩ := p86
  have F90 := F82.call F89 (by first | rfl | simp)
  refine v_aload_n B dX12_saysFirst_77 rfl rfl ?_
  refine v_iload_n B dX12_saysFirst_78 rfl rfl ?_
  refine v_bipush B (v := iI 6) dX12_saysFirst_79 (by decide +kernel) ?_
  refine v_bipush B (v := iI 7) dX12_saysFirst_81 (by decide +kernel) ?_
  have h91 := (F89 (q 85) _ (ym_85 Y) (by first | rfl | simp)).trans ((n81 (q 85) (ne_ty (ym_85 Y) (ym_90 Y) (by decide))).trans ((n72 (q 85) (ne_ty (ym_85 Y) (ym_90 Y) (by decide))).trans ((n63 (q 85) (ne_ty (ym_85 Y) (ym_90 Y) (by decide))).trans ((n54 (q 85) (ne_ty (ym_85 Y) (ym_90 Y) (by decide))).trans ((n45 (q 85) (ne_ty (ym_85 Y) (ym_90 Y) (by decide))).trans ((n36 (q 85) (ne_ty (ym_85 Y) (ym_90 Y) (by decide))).trans ((n27 (q 85) (ne_ty (ym_85 Y) (ym_90 Y) (by decide))).trans (h13))))))))
  refine u_callVv B Z hz (n := 3) (As := [.int (iI d), .int (iI 6), .int (iI 7)]) (rest := []) (c_M_says l D K Z _ _ _ _ h q Y d 6 7 ⟨by omega, by omega⟩ ⟨by omega, by omega⟩ ⟨by omega, by omega⟩ σ85 G88 (At.mk h91 e16 (by omega) ⟨by omega, by omega⟩) (by omega)) gd_M_saysFirst_M_says_527 rfl rfl rfl (by decide +kernel) ⟨Nat.le_trans (by decide +kernel) hR.1, Nat.le_trans (by decide +kernel) hR.2⟩ Y.o (clsM G88.t) rfl rfl rfl rfl (Nat.le_of_ble_eq_true rfl) dX12_saysFirst_83 ⟨Nat.zero_le _, Nat.zero_le _⟩ (fun σ92 p93 => ?_)
  obtain ⟨G95, F96⟩ := p93
  have F97 := F90.call F96 (by first | rfl | simp)
  exact hend σ92 _ _ G95 F97 dX12_saysFirst_86
set_option maxRecDepth 100000 in
theorem c_M_saysFirst (l : Launch) (D : va_G) (K : Nat → ClassId) {τ : Nat → Option Ty} {dom : List Nat} (Z : Sk τ dom) (zb zL : Nat) (zx : Nat → Int32) (zs : Nat → Nat) (h : Nat) (q : Nat → Nat) (Y : MS τ h q) (d : Int) (x2 : Int) (r_d : 0 ≤ d ∧ d ≤ 1) (r_x2 : 1 ≤ x2 ∧ x2 ≤ 2) (σ0 : Nat → va_E) (G0 : GM K h q σ0) (hM : At σ0 (q 85) (d : Int).toNat (0) (7)) : MZ l yX12_saysFirst wp_M_saysFirst ({ frames := 2, cells := 0, slots := 0, locals := 49 }) D (tysA K) [.ref h, .int (iI d), .int (iI x2)] (fd dom σ0) zb zL zx zs (Qv D (fun σ' => GM K h q σ' ∧ Fr τ [(190, 0), (195, 0), (182, 0), (184, 0), (185, 0)] σ0 σ') (fun σ' => fd dom σ')) 0 0 := by
  refine mz_of (cc := cX12_saysFirst) (maxL := 3) (ret := none) (by decide +kernel) rfl (Nat.le_of_ble_eq_true rfl) ?_
  intro p e s m below meth c A B hr hlk _ hz
  exact b_M_saysFirst ⟨Nat.le_refl _, Nat.le_refl _⟩ B Z hz h q Y d x2 r_d r_x2 σ0 G0 hM (fun σ' lv pc G F hd => v_vret B hr hlk σ' ⟨G, F⟩ rfl (Nat.le_refl _) (Nat.le_refl _) hd)

def wp_M_saysRow : List Cond := .code yX12_saysRow cX12_saysRow 5 none :: (([.fieldLink RX12 290 "LowEnergyModel" "said" "[B", .methodLink RX12 29 yX12_copy, .static yX12_copy, .initialized RX12, .code yX12_copy cX12_copy 6 none, .methodLink RX12 527 yX12_says, .instanceMethod yX12_says, .selects RX12 yX12_says yX12_says, .code yX12_says cX12_says 5 none, .fieldLink RX12 275 "LowEnergyModel" "messages" "[I", .fieldLink RX12 266 "LowEnergyModel" "message" "[B", .methodLink RX12 432 yX12_number, .static yX12_number, .code yX12_number cX12_number 6 none, .fieldLink RX12 272 "LowEnergyModel" "messageMany" "[I"] : List Cond) ++ (wsX120 ++ ([])))
theorem hi_M_saysRow_X12 : ∀ x ∈ u_ws RX12 TX12 123, x ∈ wp_M_saysRow := fun _ h => List.mem_cons_of_mem _ (List.mem_append_right _ (List.mem_append_left _ h))
set_option maxRecDepth 100000 in
theorem gd_M_saysRow_M_copy_29 : GoodIn wp_M_saysRow (va_wsS RX12 29 yX12_copy wp_M_copy) := goodIn_app (goodIn_r _ [2, 3, 4] rfl rfl) (goodIn_ca (goodIn_r _ [5] rfl rfl) (goodIn_nil))
set_option maxRecDepth 100000 in
theorem gd_M_saysRow_M_says_527 : GoodIn wp_M_saysRow (wsV RX12 527 RX12 yX12_says wp_M_says) := goodIn_app (goodIn_r _ [6, 7, 8, 4] rfl rfl) (goodIn_ca (goodIn_r _ [9, 10, 11, 12, 13, 4, 14, 1, 2, 3, 5, 15] rfl rfl) (goodIn_app (goodIn_cls hi_M_saysRow_X12 gw_X12) (goodIn_nil)))
set_option maxHeartbeats 4000000 in
set_option maxRecDepth 100000 in
theorem b_M_saysRow {p : Program} {l : Launch} {e : Env} {R : Room} {s : State} {m : MethodId} {args : Array Value} {below : List Frame} {meth : Method} {c : Code} {D : va_G} {K : Nat → ClassId} {A : Nat → Prop} {Q : State → Prop} {τ : Nat → Option Ty} {dom : List Nat} {zb zL : Nat} {zx : Nat → Int32} {zs : Nat → Nat} (hR : 2 ≤ R.frames ∧ 49 ≤ R.locals) (B : Bx p s m args c cX12_saysRow 5 RX12 wp_M_saysRow D (tysA K) A) (Z : Sk τ dom) (hz : ZL zb zL zx zs A s s.heap) (h : Nat) (q : Nat → Nat) (Y : MS τ h q) (d : Int) (x2 : Int) (j3 Nj3 : Nat) (x4 : Int) (r_d : 0 ≤ d ∧ d ≤ 1) (r_x2 : -2147483648 ≤ x2 ∧ x2 ≤ 2147483647) (hj_j3 : tabM[j3]? = some (2, Nj3, -128, 127)) (r_x4 : 0 ≤ x4 ∧ x4 ≤ 16) (σ0 : Nat → va_E) (G0 : GM K h q σ0) (hM : At σ0 (q 85) (d : Int).toNat (0) (7)) (hc : x4 + 16 ≤ (Nj3 : Int)) (hend : ∀ (σ' : Nat → va_E) (lv : List (Nat × Value)) (pc : Nat), GM K h q σ' → Fr τ [(190, 0), (182, 0), (184, 0), (185, 0)] σ0 σ' → decode cX12_saysRow pc = .ok (.return_, 1) → V p l e R s m args below meth c 5 D A Q (0, 0) (fd dom σ') lv pc []) : V p l e R s m args below meth c 5 D A Q (0, 0) (fd dom σ0) [(0, .ref h), (1, .int (iI d)), (2, .int (iI x2)), (3, .ref (q j3)), (4, .int (iI x4))] 0 [] := by
  have F0 : Fr τ [(190, 0), (182, 0), (184, 0), (185, 0)] σ0 σ0 := Fr.rf
  have hN_j3 := lenB hj_j3
  obtain ⟨z1, z2, z3, z4, z5, h6, r7, r8, r9, r10, r11⟩ := G0.t.o
  obtain ⟨f12, h13, e14⟩ := ga_85 G0.t
  obtain ⟨z15, e16, r17⟩ := e14 (d : Int).toNat
  have r18 := hM.use h13 e16 (by omega)
  refine v_aload_n B dX12_saysRow_0 rfl rfl ?_
  refine u_get B Z (C := RX12) (T := TX12) (N := 123) (ci := 12) hi_M_saysRow_X12 Y.o h6 rfl 90 (by decide +kernel) (List.mem_of_getElem? (i := 1) rfl) rfl dX12_saysRow_1 ?_
  refine v_iconst B (v := iI 0) dX12_saysRow_4 rfl ?_
  refine v_iload_n B dX12_saysRow_5 rfl rfl ?_
  obtain ⟨z19, e20, r21⟩ := iI_i8 x2
  refine v_i2b B (v := iI z19) dX12_saysRow_6 e20 ?_
  obtain ⟨f22, h23, e24⟩ := ga_90 G0.t
  refine u_bast B Z (t0 := 2) (x := iI z19) (y := iI z19) (ym_90 Y) h23 rfl (by omega) (nar8 (by omega)) dX12_saysRow_7 (fun σ25 h26 n27 => ?_)
  have F28 := F0.put (ym_90 Y) (by simp) n27
  have G29 := gp_90 Y G0 ⟨_, h26, el_upd (z := z19) e24 ⟨by omega, by omega⟩ _⟩ n27
  refine v_aload_n B dX12_saysRow_8 rfl rfl ?_
  refine v_iload B dX12_saysRow_9 rfl ?_
  refine v_aload_n B dX12_saysRow_11 rfl rfl ?_
  have h30 := (n27 h (ne_ty Y.o (ym_90 Y) (by decide))).trans (h6)
  refine u_get B Z (C := RX12) (T := TX12) (N := 123) (ci := 12) hi_M_saysRow_X12 Y.o h30 rfl 90 (by decide +kernel) (List.mem_of_getElem? (i := 1) rfl) rfl dX12_saysRow_12 ?_
  refine v_iconst B (v := iI 1) dX12_saysRow_15 rfl ?_
  refine v_bipush B (v := iI 16) dX12_saysRow_16 (by decide +kernel) ?_
  refine u_callSv B Z hz (n := 5) (As := [.ref (q j3), .int (iI x4), .ref (q 90), .int (iI 1), .int (iI 16)]) (rest := []) (c_M_copy l D K Z _ _ _ _ h q Y j3 Nj3 x4 90 96 1 16 hj_j3 ⟨by omega, by omega⟩ rfl ⟨by omega, by omega⟩ ⟨by omega, by omega⟩ σ25 G29 (by omega)) gd_M_saysRow_M_copy_29 rfl rfl rfl (by decide +kernel) ⟨Nat.le_trans (by decide +kernel) hR.1, Nat.le_trans (by decide +kernel) hR.2⟩ rfl rfl (Nat.le_of_ble_eq_true rfl) dX12_saysRow_18 ⟨Nat.zero_le _, Nat.zero_le _⟩ (fun σ31 p32 => ?_)
  obtain ⟨G34, F35⟩ := p32
  have F36 := F28.call F35 (by first | rfl | simp)
  refine v_aload_n B dX12_saysRow_21 rfl rfl ?_
  refine v_iload_n B dX12_saysRow_22 rfl rfl ?_
  refine v_bipush B (v := iI 6) dX12_saysRow_23 (by decide +kernel) ?_
  refine v_bipush B (v := iI 17) dX12_saysRow_25 (by decide +kernel) ?_
  have h37 := (F35 (q 85) _ (ym_85 Y) (by first | rfl | simp)).trans ((n27 (q 85) (ne_ty (ym_85 Y) (ym_90 Y) (by decide))).trans (h13))
  refine u_callVv B Z hz (n := 3) (As := [.int (iI d), .int (iI 6), .int (iI 17)]) (rest := []) (c_M_says l D K Z _ _ _ _ h q Y d 6 17 ⟨by omega, by omega⟩ ⟨by omega, by omega⟩ ⟨by omega, by omega⟩ σ31 G34 (At.mk h37 e16 (by omega) ⟨by omega, by omega⟩) (by omega)) gd_M_saysRow_M_says_527 rfl rfl rfl (by decide +kernel) ⟨Nat.le_trans (by decide +kernel) hR.1, Nat.le_trans (by decide +kernel) hR.2⟩ Y.o (clsM G34.t) rfl rfl rfl rfl (Nat.le_of_ble_eq_true rfl) dX12_saysRow_27 ⟨Nat.zero_le _, Nat.zero_le _⟩ (fun σ38 p39 => ?_)
  obtain ⟨G41, F42⟩ := p39
  have F43 := F36.call F42 (by first | rfl | simp)
  exact hend σ38 _ _ G41 F43 dX12_saysRow_30
set_option maxRecDepth 100000 in
theorem c_M_saysRow (l : Launch) (D : va_G) (K : Nat → ClassId) {τ : Nat → Option Ty} {dom : List Nat} (Z : Sk τ dom) (zb zL : Nat) (zx : Nat → Int32) (zs : Nat → Nat) (h : Nat) (q : Nat → Nat) (Y : MS τ h q) (d : Int) (x2 : Int) (j3 Nj3 : Nat) (x4 : Int) (r_d : 0 ≤ d ∧ d ≤ 1) (r_x2 : -2147483648 ≤ x2 ∧ x2 ≤ 2147483647) (hj_j3 : tabM[j3]? = some (2, Nj3, -128, 127)) (r_x4 : 0 ≤ x4 ∧ x4 ≤ 16) (σ0 : Nat → va_E) (G0 : GM K h q σ0) (hM : At σ0 (q 85) (d : Int).toNat (0) (7)) (hc : x4 + 16 ≤ (Nj3 : Int)) : MZ l yX12_saysRow wp_M_saysRow ({ frames := 2, cells := 0, slots := 0, locals := 49 }) D (tysA K) [.ref h, .int (iI d), .int (iI x2), .ref (q j3), .int (iI x4)] (fd dom σ0) zb zL zx zs (Qv D (fun σ' => GM K h q σ' ∧ Fr τ [(190, 0), (182, 0), (184, 0), (185, 0)] σ0 σ') (fun σ' => fd dom σ')) 0 0 := by
  refine mz_of (cc := cX12_saysRow) (maxL := 5) (ret := none) (by decide +kernel) rfl (Nat.le_of_ble_eq_true rfl) ?_
  intro p e s m below meth c A B hr hlk _ hz
  exact b_M_saysRow ⟨Nat.le_refl _, Nat.le_refl _⟩ B Z hz h q Y d x2 j3 Nj3 x4 r_d r_x2 hj_j3 r_x4 σ0 G0 hM hc (fun σ' lv pc G F hd => v_vret B hr hlk σ' ⟨G, F⟩ rfl (Nat.le_refl _) (Nat.le_refl _) hd)

def wp_M_fails : List Cond := .code yX12_fails cX12_fails 4 none :: (([.fieldLink RX12 296 "LowEnergyModel" "step" "[I", .methodLink RX12 504 yX12_complete_, .instanceMethod yX12_complete_, .selects RX12 yX12_complete_ yX12_complete_, .initialized RX12, .code yX12_complete_ cX12_complete_ 6 none, .fieldLink RX12 10 "LowEnergyModel" "tape" "[B", .methodLink RX12 409 yX12_complete, .instanceMethod yX12_complete, .selects RX12 yX12_complete yX12_complete, .code yX12_complete cX12_complete 11 none, .fieldLink RX12 155 "LowEnergyModel" "kept" "[I", .fieldLink RX12 158 "LowEnergyModel" "keptMany" "[I", .methodLink RX12 404 Lib.Math.min.name, .static Lib.Math.min.name, .initialized "java/lang/Math", .code Lib.Math.min.name Lib.Math.min.code 2 (some .int), .fieldLink RX12 161 "LowEnergyModel" "notKept" "[I", .fieldLink RX12 290 "LowEnergyModel" "said" "[B", .methodLink RX12 527 yX12_says, .instanceMethod yX12_says, .selects RX12 yX12_says yX12_says, .code yX12_says cX12_says 5 none, .fieldLink RX12 275 "LowEnergyModel" "messages" "[I", .fieldLink RX12 266 "LowEnergyModel" "message" "[B", .methodLink RX12 432 yX12_number, .static yX12_number, .code yX12_number cX12_number 6 none, .methodLink RX12 29 yX12_copy, .static yX12_copy, .code yX12_copy cX12_copy 6 none, .fieldLink RX12 272 "LowEnergyModel" "messageMany" "[I"] : List Cond) ++ (wsX120 ++ ([])))
theorem hi_M_fails_X12 : ∀ x ∈ u_ws RX12 TX12 123, x ∈ wp_M_fails := fun _ h => List.mem_cons_of_mem _ (List.mem_append_right _ (List.mem_append_left _ h))
set_option maxRecDepth 100000 in
theorem gd_M_fails_M_complete5_504 : GoodIn wp_M_fails (wsV RX12 504 RX12 yX12_complete_ wp_M_complete5) := goodIn_app (goodIn_r _ [2, 3, 4, 5] rfl rfl) (goodIn_ca (goodIn_r _ [6, 7, 8, 9, 10, 5, 11, 12, 13, 14, 15, 16, 17, 18] rfl rfl) (goodIn_app (goodIn_cls hi_M_fails_X12 gw_X12) (goodIn_nil)))
set_option maxRecDepth 100000 in
theorem gd_M_fails_M_says_527 : GoodIn wp_M_fails (wsV RX12 527 RX12 yX12_says wp_M_says) := goodIn_app (goodIn_r _ [20, 21, 22, 5] rfl rfl) (goodIn_ca (goodIn_r _ [23, 24, 25, 26, 27, 5, 28, 19, 29, 30, 31, 32] rfl rfl) (goodIn_app (goodIn_cls hi_M_fails_X12 gw_X12) (goodIn_nil)))
set_option maxHeartbeats 4000000 in
set_option maxRecDepth 100000 in
theorem b_M_fails {p : Program} {l : Launch} {e : Env} {R : Room} {s : State} {m : MethodId} {args : Array Value} {below : List Frame} {meth : Method} {c : Code} {D : va_G} {K : Nat → ClassId} {A : Nat → Prop} {Q : State → Prop} {τ : Nat → Option Ty} {dom : List Nat} {zb zL : Nat} {zx : Nat → Int32} {zs : Nat → Nat} (hR : 3 ≤ R.frames ∧ 70 ≤ R.locals) (B : Bx p s m args c cX12_fails 4 RX12 wp_M_fails D (tysA K) A) (Z : Sk τ dom) (hz : ZL zb zL zx zs A s s.heap) (h : Nat) (q : Nat → Nat) (Y : MS τ h q) (d : Int) (x2 : Int) (x3 : Int) (r_d : 0 ≤ d ∧ d ≤ 1) (r_x2 : -2147483648 ≤ x2 ∧ x2 ≤ 2147483647) (r_x3 : 0 ≤ x3 ∧ x3 ≤ 1) (σ0 : Nat → va_E) (G0 : GM K h q σ0) (hM : At σ0 (q 85) (d : Int).toNat (0) (7)) (hend : ∀ (σ' : Nat → va_E) (lv : List (Nat × Value)) (pc : Nat), GM K h q σ' → Fr τ [(190, 0), (182, 0), (184, 0), (185, 0), (192, 0), (145, 0), (144, 0), (146, 0)] σ0 σ' → decode cX12_fails pc = .ok (.return_, 1) → V p l e R s m args below meth c 4 D A Q (0, 0) (fd dom σ') lv pc []) : V p l e R s m args below meth c 4 D A Q (0, 0) (fd dom σ0) [(0, .ref h), (1, .int (iI d)), (2, .int (iI x2)), (3, .int (iI x3))] 0 [] := by
  have F0 : Fr τ [(190, 0), (182, 0), (184, 0), (185, 0), (192, 0), (145, 0), (144, 0), (146, 0)] σ0 σ0 := Fr.rf
  obtain ⟨z1, z2, z3, z4, z5, h6, r7, r8, r9, r10, r11⟩ := G0.t.o
  obtain ⟨f12, h13, e14⟩ := ga_85 G0.t
  obtain ⟨z15, e16, r17⟩ := e14 (d : Int).toNat
  have r18 := hM.use h13 e16 (by omega)
  have J27 : ∀ (σ_27 : Nat → va_E), GM K h q σ_27 → Fr τ [(190, 0), (182, 0), (184, 0), (185, 0), (192, 0), (145, 0), (144, 0), (146, 0)] σ0 σ_27 → (σ_27 h = .inr (12, fsM q (iI z1) (iI z2) (iI z3) (iI z4) (iI z5))) → V p l e R s m args below meth c 4 D A Q (0, 0) (fd dom σ_27) [(0, .ref h), (1, .int (iI d)), (2, .int (iI x2))] 27 [] := by
    intro σ_27 G_27 F_27 hc27_h
    refine v_aload_n B dX12_fails_27 rfl rfl ?_
    refine u_get B Z (C := RX12) (T := TX12) (N := 123) (ci := 12) hi_M_fails_X12 Y.o hc27_h rfl 92 (by decide +kernel) (List.mem_of_getElem? (i := 1) rfl) rfl dX12_fails_28 ?_
    refine v_iload_n B dX12_fails_31 rfl rfl ?_
    refine v_iconst B (v := iI 0) dX12_fails_32 rfl ?_
    obtain ⟨f19, h20, e21⟩ := ga_92 G_27.t
    refine u_iast B Z (t0 := 0) (x := iI 0) (ym_92 Y) h20 rfl (by omega) dX12_fails_33 (fun σ22 h23 n24 => ?_)
    have e25 := el_upd (z := 0) e21 ⟨by omega, by omega⟩ (d : Int).toNat
    have F26 := F_27.put (ym_92 Y) (by simp) n24
    have G27 := gp_92 Y G_27 ⟨_, h23, e25⟩ n24
    refine v_aload_n B dX12_fails_34 rfl rfl ?_
    refine v_iload_n B dX12_fails_35 rfl rfl ?_
    refine v_bipush B (v := iI 11) dX12_fails_36 (by decide +kernel) ?_
    refine v_iload_n B dX12_fails_38 rfl rfl ?_
    refine v_iconst B (v := iI 0) dX12_fails_39 rfl ?_
    refine v_iconst B (v := iI 0) dX12_fails_40 rfl ?_
    refine u_callVv B Z hz (n := 5) (As := [.int (iI d), .int (iI 11), .int (iI x2), .int (iI 0), .int (iI 0)]) (rest := []) (c_M_complete5 l D K Z _ _ _ _ h q Y d 11 x2 0 0 ⟨by omega, by omega⟩ ⟨by omega, by omega⟩ ⟨by omega, by omega⟩ ⟨by omega, by omega⟩ ⟨by omega, by omega⟩ σ22 G27) gd_M_fails_M_complete5_504 rfl rfl rfl (by decide +kernel) ⟨Nat.le_trans (by decide +kernel) hR.1, Nat.le_trans (by decide +kernel) hR.2⟩ Y.o (clsM G27.t) rfl rfl rfl rfl (Nat.le_of_ble_eq_true rfl) dX12_fails_41 ⟨Nat.zero_le _, Nat.zero_le _⟩ (fun σ28 p29 => ?_)
    obtain ⟨G31, F32⟩ := p29
    have F33 := F26.call F32 (by first | rfl | simp)
    exact hend σ28 _ _ G31 F33 dX12_fails_44
  refine v_iload_n B dX12_fails_0 rfl rfl ?_
  refine u_if_eq B (tgt := 27) (by omega) dX12_fails_1 (by decide +kernel) (fun c34 => ?_) (fun c34 => ?_)
  · refine v_lv [0, 1, 2] rfl ?_
    exact J27 σ0 G0 F0 h6
  · refine v_aload_n B dX12_fails_4 rfl rfl ?_
    refine u_get B Z (C := RX12) (T := TX12) (N := 123) (ci := 12) hi_M_fails_X12 Y.o h6 rfl 90 (by decide +kernel) (List.mem_of_getElem? (i := 19) rfl) rfl dX12_fails_5 ?_
    refine v_iconst B (v := iI 0) dX12_fails_8 rfl ?_
    refine v_iconst B (v := iI 5) dX12_fails_9 rfl ?_
    obtain ⟨f35, h36, e37⟩ := ga_90 G0.t
    refine u_bast B Z (t0 := 2) (x := iI 5) (y := iI 5) (ym_90 Y) h36 rfl (by omega) (nar8 (by omega)) dX12_fails_10 (fun σ38 h39 n40 => ?_)
    have F41 := F0.put (ym_90 Y) (by simp) n40
    have G42 := gp_90 Y G0 ⟨_, h39, el_upd (z := 5) e37 ⟨by omega, by omega⟩ _⟩ n40
    refine v_aload_n B dX12_fails_11 rfl rfl ?_
    have h43 := (n40 h (ne_ty Y.o (ym_90 Y) (by decide))).trans (h6)
    refine u_get B Z (C := RX12) (T := TX12) (N := 123) (ci := 12) hi_M_fails_X12 Y.o h43 rfl 90 (by decide +kernel) (List.mem_of_getElem? (i := 19) rfl) rfl dX12_fails_12 ?_
    refine v_iconst B (v := iI 1) dX12_fails_15 rfl ?_
    refine v_iload_n B dX12_fails_16 rfl rfl ?_
    obtain ⟨z44, e45, r46⟩ := iI_i8 x2
    refine v_i2b B (v := iI z44) dX12_fails_17 e45 ?_
    obtain ⟨f47, h48, e49⟩ := ga_90 G42.t
    refine u_bast B Z (t0 := 2) (x := iI z44) (y := iI z44) (ym_90 Y) h48 rfl (by omega) (nar8 (by omega)) dX12_fails_18 (fun σ50 h51 n52 => ?_)
    have F53 := F41.put (ym_90 Y) (by simp) n52
    have G54 := gp_90 Y G42 ⟨_, h51, el_upd (z := z44) e49 ⟨by omega, by omega⟩ _⟩ n52
    refine v_aload_n B dX12_fails_19 rfl rfl ?_
    refine v_iload_n B dX12_fails_20 rfl rfl ?_
    refine v_bipush B (v := iI 6) dX12_fails_21 (by decide +kernel) ?_
    refine v_iconst B (v := iI 2) dX12_fails_23 rfl ?_
    have h55 := (n52 (q 85) (ne_ty (ym_85 Y) (ym_90 Y) (by decide))).trans ((n40 (q 85) (ne_ty (ym_85 Y) (ym_90 Y) (by decide))).trans (h13))
    refine u_callVv B Z hz (n := 3) (As := [.int (iI d), .int (iI 6), .int (iI 2)]) (rest := []) (c_M_says l D K Z _ _ _ _ h q Y d 6 2 ⟨by omega, by omega⟩ ⟨by omega, by omega⟩ ⟨by omega, by omega⟩ σ50 G54 (At.mk h55 e16 (by omega) ⟨by omega, by omega⟩) (by omega)) gd_M_fails_M_says_527 rfl rfl rfl (by decide +kernel) ⟨Nat.le_trans (by decide +kernel) hR.1, Nat.le_trans (by decide +kernel) hR.2⟩ Y.o (clsM G54.t) rfl rfl rfl rfl (Nat.le_of_ble_eq_true rfl) dX12_fails_24 ⟨Nat.zero_le _, Nat.zero_le _⟩ (fun σ56 p57 => ?_)
    obtain ⟨G59, F60⟩ := p57
    have F61 := F53.call F60 (by first | rfl | simp)
    refine v_lv [0, 1, 2] rfl ?_
    have h62 := (F60 h _ Y.o (by first | rfl | simp)).trans ((n52 h (ne_ty Y.o (ym_90 Y) (by decide))).trans (h43))
    exact J27 σ56 G59 F61 h62
set_option maxRecDepth 100000 in
theorem c_M_fails (l : Launch) (D : va_G) (K : Nat → ClassId) {τ : Nat → Option Ty} {dom : List Nat} (Z : Sk τ dom) (zb zL : Nat) (zx : Nat → Int32) (zs : Nat → Nat) (h : Nat) (q : Nat → Nat) (Y : MS τ h q) (d : Int) (x2 : Int) (x3 : Int) (r_d : 0 ≤ d ∧ d ≤ 1) (r_x2 : -2147483648 ≤ x2 ∧ x2 ≤ 2147483647) (r_x3 : 0 ≤ x3 ∧ x3 ≤ 1) (σ0 : Nat → va_E) (G0 : GM K h q σ0) (hM : At σ0 (q 85) (d : Int).toNat (0) (7)) : MZ l yX12_fails wp_M_fails ({ frames := 3, cells := 0, slots := 0, locals := 70 }) D (tysA K) [.ref h, .int (iI d), .int (iI x2), .int (iI x3)] (fd dom σ0) zb zL zx zs (Qv D (fun σ' => GM K h q σ' ∧ Fr τ [(190, 0), (182, 0), (184, 0), (185, 0), (192, 0), (145, 0), (144, 0), (146, 0)] σ0 σ') (fun σ' => fd dom σ')) 0 0 := by
  refine mz_of (cc := cX12_fails) (maxL := 4) (ret := none) (by decide +kernel) rfl (Nat.le_of_ble_eq_true rfl) ?_
  intro p e s m below meth c A B hr hlk _ hz
  exact b_M_fails ⟨Nat.le_refl _, Nat.le_refl _⟩ B Z hz h q Y d x2 x3 r_d r_x2 r_x3 σ0 G0 hM (fun σ' lv pc G F hd => v_vret B hr hlk σ' ⟨G, F⟩ rfl (Nat.le_refl _) (Nat.le_refl _) hd)

def wp_M_c : List Cond := .code yX12_c cX12_c 9 none :: (([.fieldLink RX12 314 "LowEnergyModel" "tkRow" "[B", .fieldLink RX12 317 "LowEnergyModel" "pair" "[B", .methodLink RX12 444 yX12_e, .instanceMethod yX12_e, .selects RX12 yX12_e yX12_e, .initialized RX12, .code yX12_e cX12_e 13 none, .fieldLink RX12 33 "LowEnergyModel" "cells" "[B", .fieldLink RX12 26 "LowEnergyModel" "round" "[B", .fieldLink RX12 36 "LowEnergyModel" "moved" "[B", .methodLink RX12 14 yX12_twice, .static yX12_twice, .code yX12_twice cX12_twice 1 (some .int), .fieldLink RX12 22 "LowEnergyModel" "box" "[I", .methodLink RX12 29 yX12_copy, .static yX12_copy, .code yX12_copy cX12_copy 6 none, .fieldLink RX12 45 "LowEnergyModel" "state" "[I", .fieldLink RX12 60 "LowEnergyModel" "address" "[J", .fieldLink RX12 64 "LowEnergyModel" "peer" "[J", .fieldLink RX12 305 "LowEnergyModel" "firstTwo" "[B", .fieldLink RX12 302 "LowEnergyModel" "tk" "[I"] : List Cond) ++ (wsX120 ++ ([])))
theorem hi_M_c_X12 : ∀ x ∈ u_ws RX12 TX12 123, x ∈ wp_M_c := fun _ h => List.mem_cons_of_mem _ (List.mem_append_right _ (List.mem_append_left _ h))
set_option maxRecDepth 100000 in
theorem gd_M_c_M_e_444 : GoodIn wp_M_c (wsV RX12 444 RX12 yX12_e wp_M_e) := goodIn_app (goodIn_r _ [3, 4, 5, 6] rfl rfl) (goodIn_ca (goodIn_r _ [7, 8, 9, 10, 11, 12, 6, 13, 14, 15, 16, 17] rfl rfl) (goodIn_app (goodIn_cls hi_M_c_X12 gw_X12) (goodIn_nil)))
set_option maxHeartbeats 4000000 in
set_option maxRecDepth 100000 in
theorem b_M_c {p : Program} {l : Launch} {e : Env} {R : Room} {s : State} {m : MethodId} {args : Array Value} {below : List Frame} {meth : Method} {c : Code} {D : va_G} {K : Nat → ClassId} {A : Nat → Prop} {Q : State → Prop} {τ : Nat → Option Ty} {dom : List Nat} {zb zL : Nat} {zx : Nat → Int32} {zs : Nat → Nat} (hR : 2 ≤ R.frames ∧ 57 ≤ R.locals) (B : Bx p s m args c cX12_c 9 RX12 wp_M_c D (tysA K) A) (Z : Sk τ dom) (hz : ZL zb zL zx zs A s s.heap) (h : Nat) (q : Nat → Nat) (Y : MS τ h q) (d : Int) (j2 Nj2 : Nat) (x3 : Int) (r_d : 0 ≤ d ∧ d ≤ 1) (hj_j2 : tabM[j2]? = some (2, Nj2, -128, 127)) (r_x3 : 0 ≤ x3 ∧ x3 ≤ 16) (σ0 : Nat → va_E) (G0 : GM K h q σ0) (hc : x3 + 16 ≤ (Nj2 : Int)) (hend : ∀ (σ' : Nat → va_E) (lv : List (Nat × Value)) (pc : Nat), GM K h q σ' → Fr τ [(198, 0), (199, 0), (104, 0), (105, 0), (106, 0)] σ0 σ' → decode cX12_c pc = .ok (.return_, 1) → V p l e R s m args below meth c 9 D A Q (0, 0) (fd dom σ') lv pc []) : V p l e R s m args below meth c 9 D A Q (0, 0) (fd dom σ0) [(0, .ref h), (1, .int (iI d)), (2, .ref (q j2)), (3, .int (iI x3))] 0 [] := by
  have F0 : Fr τ [(198, 0), (199, 0), (104, 0), (105, 0), (106, 0)] σ0 σ0 := Fr.rf
  have hN_j2 := lenB hj_j2
  obtain ⟨z1, z2, z3, z4, z5, h6, r7, r8, r9, r10, r11⟩ := G0.t.o
  have J177 : ∀ (k177 : Nat) (σ_177 : Nat → va_E) (y177_4 : Int) (y177_6 : Int) (z177_8 : Int), (2147483648 - z177_8).toNat ≤ k177 → GM K h q σ_177 → Fr τ [(198, 0), (199, 0), (104, 0), (105, 0), (106, 0)] σ0 σ_177 → (σ_177 h = .inr (12, fsM q (iI z1) (iI z2) (iI z3) (iI z4) (iI z5))) → (InL y177_4) → (InL y177_6) → (0 ≤ z177_8 ∧ z177_8 ≤ 12) → V p l e R s m args below meth c 9 D A Q (0, 0) (fd dom σ_177) [(0, .ref h), (4, .long (lI y177_4)), (6, .long (lI y177_6)), (8, .int (iI z177_8))] 177 [] := by
    intro k177
    induction k177 with
    | zero => intro σ_177 y177_4 y177_6 z177_8 m177 G_177 F_177 hc177_h r177_4 r177_6 r177_8; omega
    | succ k177 IH177 =>
      intro σ_177 y177_4 y177_6 z177_8 m177 G_177 F_177 hc177_h r177_4 r177_6 r177_8
      have J221 : ∀ (y221_s0 : Int) (z221_s1 : Int) (z221_s2 : Int), (0 ≤ z177_8 ∧ z177_8 ≤ 11) → (InL y221_s0) → (-128 ≤ z221_s1 ∧ z221_s1 ≤ 127) → (0 ≤ z221_s2 ∧ z221_s2 ≤ 11) → V p l e R s m args below meth c 9 D A Q (0, 0) (fd dom σ_177) [(0, .ref h), (4, .long (lI y177_4)), (6, .long (lI y177_6)), (8, .int (iI z177_8))] 221 [.long (lI y221_s0), .int (iI z221_s1), .int (iI z221_s2), .ref (q 99)] := by
        intro y221_s0 z221_s1 z221_s2 rv221_z177_8 r221_s0 r221_s1 r221_s2
        obtain ⟨z12, e13, r14⟩ := iI_any ((lI y221_s0).toInt32)
        refine v_l2i B (v := iI z12) dX12_c_221 e13 ?_
        obtain ⟨z15, e16, r17⟩ := iI_i8 z12
        refine v_i2b B (v := iI z15) dX12_c_222 e16 ?_
        obtain ⟨z18, e19, r20⟩ := iI_any (iI z221_s1 ^^^ iI z15)
        refine v_ixor B (v := iI z18) dX12_c_223 e19 ?_
        obtain ⟨z21, e22, r23⟩ := iI_i8 z18
        refine v_i2b B (v := iI z21) dX12_c_224 e22 ?_
        obtain ⟨f24, h25, e26⟩ := ga_99 G_177.t
        refine u_bast B Z (t0 := 2) (x := iI z21) (y := iI z21) (ym_99 Y) h25 rfl (by omega) (nar8 (by omega)) dX12_c_225 (fun σ27 h28 n29 => ?_)
        have F30 := F_177.put (ym_99 Y) (by simp) n29
        have G31 := gp_99 Y G_177 ⟨_, h28, el_upd (z := z21) e26 ⟨by omega, by omega⟩ _⟩ n29
        refine v_iinc B (k := 3) (v := iI (z177_8 + 1)) (lv' := [(8, .int (iI (z177_8 + 1))), (0, .ref h), (4, .long (lI y177_4)), (6, .long (lI y177_6))]) dX12_c_226 rfl ((iI_add _ _).trans (congrArg iI (by omega))) (by decide +kernel) rfl ?_
        refine v_goto B (tgt := 177) dX12_c_229 (by decide +kernel) ?_
        refine v_lv [1, 2, 3, 0] rfl ?_
        have h32 := (n29 h (ne_ty Y.o (ym_99 Y) (by decide))).trans (hc177_h)
        exact IH177 σ27 y177_4 y177_6 (z177_8 + 1) (by omega) G31 F30 h32 ⟨by omega, by omega⟩ ⟨by omega, by omega⟩ ⟨by omega, by omega⟩
      refine v_iload B dX12_c_177 rfl ?_
      refine v_bipush B (v := iI 12) dX12_c_179 (by decide +kernel) ?_
      refine u_icmp_ge B (tgt := 232) (by omega) (by omega) dX12_c_181 (by decide +kernel) (fun c33 => ?_) (fun c33 => ?_)
      · refine v_aload_n B dX12_c_232 rfl rfl ?_
        refine v_aload_n B dX12_c_233 rfl rfl ?_
        refine u_get B Z (C := RX12) (T := TX12) (N := 123) (ci := 12) hi_M_c_X12 Y.o hc177_h rfl 98 (by decide +kernel) (List.mem_of_getElem? (i := 1) rfl) rfl dX12_c_234 ?_
        refine v_iconst B (v := iI 0) dX12_c_237 rfl ?_
        refine v_aload_n B dX12_c_238 rfl rfl ?_
        refine u_get B Z (C := RX12) (T := TX12) (N := 123) (ci := 12) hi_M_c_X12 Y.o hc177_h rfl 99 (by decide +kernel) (List.mem_of_getElem? (i := 2) rfl) rfl dX12_c_239 ?_
        refine v_iconst B (v := iI 0) dX12_c_242 rfl ?_
        refine v_aload_n B dX12_c_243 rfl rfl ?_
        refine u_get B Z (C := RX12) (T := TX12) (N := 123) (ci := 12) hi_M_c_X12 Y.o hc177_h rfl 99 (by decide +kernel) (List.mem_of_getElem? (i := 2) rfl) rfl dX12_c_244 ?_
        refine v_iconst B (v := iI 0) dX12_c_247 rfl ?_
        refine u_callVv B Z hz (n := 6) (As := [.ref (q 98), .int (iI 0), .ref (q 99), .int (iI 0), .ref (q 99), .int (iI 0)]) (rest := []) (c_M_e l D K Z _ _ _ _ h q Y 98 16 0 99 16 0 99 16 0 rfl ⟨by omega, by omega⟩ rfl ⟨by omega, by omega⟩ rfl ⟨by omega, by omega⟩ σ_177 G_177 (by omega)) gd_M_c_M_e_444 rfl rfl rfl (by decide +kernel) ⟨Nat.le_trans (by decide +kernel) hR.1, Nat.le_trans (by decide +kernel) hR.2⟩ Y.o (clsM G_177.t) rfl rfl rfl rfl (Nat.le_of_ble_eq_true rfl) dX12_c_248 ⟨Nat.zero_le _, Nat.zero_le _⟩ (fun σ34 p35 => ?_)
        obtain ⟨G37, F38⟩ := p35
        have F39 := F_177.call F38 (by first | rfl | simp)
        exact hend σ34 _ _ G37 F39 dX12_c_251
      · refine v_aload_n B dX12_c_184 rfl rfl ?_
        refine u_get B Z (C := RX12) (T := TX12) (N := 123) (ci := 12) hi_M_c_X12 Y.o hc177_h rfl 99 (by decide +kernel) (List.mem_of_getElem? (i := 2) rfl) rfl dX12_c_185 ?_
        refine v_iload B dX12_c_188 rfl ?_
        refine v_dup2 B dX12_c_190 rfl rfl ?_
        obtain ⟨f40, h41, e42⟩ := ga_99 G_177.t
        obtain ⟨z43, e44, r45⟩ := e42 (z177_8 : Int).toNat
        refine u_bald B Z (t0 := 2) (ym_99 Y) h41 rfl (by omega) e44 dX12_c_191 ?_
        refine v_iload B dX12_c_192 rfl ?_
        refine v_bipush B (v := iI 6) dX12_c_194 (by decide +kernel) ?_
        refine u_icmp_ge B (tgt := 210) (by omega) (by omega) dX12_c_196 (by decide +kernel) (fun c46 => ?_) (fun c46 => ?_)
        · refine v_lload B dX12_c_210 rfl ?_
          refine v_bipush B (v := iI 8) dX12_c_212 (by decide +kernel) ?_
          refine v_iload B dX12_c_214 rfl ?_
          refine v_bipush B (v := iI 6) dX12_c_216 (by decide +kernel) ?_
          refine v_isub B (v := iI (z177_8 + (-6))) dX12_c_218 ((iI_sub _ _).trans (congrArg iI (by omega))) ?_
          refine v_imul B (v := iI (8 * z177_8 + (-48))) dX12_c_219 ((iI_mul _ _).trans (congrArg iI (by omega))) ?_
          obtain ⟨yy47, e48, r49⟩ := lI_any (lI y177_6 >>> ((iI (8 * z177_8 + (-48))).toInt64 &&& 63))
          refine v_lshr B (v := lI yy47) dX12_c_220 e48 ?_
          exact J221 yy47 z43 z177_8 ⟨by omega, by omega⟩ ⟨by omega, by omega⟩ ⟨by omega, by omega⟩ ⟨by omega, by omega⟩
        · refine v_lload B dX12_c_199 rfl ?_
          refine v_bipush B (v := iI 8) dX12_c_201 (by decide +kernel) ?_
          refine v_iload B dX12_c_203 rfl ?_
          refine v_imul B (v := iI (8 * z177_8)) dX12_c_205 ((iI_mul _ _).trans (congrArg iI (by omega))) ?_
          obtain ⟨yy50, e51, r52⟩ := lI_any (lI y177_4 >>> ((iI (8 * z177_8)).toInt64 &&& 63))
          refine v_lshr B (v := lI yy50) dX12_c_206 e51 ?_
          refine v_goto B (tgt := 221) dX12_c_207 (by decide +kernel) ?_
          exact J221 yy50 z43 z177_8 ⟨by omega, by omega⟩ ⟨by omega, by omega⟩ ⟨by omega, by omega⟩ ⟨by omega, by omega⟩
  have J172 : ∀ (σ_172 : Nat → va_E) (y172_4 : Int) (y172_s0 : Int), GM K h q σ_172 → Fr τ [(198, 0), (199, 0), (104, 0), (105, 0), (106, 0)] σ0 σ_172 → (σ_172 h = .inr (12, fsM q (iI z1) (iI z2) (iI z3) (iI z4) (iI z5))) → (InL y172_4) → (InL y172_s0) → V p l e R s m args below meth c 9 D A Q (0, 0) (fd dom σ_172) [(0, .ref h), (4, .long (lI y172_4))] 172 [.long (lI y172_s0)] := by
    intro σ_172 y172_4 y172_s0 G_172 F_172 hc172_h r172_4 r172_s0
    refine v_lstore B (lv' := [(6, .long (lI y172_s0)), (0, .ref h), (4, .long (lI y172_4))]) dX12_c_172 (by decide +kernel) rfl ?_
    refine v_iconst B (v := iI 0) dX12_c_174 rfl ?_
    refine v_istore B (lv' := [(8, .int (iI 0)), (6, .long (lI y172_s0)), (0, .ref h), (4, .long (lI y172_4))]) dX12_c_175 (by decide +kernel) rfl ?_
    refine v_lv [2, 3, 1, 0] rfl ?_
    exact J177 _ σ_172 y172_4 y172_s0 0 (Nat.le_refl _) G_172 F_172 hc172_h ⟨by omega, by omega⟩ ⟨by omega, by omega⟩ ⟨by omega, by omega⟩
  have J145 : ∀ (σ_145 : Nat → va_E) (y145_s0 : Int), GM K h q σ_145 → Fr τ [(198, 0), (199, 0), (104, 0), (105, 0), (106, 0)] σ0 σ_145 → (σ_145 h = .inr (12, fsM q (iI z1) (iI z2) (iI z3) (iI z4) (iI z5))) → (InL y145_s0) → V p l e R s m args below meth c 9 D A Q (0, 0) (fd dom σ_145) [(0, .ref h), (1, .int (iI d))] 145 [.long (lI y145_s0)] := by
    intro σ_145 y145_s0 G_145 F_145 hc145_h r145_s0
    refine v_lstore B (lv' := [(4, .long (lI y145_s0)), (0, .ref h), (1, .int (iI d))]) dX12_c_145 (by decide +kernel) rfl ?_
    refine v_aload_n B dX12_c_147 rfl rfl ?_
    refine u_get B Z (C := RX12) (T := TX12) (N := 123) (ci := 12) hi_M_c_X12 Y.o hc145_h rfl 7 (by decide +kernel) (List.mem_of_getElem? (i := 18) rfl) rfl dX12_c_148 ?_
    refine v_iload_n B dX12_c_151 rfl rfl ?_
    obtain ⟨f53, h54, e55⟩ := ga_7 G_145.t
    obtain ⟨z56, e57, r58⟩ := e55 (d : Int).toNat
    refine u_iald B Z (t0 := 0) (ym_7 Y) h54 rfl (by omega) e57 dX12_c_152 ?_
    refine v_iconst B (v := iI 4) dX12_c_153 rfl ?_
    refine u_icmp_ne B (tgt := 166) (by omega) (by omega) dX12_c_154 (by decide +kernel) (fun c59 => ?_) (fun c59 => ?_)
    · refine v_aload_n B dX12_c_166 rfl rfl ?_
      refine u_get B Z (C := RX12) (T := TX12) (N := 123) (ci := 12) hi_M_c_X12 Y.o hc145_h rfl 12 (by decide +kernel) (List.mem_of_getElem? (i := 19) rfl) rfl dX12_c_167 ?_
      refine v_iload_n B dX12_c_170 rfl rfl ?_
      obtain ⟨f60, h61⟩ := ga_12 G_145.t
      obtain ⟨yy63, e64, r65⟩ := lI_any (f60 (d : Int).toNat)
      refine u_lald B Z (t0 := 1) (ym_12 Y) h61 rfl (by omega) e64 dX12_c_171 ?_
      refine v_lv [1, 0] rfl ?_
      exact J172 σ_145 y145_s0 yy63 G_145 F_145 hc145_h ⟨by omega, by omega⟩ ⟨by omega, by omega⟩
    · refine v_aload_n B dX12_c_157 rfl rfl ?_
      refine u_get B Z (C := RX12) (T := TX12) (N := 123) (ci := 12) hi_M_c_X12 Y.o hc145_h rfl 13 (by decide +kernel) (List.mem_of_getElem? (i := 20) rfl) rfl dX12_c_158 ?_
      refine v_iload_n B dX12_c_161 rfl rfl ?_
      obtain ⟨f66, h67⟩ := ga_13 G_145.t
      obtain ⟨yy69, e70, r71⟩ := lI_any (f66 (d : Int).toNat)
      refine u_lald B Z (t0 := 1) (ym_13 Y) h67 rfl (by omega) e70 dX12_c_162 ?_
      refine v_goto B (tgt := 172) dX12_c_163 (by decide +kernel) ?_
      refine v_lv [1, 0] rfl ?_
      exact J172 σ_145 y145_s0 yy69 G_145 F_145 hc145_h ⟨by omega, by omega⟩ ⟨by omega, by omega⟩
  have J49 : ∀ (k49 : Nat) (σ_49 : Nat → va_E) (z49_4 : Int), (2147483648 - z49_4).toNat ≤ k49 → GM K h q σ_49 → Fr τ [(198, 0), (199, 0), (104, 0), (105, 0), (106, 0)] σ0 σ_49 → (σ_49 h = .inr (12, fsM q (iI z1) (iI z2) (iI z3) (iI z4) (iI z5))) → (0 ≤ z49_4 ∧ z49_4 ≤ 16) → V p l e R s m args below meth c 9 D A Q (0, 0) (fd dom σ_49) [(0, .ref h), (1, .int (iI d)), (2, .ref (q j2)), (3, .int (iI x3)), (4, .int (iI z49_4))] 49 [] := by
    intro k49
    induction k49 with
    | zero => intro σ_49 z49_4 m49 G_49 F_49 hc49_h r49_4; omega
    | succ k49 IH49 =>
      intro σ_49 z49_4 m49 G_49 F_49 hc49_h r49_4
      have J92 : ∀ (z92_s0 : Int) (z92_s1 : Int) (z92_s2 : Int), (0 ≤ z49_4 ∧ z49_4 ≤ 15) → (-128 ≤ z92_s0 ∧ z92_s0 ≤ 127) → (-128 ≤ z92_s1 ∧ z92_s1 ≤ 127) → (0 ≤ z92_s2 ∧ z92_s2 ≤ 15) → V p l e R s m args below meth c 9 D A Q (0, 0) (fd dom σ_49) [(0, .ref h), (1, .int (iI d)), (2, .ref (q j2)), (3, .int (iI x3)), (4, .int (iI z49_4))] 92 [.int (iI z92_s0), .int (iI z92_s1), .int (iI z92_s2), .ref (q 99)] := by
        intro z92_s0 z92_s1 z92_s2 rv92_z49_4 r92_s0 r92_s1 r92_s2
        obtain ⟨z72, e73, r74⟩ := iI_any (iI z92_s1 ^^^ iI z92_s0)
        refine v_ixor B (v := iI z72) dX12_c_92 e73 ?_
        obtain ⟨z75, e76, r77⟩ := iI_i8 z72
        refine v_i2b B (v := iI z75) dX12_c_93 e76 ?_
        obtain ⟨f78, h79, e80⟩ := ga_99 G_49.t
        refine u_bast B Z (t0 := 2) (x := iI z75) (y := iI z75) (ym_99 Y) h79 rfl (by omega) (nar8 (by omega)) dX12_c_94 (fun σ81 h82 n83 => ?_)
        have F84 := F_49.put (ym_99 Y) (by simp) n83
        have G85 := gp_99 Y G_49 ⟨_, h82, el_upd (z := z75) e80 ⟨by omega, by omega⟩ _⟩ n83
        refine v_iinc B (k := 4) (v := iI (z49_4 + 1)) (lv' := [(4, .int (iI (z49_4 + 1))), (0, .ref h), (1, .int (iI d)), (2, .ref (q j2)), (3, .int (iI x3))]) dX12_c_95 rfl ((iI_add _ _).trans (congrArg iI (by omega))) (by decide +kernel) rfl ?_
        refine v_goto B (tgt := 49) dX12_c_98 (by decide +kernel) ?_
        refine v_lv [1, 2, 3, 4, 0] rfl ?_
        have h86 := (n83 h (ne_ty Y.o (ym_99 Y) (by decide))).trans (hc49_h)
        exact IH49 σ81 (z49_4 + 1) (by omega) G85 F84 h86 ⟨by omega, by omega⟩
      refine v_iload B dX12_c_49 rfl ?_
      refine v_bipush B (v := iI 16) dX12_c_51 (by decide +kernel) ?_
      refine u_icmp_ge B (tgt := 101) (by omega) (by omega) dX12_c_53 (by decide +kernel) (fun c87 => ?_) (fun c87 => ?_)
      · refine v_aload_n B dX12_c_101 rfl rfl ?_
        refine v_aload_n B dX12_c_102 rfl rfl ?_
        refine u_get B Z (C := RX12) (T := TX12) (N := 123) (ci := 12) hi_M_c_X12 Y.o hc49_h rfl 98 (by decide +kernel) (List.mem_of_getElem? (i := 1) rfl) rfl dX12_c_103 ?_
        refine v_iconst B (v := iI 0) dX12_c_106 rfl ?_
        refine v_aload_n B dX12_c_107 rfl rfl ?_
        refine u_get B Z (C := RX12) (T := TX12) (N := 123) (ci := 12) hi_M_c_X12 Y.o hc49_h rfl 99 (by decide +kernel) (List.mem_of_getElem? (i := 2) rfl) rfl dX12_c_108 ?_
        refine v_iconst B (v := iI 0) dX12_c_111 rfl ?_
        refine v_aload_n B dX12_c_112 rfl rfl ?_
        refine u_get B Z (C := RX12) (T := TX12) (N := 123) (ci := 12) hi_M_c_X12 Y.o hc49_h rfl 99 (by decide +kernel) (List.mem_of_getElem? (i := 2) rfl) rfl dX12_c_113 ?_
        refine v_iconst B (v := iI 0) dX12_c_116 rfl ?_
        refine u_callVv B Z hz (n := 6) (As := [.ref (q 98), .int (iI 0), .ref (q 99), .int (iI 0), .ref (q 99), .int (iI 0)]) (rest := []) (c_M_e l D K Z _ _ _ _ h q Y 98 16 0 99 16 0 99 16 0 rfl ⟨by omega, by omega⟩ rfl ⟨by omega, by omega⟩ rfl ⟨by omega, by omega⟩ σ_49 G_49 (by omega)) gd_M_c_M_e_444 rfl rfl rfl (by decide +kernel) ⟨Nat.le_trans (by decide +kernel) hR.1, Nat.le_trans (by decide +kernel) hR.2⟩ Y.o (clsM G_49.t) rfl rfl rfl rfl (Nat.le_of_ble_eq_true rfl) dX12_c_117 ⟨Nat.zero_le _, Nat.zero_le _⟩ (fun σ88 p89 => ?_)
        obtain ⟨G91, F92⟩ := p89
        have F93 := F_49.call F92 (by first | rfl | simp)
        refine v_aload_n B dX12_c_120 rfl rfl ?_
        have h94 := (F92 h _ Y.o (by first | rfl | simp)).trans (hc49_h)
        refine u_get B Z (C := RX12) (T := TX12) (N := 123) (ci := 12) hi_M_c_X12 Y.o h94 rfl 7 (by decide +kernel) (List.mem_of_getElem? (i := 18) rfl) rfl dX12_c_121 ?_
        refine v_iload_n B dX12_c_124 rfl rfl ?_
        obtain ⟨f95, h96, e97⟩ := ga_7 G91.t
        obtain ⟨z98, e99, r100⟩ := e97 (d : Int).toNat
        refine u_iald B Z (t0 := 0) (ym_7 Y) h96 rfl (by omega) e99 dX12_c_125 ?_
        refine v_iconst B (v := iI 4) dX12_c_126 rfl ?_
        refine u_icmp_ne B (tgt := 139) (by omega) (by omega) dX12_c_127 (by decide +kernel) (fun c101 => ?_) (fun c101 => ?_)
        · refine v_aload_n B dX12_c_139 rfl rfl ?_
          refine u_get B Z (C := RX12) (T := TX12) (N := 123) (ci := 12) hi_M_c_X12 Y.o h94 rfl 13 (by decide +kernel) (List.mem_of_getElem? (i := 20) rfl) rfl dX12_c_140 ?_
          refine v_iload_n B dX12_c_143 rfl rfl ?_
          obtain ⟨f102, h103⟩ := ga_13 G91.t
          obtain ⟨yy105, e106, r107⟩ := lI_any (f102 (d : Int).toNat)
          refine u_lald B Z (t0 := 1) (ym_13 Y) h103 rfl (by omega) e106 dX12_c_144 ?_
          refine v_lv [0, 1] rfl ?_
          exact J145 σ88 yy105 G91 F93 h94 ⟨by omega, by omega⟩
        · refine v_aload_n B dX12_c_130 rfl rfl ?_
          refine u_get B Z (C := RX12) (T := TX12) (N := 123) (ci := 12) hi_M_c_X12 Y.o h94 rfl 12 (by decide +kernel) (List.mem_of_getElem? (i := 19) rfl) rfl dX12_c_131 ?_
          refine v_iload_n B dX12_c_134 rfl rfl ?_
          obtain ⟨f108, h109⟩ := ga_12 G91.t
          obtain ⟨yy111, e112, r113⟩ := lI_any (f108 (d : Int).toNat)
          refine u_lald B Z (t0 := 1) (ym_12 Y) h109 rfl (by omega) e112 dX12_c_135 ?_
          refine v_goto B (tgt := 145) dX12_c_136 (by decide +kernel) ?_
          refine v_lv [0, 1] rfl ?_
          exact J145 σ88 yy111 G91 F93 h94 ⟨by omega, by omega⟩
      · refine v_aload_n B dX12_c_56 rfl rfl ?_
        refine u_get B Z (C := RX12) (T := TX12) (N := 123) (ci := 12) hi_M_c_X12 Y.o hc49_h rfl 99 (by decide +kernel) (List.mem_of_getElem? (i := 2) rfl) rfl dX12_c_57 ?_
        refine v_iload B dX12_c_60 rfl ?_
        refine v_aload_n B dX12_c_62 rfl rfl ?_
        refine v_iload_n B dX12_c_63 rfl rfl ?_
        refine v_iload B dX12_c_64 rfl ?_
        refine v_iadd B (v := iI (x3 + z49_4)) dX12_c_66 ((iI_add _ _).trans (congrArg iI (by omega))) ?_
        obtain ⟨f114, h115, e116⟩ := G_49.t.byte hj_j2
        obtain ⟨z117, e118, r119⟩ := e116 ((x3 + z49_4) : Int).toNat
        refine u_bald B Z (t0 := 2) (Y.byte hj_j2) h115 rfl (by omega) e118 dX12_c_67 ?_
        refine v_iload B dX12_c_68 rfl ?_
        refine v_iconst B (v := iI 2) dX12_c_70 rfl ?_
        refine u_icmp_ge B (tgt := 78) (by omega) (by omega) dX12_c_71 (by decide +kernel) (fun c120 => ?_) (fun c120 => ?_)
        · refine v_aload_n B dX12_c_78 rfl rfl ?_
          refine u_get B Z (C := RX12) (T := TX12) (N := 123) (ci := 12) hi_M_c_X12 Y.o hc49_h rfl 95 (by decide +kernel) (List.mem_of_getElem? (i := 21) rfl) rfl dX12_c_79 ?_
          refine v_bipush B (v := iI 14) dX12_c_82 (by decide +kernel) ?_
          refine v_iload_n B dX12_c_84 rfl rfl ?_
          refine v_imul B (v := iI (14 * d)) dX12_c_85 ((iI_mul _ _).trans (congrArg iI (by omega))) ?_
          refine v_iload B dX12_c_86 rfl ?_
          refine v_iadd B (v := iI (14 * d + z49_4)) dX12_c_88 ((iI_add _ _).trans (congrArg iI (by omega))) ?_
          refine v_iconst B (v := iI 2) dX12_c_89 rfl ?_
          refine v_isub B (v := iI (14 * d + z49_4 + (-2))) dX12_c_90 ((iI_sub _ _).trans (congrArg iI (by omega))) ?_
          obtain ⟨f121, h122, e123⟩ := ga_95 G_49.t
          obtain ⟨z124, e125, r126⟩ := e123 ((14 * d + z49_4 + (-2)) : Int).toNat
          refine u_bald B Z (t0 := 2) (ym_95 Y) h122 rfl (by omega) e125 dX12_c_91 ?_
          exact J92 z124 z117 z49_4 ⟨by omega, by omega⟩ ⟨by omega, by omega⟩ ⟨by omega, by omega⟩ ⟨by omega, by omega⟩
        · refine v_iconst B (v := iI 0) dX12_c_74 rfl ?_
          refine v_goto B (tgt := 92) dX12_c_75 (by decide +kernel) ?_
          exact J92 0 z117 z49_4 ⟨by omega, by omega⟩ ⟨by omega, by omega⟩ ⟨by omega, by omega⟩ ⟨by omega, by omega⟩
  have J3 : ∀ (k3 : Nat) (σ_3 : Nat → va_E) (z3_4 : Int), (2147483648 - z3_4).toNat ≤ k3 → GM K h q σ_3 → Fr τ [(198, 0), (199, 0), (104, 0), (105, 0), (106, 0)] σ0 σ_3 → (σ_3 h = .inr (12, fsM q (iI z1) (iI z2) (iI z3) (iI z4) (iI z5))) → (0 ≤ z3_4 ∧ z3_4 ≤ 16) → V p l e R s m args below meth c 9 D A Q (0, 0) (fd dom σ_3) [(0, .ref h), (1, .int (iI d)), (2, .ref (q j2)), (3, .int (iI x3)), (4, .int (iI z3_4))] 3 [] := by
    intro k3
    induction k3 with
    | zero => intro σ_3 z3_4 m3 G_3 F_3 hc3_h r3_4; omega
    | succ k3 IH3 =>
      intro σ_3 z3_4 m3 G_3 F_3 hc3_h r3_4
      have J38 : ∀ (z38_s0 : Int) (z38_s1 : Int), (0 ≤ z3_4 ∧ z3_4 ≤ 15) → (-2147483648 ≤ z38_s0 ∧ z38_s0 ≤ 2147483647) → (0 ≤ z38_s1 ∧ z38_s1 ≤ 15) → V p l e R s m args below meth c 9 D A Q (0, 0) (fd dom σ_3) [(0, .ref h), (1, .int (iI d)), (2, .ref (q j2)), (3, .int (iI x3)), (4, .int (iI z3_4))] 38 [.int (iI z38_s0), .int (iI z38_s1), .ref (q 98)] := by
        intro z38_s0 z38_s1 rv38_z3_4 r38_s0 r38_s1
        obtain ⟨z127, e128, r129⟩ := iI_i8 z38_s0
        refine v_i2b B (v := iI z127) dX12_c_38 e128 ?_
        obtain ⟨f130, h131, e132⟩ := ga_98 G_3.t
        refine u_bast B Z (t0 := 2) (x := iI z127) (y := iI z127) (ym_98 Y) h131 rfl (by omega) (nar8 (by omega)) dX12_c_39 (fun σ133 h134 n135 => ?_)
        have F136 := F_3.put (ym_98 Y) (by simp) n135
        have G137 := gp_98 Y G_3 ⟨_, h134, el_upd (z := z127) e132 ⟨by omega, by omega⟩ _⟩ n135
        refine v_iinc B (k := 4) (v := iI (z3_4 + 1)) (lv' := [(4, .int (iI (z3_4 + 1))), (0, .ref h), (1, .int (iI d)), (2, .ref (q j2)), (3, .int (iI x3))]) dX12_c_40 rfl ((iI_add _ _).trans (congrArg iI (by omega))) (by decide +kernel) rfl ?_
        refine v_goto B (tgt := 3) dX12_c_43 (by decide +kernel) ?_
        refine v_lv [1, 2, 3, 4, 0] rfl ?_
        have h138 := (n135 h (ne_ty Y.o (ym_98 Y) (by decide))).trans (hc3_h)
        exact IH3 σ133 (z3_4 + 1) (by omega) G137 F136 h138 ⟨by omega, by omega⟩
      refine v_iload B dX12_c_3 rfl ?_
      refine v_bipush B (v := iI 16) dX12_c_5 (by decide +kernel) ?_
      refine u_icmp_ge B (tgt := 46) (by omega) (by omega) dX12_c_7 (by decide +kernel) (fun c139 => ?_) (fun c139 => ?_)
      · refine v_iconst B (v := iI 0) dX12_c_46 rfl ?_
        refine v_istore B (lv' := [(4, .int (iI 0)), (0, .ref h), (1, .int (iI d)), (2, .ref (q j2)), (3, .int (iI x3))]) dX12_c_47 (by decide +kernel) rfl ?_
        refine v_lv [1, 2, 3, 4, 0] rfl ?_
        exact J49 _ σ_3 0 (Nat.le_refl _) G_3 F_3 hc3_h ⟨by omega, by omega⟩
      · refine v_aload_n B dX12_c_10 rfl rfl ?_
        refine u_get B Z (C := RX12) (T := TX12) (N := 123) (ci := 12) hi_M_c_X12 Y.o hc3_h rfl 98 (by decide +kernel) (List.mem_of_getElem? (i := 1) rfl) rfl dX12_c_11 ?_
        refine v_iload B dX12_c_14 rfl ?_
        refine v_iload B dX12_c_16 rfl ?_
        refine v_iconst B (v := iI 4) dX12_c_18 rfl ?_
        refine u_icmp_ge B (tgt := 37) (by omega) (by omega) dX12_c_19 (by decide +kernel) (fun c140 => ?_) (fun c140 => ?_)
        · refine v_iconst B (v := iI 0) dX12_c_37 rfl ?_
          exact J38 0 z3_4 ⟨by omega, by omega⟩ ⟨by omega, by omega⟩ ⟨by omega, by omega⟩
        · refine v_aload_n B dX12_c_22 rfl rfl ?_
          refine u_get B Z (C := RX12) (T := TX12) (N := 123) (ci := 12) hi_M_c_X12 Y.o hc3_h rfl 94 (by decide +kernel) (List.mem_of_getElem? (i := 22) rfl) rfl dX12_c_23 ?_
          refine v_iload_n B dX12_c_26 rfl rfl ?_
          obtain ⟨f141, h142, e143⟩ := ga_94 G_3.t
          obtain ⟨z144, e145, r146⟩ := e143 (d : Int).toNat
          refine u_iald B Z (t0 := 0) (ym_94 Y) h142 rfl (by omega) e145 dX12_c_27 ?_
          refine v_bipush B (v := iI 8) dX12_c_28 (by decide +kernel) ?_
          refine v_iload B dX12_c_30 rfl ?_
          refine v_imul B (v := iI (8 * z3_4)) dX12_c_32 ((iI_mul _ _).trans (congrArg iI (by omega))) ?_
          obtain ⟨z147, e148, r149⟩ := iI_any (iI z144 >>> (iI (8 * z3_4) &&& 31))
          refine v_ishr B (v := iI z147) dX12_c_33 e148 ?_
          refine v_goto B (tgt := 38) dX12_c_34 (by decide +kernel) ?_
          exact J38 z147 z3_4 ⟨by omega, by omega⟩ ⟨by omega, by omega⟩ ⟨by omega, by omega⟩
  refine v_iconst B (v := iI 0) dX12_c_0 rfl ?_
  refine v_istore B (lv' := [(4, .int (iI 0)), (0, .ref h), (1, .int (iI d)), (2, .ref (q j2)), (3, .int (iI x3))]) dX12_c_1 (by decide +kernel) rfl ?_
  refine v_lv [1, 2, 3, 4, 0] rfl ?_
  exact J3 _ σ0 0 (Nat.le_refl _) G0 F0 h6 ⟨by omega, by omega⟩
set_option maxRecDepth 100000 in
theorem c_M_c (l : Launch) (D : va_G) (K : Nat → ClassId) {τ : Nat → Option Ty} {dom : List Nat} (Z : Sk τ dom) (zb zL : Nat) (zx : Nat → Int32) (zs : Nat → Nat) (h : Nat) (q : Nat → Nat) (Y : MS τ h q) (d : Int) (j2 Nj2 : Nat) (x3 : Int) (r_d : 0 ≤ d ∧ d ≤ 1) (hj_j2 : tabM[j2]? = some (2, Nj2, -128, 127)) (r_x3 : 0 ≤ x3 ∧ x3 ≤ 16) (σ0 : Nat → va_E) (G0 : GM K h q σ0) (hc : x3 + 16 ≤ (Nj2 : Int)) : MZ l yX12_c wp_M_c ({ frames := 2, cells := 0, slots := 0, locals := 57 }) D (tysA K) [.ref h, .int (iI d), .ref (q j2), .int (iI x3)] (fd dom σ0) zb zL zx zs (Qv D (fun σ' => GM K h q σ' ∧ Fr τ [(198, 0), (199, 0), (104, 0), (105, 0), (106, 0)] σ0 σ') (fun σ' => fd dom σ')) 0 0 := by
  refine mz_of (cc := cX12_c) (maxL := 9) (ret := none) (by decide +kernel) rfl (Nat.le_of_ble_eq_true rfl) ?_
  intro p e s m below meth c A B hr hlk _ hz
  exact b_M_c ⟨Nat.le_refl _, Nat.le_refl _⟩ B Z hz h q Y d j2 Nj2 x3 r_d hj_j2 r_x3 σ0 G0 hc (fun σ' lv pc G F hd => v_vret B hr hlk σ' ⟨G, F⟩ rfl (Nat.le_refl _) (Nat.le_refl _) hd)

def wp_M_tells : List Cond := .code yX12_tells cX12_tells 3 none :: (([.fieldLink RX12 311 "LowEnergyModel" "ownRandom" "[B", .methodLink RX12 544 yX12_c, .instanceMethod yX12_c, .selects RX12 yX12_c yX12_c, .initialized RX12, .code yX12_c cX12_c 9 none, .fieldLink RX12 314 "LowEnergyModel" "tkRow" "[B", .fieldLink RX12 317 "LowEnergyModel" "pair" "[B", .methodLink RX12 444 yX12_e, .instanceMethod yX12_e, .selects RX12 yX12_e yX12_e, .code yX12_e cX12_e 13 none, .fieldLink RX12 33 "LowEnergyModel" "cells" "[B", .fieldLink RX12 26 "LowEnergyModel" "round" "[B", .fieldLink RX12 36 "LowEnergyModel" "moved" "[B", .methodLink RX12 14 yX12_twice, .static yX12_twice, .code yX12_twice cX12_twice 1 (some .int), .fieldLink RX12 22 "LowEnergyModel" "box" "[I", .methodLink RX12 29 yX12_copy, .static yX12_copy, .code yX12_copy cX12_copy 6 none, .fieldLink RX12 45 "LowEnergyModel" "state" "[I", .fieldLink RX12 60 "LowEnergyModel" "address" "[J", .fieldLink RX12 64 "LowEnergyModel" "peer" "[J", .fieldLink RX12 305 "LowEnergyModel" "firstTwo" "[B", .fieldLink RX12 302 "LowEnergyModel" "tk" "[I", .methodLink RX12 540 yX12_saysRow, .instanceMethod yX12_saysRow, .selects RX12 yX12_saysRow yX12_saysRow, .code yX12_saysRow cX12_saysRow 5 none, .fieldLink RX12 290 "LowEnergyModel" "said" "[B", .methodLink RX12 527 yX12_says, .instanceMethod yX12_says, .selects RX12 yX12_says yX12_says, .code yX12_says cX12_says 5 none, .fieldLink RX12 275 "LowEnergyModel" "messages" "[I", .fieldLink RX12 266 "LowEnergyModel" "message" "[B", .methodLink RX12 432 yX12_number, .static yX12_number, .code yX12_number cX12_number 6 none, .fieldLink RX12 272 "LowEnergyModel" "messageMany" "[I", .methodLink RX12 480 yX12_draw, .instanceMethod yX12_draw, .selects RX12 yX12_draw yX12_draw, .code yX12_draw cX12_draw 2 (some .int), .fieldLink RX12 48 "LowEnergyModel" "x" "[I", .constant RX12 395 (1103515245)] : List Cond) ++ (wsX120 ++ ([])))
theorem hi_M_tells_X12 : ∀ x ∈ u_ws RX12 TX12 123, x ∈ wp_M_tells := fun _ h => List.mem_cons_of_mem _ (List.mem_append_right _ (List.mem_append_left _ h))
set_option maxRecDepth 100000 in
theorem gd_M_tells_M_c_544 : GoodIn wp_M_tells (wsV RX12 544 RX12 yX12_c wp_M_c) := goodIn_app (goodIn_r _ [2, 3, 4, 5] rfl rfl) (goodIn_ca (goodIn_r _ [6, 7, 8, 9, 10, 11, 5, 12, 13, 14, 15, 16, 17, 18, 19, 20, 21, 22, 23, 24, 25, 26, 27] rfl rfl) (goodIn_app (goodIn_cls hi_M_tells_X12 gw_X12) (goodIn_nil)))
set_option maxRecDepth 100000 in
theorem gd_M_tells_M_saysRow_540 : GoodIn wp_M_tells (wsV RX12 540 RX12 yX12_saysRow wp_M_saysRow) := goodIn_app (goodIn_r _ [28, 29, 30, 5] rfl rfl) (goodIn_ca (goodIn_r _ [31, 32, 20, 21, 5, 22, 33, 34, 35, 36, 37, 38, 39, 40, 41, 42] rfl rfl) (goodIn_app (goodIn_cls hi_M_tells_X12 gw_X12) (goodIn_nil)))
set_option maxRecDepth 100000 in
theorem gd_M_tells_M_draw_480 : GoodIn wp_M_tells (wsV RX12 480 RX12 yX12_draw wp_M_draw) := goodIn_app (goodIn_r _ [43, 44, 45, 5] rfl rfl) (goodIn_ca (goodIn_r _ [46, 47, 48] rfl rfl) (goodIn_app (goodIn_cls hi_M_tells_X12 gw_X12) (goodIn_nil)))
set_option maxHeartbeats 4000000 in
set_option maxRecDepth 100000 in
theorem b_M_tells {p : Program} {l : Launch} {e : Env} {R : Room} {s : State} {m : MethodId} {args : Array Value} {below : List Frame} {meth : Method} {c : Code} {D : va_G} {K : Nat → ClassId} {A : Nat → Prop} {Q : State → Prop} {τ : Nat → Option Ty} {dom : List Nat} {zb zL : Nat} {zx : Nat → Int32} {zs : Nat → Nat} (hR : 3 ≤ R.frames ∧ 85 ≤ R.locals) (B : Bx p s m args c cX12_tells 3 RX12 wp_M_tells D (tysA K) A) (Z : Sk τ dom) (hz : ZL zb zL zx zs A s s.heap) (h : Nat) (q : Nat → Nat) (Y : MS τ h q) (d : Int) (r_d : 0 ≤ d ∧ d ≤ 1) (σ0 : Nat → va_E) (G0 : GM K h q σ0) (hM : At σ0 (q 85) (d : Int).toNat (0) (7)) (hend : ∀ (σ' : Nat → va_E) (lv : List (Nat × Value)) (pc : Nat), GM K h q σ' → Fr τ [(108, 0), (197, 0), (198, 0), (199, 0), (104, 0), (105, 0), (106, 0), (190, 0), (182, 0), (184, 0), (185, 0)] σ0 σ' → decode cX12_tells pc = .ok (.return_, 1) → V p l e R s m args below meth c 3 D A Q (0, 0) (fd dom σ') lv pc []) : V p l e R s m args below meth c 3 D A Q (0, 0) (fd dom σ0) [(0, .ref h), (1, .int (iI d))] 0 [] := by
  have F0 : Fr τ [(108, 0), (197, 0), (198, 0), (199, 0), (104, 0), (105, 0), (106, 0), (190, 0), (182, 0), (184, 0), (185, 0)] σ0 σ0 := Fr.rf
  obtain ⟨z1, z2, z3, z4, z5, h6, r7, r8, r9, r10, r11⟩ := G0.t.o
  obtain ⟨f12, h13, e14⟩ := ga_85 G0.t
  obtain ⟨z15, e16, r17⟩ := e14 (d : Int).toNat
  have r18 := hM.use h13 e16 (by omega)
  have J2 : ∀ (k2 : Nat) (σ_2 : Nat → va_E) (z2_2 : Int), (2147483648 - z2_2).toNat ≤ k2 → GM K h q σ_2 → Fr τ [(108, 0), (197, 0), (198, 0), (199, 0), (104, 0), (105, 0), (106, 0), (190, 0), (182, 0), (184, 0), (185, 0)] σ0 σ_2 → (σ_2 (q 85) = .inl (K 0, 2, .inl f12)) → (σ_2 h = .inr (12, fsM q (iI z1) (iI z2) (iI z3) (iI z4) (iI z5))) → (0 ≤ z2_2 ∧ z2_2 ≤ 16) → V p l e R s m args below meth c 3 D A Q (0, 0) (fd dom σ_2) [(0, .ref h), (1, .int (iI d)), (2, .int (iI z2_2))] 2 [] := by
    intro k2
    induction k2 with
    | zero => intro σ_2 z2_2 m2 G_2 F_2 hc2_q85 hc2_h r2_2; omega
    | succ k2 IH2 =>
      intro σ_2 z2_2 m2 G_2 F_2 hc2_q85 hc2_h r2_2
      refine v_iload_n B dX12_tells_2 rfl rfl ?_
      refine v_bipush B (v := iI 16) dX12_tells_3 (by decide +kernel) ?_
      refine u_icmp_ge B (tgt := 31) (by omega) (by omega) dX12_tells_5 (by decide +kernel) (fun c19 => ?_) (fun c19 => ?_)
      · refine v_aload_n B dX12_tells_31 rfl rfl ?_
        refine v_iload_n B dX12_tells_32 rfl rfl ?_
        refine v_aload_n B dX12_tells_33 rfl rfl ?_
        refine u_get B Z (C := RX12) (T := TX12) (N := 123) (ci := 12) hi_M_tells_X12 Y.o hc2_h rfl 97 (by decide +kernel) (List.mem_of_getElem? (i := 1) rfl) rfl dX12_tells_34 ?_
        refine v_bipush B (v := iI 16) dX12_tells_37 (by decide +kernel) ?_
        refine v_iload_n B dX12_tells_39 rfl rfl ?_
        refine v_imul B (v := iI (16 * d)) dX12_tells_40 ((iI_mul _ _).trans (congrArg iI (by omega))) ?_
        refine u_callVv B Z hz (n := 3) (As := [.int (iI d), .ref (q 97), .int (iI (16 * d))]) (rest := []) (c_M_c l D K Z _ _ _ _ h q Y d 97 32 (16 * d) ⟨by omega, by omega⟩ rfl ⟨by omega, by omega⟩ σ_2 G_2 (by omega)) gd_M_tells_M_c_544 rfl rfl rfl (by decide +kernel) ⟨Nat.le_trans (by decide +kernel) hR.1, Nat.le_trans (by decide +kernel) hR.2⟩ Y.o (clsM G_2.t) rfl rfl rfl rfl (Nat.le_of_ble_eq_true rfl) dX12_tells_41 ⟨Nat.zero_le _, Nat.zero_le _⟩ (fun σ20 p21 => ?_)
        obtain ⟨G23, F24⟩ := p21
        have F25 := F_2.call F24 (by first | rfl | simp)
        refine v_aload_n B dX12_tells_44 rfl rfl ?_
        refine v_iload_n B dX12_tells_45 rfl rfl ?_
        refine v_iconst B (v := iI 3) dX12_tells_46 rfl ?_
        refine v_aload_n B dX12_tells_47 rfl rfl ?_
        have h26 := (F24 h _ Y.o (by first | rfl | simp)).trans (hc2_h)
        refine u_get B Z (C := RX12) (T := TX12) (N := 123) (ci := 12) hi_M_tells_X12 Y.o h26 rfl 99 (by decide +kernel) (List.mem_of_getElem? (i := 8) rfl) rfl dX12_tells_48 ?_
        refine v_iconst B (v := iI 0) dX12_tells_51 rfl ?_
        have h27 := (F24 (q 85) _ (ym_85 Y) (by first | rfl | simp)).trans (hc2_q85)
        refine u_callVv B Z hz (n := 4) (As := [.int (iI d), .int (iI 3), .ref (q 99), .int (iI 0)]) (rest := []) (c_M_saysRow l D K Z _ _ _ _ h q Y d 3 99 16 0 ⟨by omega, by omega⟩ ⟨by omega, by omega⟩ rfl ⟨by omega, by omega⟩ σ20 G23 (At.mk h27 e16 (by omega) ⟨by omega, by omega⟩) (by omega)) gd_M_tells_M_saysRow_540 rfl rfl rfl (by decide +kernel) ⟨Nat.le_trans (by decide +kernel) hR.1, Nat.le_trans (by decide +kernel) hR.2⟩ Y.o (clsM G23.t) rfl rfl rfl rfl (Nat.le_of_ble_eq_true rfl) dX12_tells_52 ⟨Nat.zero_le _, Nat.zero_le _⟩ (fun σ28 p29 => ?_)
        obtain ⟨G31, F32⟩ := p29
        have F33 := F25.call F32 (by first | rfl | simp)
        exact hend σ28 _ _ G31 F33 dX12_tells_55
      · refine v_aload_n B dX12_tells_8 rfl rfl ?_
        refine u_get B Z (C := RX12) (T := TX12) (N := 123) (ci := 12) hi_M_tells_X12 Y.o hc2_h rfl 97 (by decide +kernel) (List.mem_of_getElem? (i := 1) rfl) rfl dX12_tells_9 ?_
        refine v_bipush B (v := iI 16) dX12_tells_12 (by decide +kernel) ?_
        refine v_iload_n B dX12_tells_14 rfl rfl ?_
        refine v_imul B (v := iI (16 * d)) dX12_tells_15 ((iI_mul _ _).trans (congrArg iI (by omega))) ?_
        refine v_iload_n B dX12_tells_16 rfl rfl ?_
        refine v_iadd B (v := iI (16 * d + z2_2)) dX12_tells_17 ((iI_add _ _).trans (congrArg iI (by omega))) ?_
        refine v_aload_n B dX12_tells_18 rfl rfl ?_
        refine v_iload_n B dX12_tells_19 rfl rfl ?_
        refine u_callVi B Z hz (n := 1) (As := [.int (iI d)]) (rest := [.int (iI (16 * d + z2_2)), .ref (q 97)]) (c_M_draw l D K Z _ _ _ _ h q Y d ⟨by omega, by omega⟩ σ_2 G_2) gd_M_tells_M_draw_480 rfl rfl rfl (by decide +kernel) ⟨Nat.le_trans (by decide +kernel) hR.1, Nat.le_trans (by decide +kernel) hR.2⟩ Y.o (clsM G_2.t) rfl rfl rfl rfl (Nat.le_of_ble_eq_true rfl) dX12_tells_20 ⟨Nat.zero_le _, Nat.zero_le _⟩ (fun v36 σ34 p35 => ?_)
        obtain ⟨G40, F41, z37, e38, r39⟩ := p35
        subst e38
        have F42 := F_2.call F41 (by first | rfl | simp)
        obtain ⟨z43, e44, r45⟩ := iI_i8 z37
        refine v_i2b B (v := iI z43) dX12_tells_23 e44 ?_
        obtain ⟨f46, h47, e48⟩ := ga_97 G40.t
        refine u_bast B Z (t0 := 2) (x := iI z43) (y := iI z43) (ym_97 Y) h47 rfl (by omega) (nar8 (by omega)) dX12_tells_24 (fun σ49 h50 n51 => ?_)
        have F52 := F42.put (ym_97 Y) (by simp) n51
        have G53 := gp_97 Y G40 ⟨_, h50, el_upd (z := z43) e48 ⟨by omega, by omega⟩ _⟩ n51
        refine v_iinc B (k := 2) (v := iI (z2_2 + 1)) (lv' := [(2, .int (iI (z2_2 + 1))), (0, .ref h), (1, .int (iI d))]) dX12_tells_25 rfl ((iI_add _ _).trans (congrArg iI (by omega))) (by decide +kernel) rfl ?_
        refine v_goto B (tgt := 2) dX12_tells_28 (by decide +kernel) ?_
        refine v_lv [1, 2, 0] rfl ?_
        have h54 := (n51 (q 85) (ne_ty (ym_85 Y) (ym_97 Y) (by decide))).trans ((F41 (q 85) _ (ym_85 Y) (by first | rfl | simp)).trans (hc2_q85))
        have h55 := (n51 h (ne_ty Y.o (ym_97 Y) (by decide))).trans ((F41 h _ Y.o (by first | rfl | simp)).trans (hc2_h))
        exact IH2 σ49 (z2_2 + 1) (by omega) G53 F52 h54 h55 ⟨by omega, by omega⟩
  refine v_iconst B (v := iI 0) dX12_tells_0 rfl ?_
  refine v_istore_n B (lv' := [(2, .int (iI 0)), (0, .ref h), (1, .int (iI d))]) dX12_tells_1 rfl (by decide +kernel) rfl ?_
  refine v_lv [1, 2, 0] rfl ?_
  exact J2 _ σ0 0 (Nat.le_refl _) G0 F0 h13 h6 ⟨by omega, by omega⟩
set_option maxRecDepth 100000 in
theorem c_M_tells (l : Launch) (D : va_G) (K : Nat → ClassId) {τ : Nat → Option Ty} {dom : List Nat} (Z : Sk τ dom) (zb zL : Nat) (zx : Nat → Int32) (zs : Nat → Nat) (h : Nat) (q : Nat → Nat) (Y : MS τ h q) (d : Int) (r_d : 0 ≤ d ∧ d ≤ 1) (σ0 : Nat → va_E) (G0 : GM K h q σ0) (hM : At σ0 (q 85) (d : Int).toNat (0) (7)) : MZ l yX12_tells wp_M_tells ({ frames := 3, cells := 0, slots := 0, locals := 85 }) D (tysA K) [.ref h, .int (iI d)] (fd dom σ0) zb zL zx zs (Qv D (fun σ' => GM K h q σ' ∧ Fr τ [(108, 0), (197, 0), (198, 0), (199, 0), (104, 0), (105, 0), (106, 0), (190, 0), (182, 0), (184, 0), (185, 0)] σ0 σ') (fun σ' => fd dom σ')) 0 0 := by
  refine mz_of (cc := cX12_tells) (maxL := 3) (ret := none) (by decide +kernel) rfl (Nat.le_of_ble_eq_true rfl) ?_
  intro p e s m below meth c A B hr hlk _ hz
  exact b_M_tells ⟨Nat.le_refl _, Nat.le_refl _⟩ B Z hz h q Y d r_d σ0 G0 hM (fun σ' lv pc G F hd => v_vret B hr hlk σ' ⟨G, F⟩ rfl (Nat.le_refl _) (Nat.le_refl _) hd)

def wp_M_pairs : List Cond := .code yX12_pairs cX12_pairs 8 none :: (([.fieldLink RX12 296 "LowEnergyModel" "step" "[I", .fieldLink RX12 293 "LowEnergyModel" "asks" "[B", .methodLink RX12 531 yX12_fails, .instanceMethod yX12_fails, .selects RX12 yX12_fails yX12_fails, .initialized RX12, .code yX12_fails cX12_fails 4 none, .methodLink RX12 504 yX12_complete_, .instanceMethod yX12_complete_, .selects RX12 yX12_complete_ yX12_complete_, .code yX12_complete_ cX12_complete_ 6 none, .fieldLink RX12 10 "LowEnergyModel" "tape" "[B", .methodLink RX12 409 yX12_complete, .instanceMethod yX12_complete, .selects RX12 yX12_complete yX12_complete, .code yX12_complete cX12_complete 11 none, .fieldLink RX12 155 "LowEnergyModel" "kept" "[I", .fieldLink RX12 158 "LowEnergyModel" "keptMany" "[I", .methodLink RX12 404 Lib.Math.min.name, .static Lib.Math.min.name, .initialized "java/lang/Math", .code Lib.Math.min.name Lib.Math.min.code 2 (some .int), .fieldLink RX12 161 "LowEnergyModel" "notKept" "[I", .fieldLink RX12 290 "LowEnergyModel" "said" "[B", .methodLink RX12 527 yX12_says, .instanceMethod yX12_says, .selects RX12 yX12_says yX12_says, .code yX12_says cX12_says 5 none, .fieldLink RX12 275 "LowEnergyModel" "messages" "[I", .fieldLink RX12 266 "LowEnergyModel" "message" "[B", .methodLink RX12 432 yX12_number, .static yX12_number, .code yX12_number cX12_number 6 none, .methodLink RX12 29 yX12_copy, .static yX12_copy, .code yX12_copy cX12_copy 6 none, .fieldLink RX12 272 "LowEnergyModel" "messageMany" "[I", .fieldLink RX12 317 "LowEnergyModel" "pair" "[B", .fieldLink RX12 311 "LowEnergyModel" "ownRandom" "[B", .fieldLink RX12 314 "LowEnergyModel" "tkRow" "[B", .fieldLink RX12 206 "LowEnergyModel" "key" "[B", .methodLink RX12 444 yX12_e, .instanceMethod yX12_e, .selects RX12 yX12_e yX12_e, .code yX12_e cX12_e 13 none, .fieldLink RX12 33 "LowEnergyModel" "cells" "[B", .fieldLink RX12 26 "LowEnergyModel" "round" "[B", .fieldLink RX12 36 "LowEnergyModel" "moved" "[B", .methodLink RX12 14 yX12_twice, .static yX12_twice, .code yX12_twice cX12_twice 1 (some .int), .fieldLink RX12 22 "LowEnergyModel" "box" "[I", .fieldLink RX12 245 "LowEnergyModel" "hasKey" "[Z", .methodLink RX12 540 yX12_saysRow, .instanceMethod yX12_saysRow, .selects RX12 yX12_saysRow yX12_saysRow, .code yX12_saysRow cX12_saysRow 5 none, .fieldLink RX12 308 "LowEnergyModel" "confirm" "[B", .methodLink RX12 544 yX12_c, .instanceMethod yX12_c, .selects RX12 yX12_c yX12_c, .code yX12_c cX12_c 9 none, .fieldLink RX12 45 "LowEnergyModel" "state" "[I", .fieldLink RX12 60 "LowEnergyModel" "address" "[J", .fieldLink RX12 64 "LowEnergyModel" "peer" "[J", .fieldLink RX12 305 "LowEnergyModel" "firstTwo" "[B", .fieldLink RX12 302 "LowEnergyModel" "tk" "[I", .methodLink RX12 537 yX12_tells, .instanceMethod yX12_tells, .selects RX12 yX12_tells yX12_tells, .code yX12_tells cX12_tells 3 none, .methodLink RX12 480 yX12_draw, .instanceMethod yX12_draw, .selects RX12 yX12_draw yX12_draw, .code yX12_draw cX12_draw 2 (some .int), .fieldLink RX12 48 "LowEnergyModel" "x" "[I", .constant RX12 395 (1103515245), .fieldLink RX12 299 "LowEnergyModel" "passkey" "[I", .methodLink RX12 534 yX12_saysFirst, .instanceMethod yX12_saysFirst, .selects RX12 yX12_saysFirst yX12_saysFirst, .code yX12_saysFirst cX12_saysFirst 3 none] : List Cond) ++ (wsX120 ++ ([])))
theorem hi_M_pairs_X12 : ∀ x ∈ u_ws RX12 TX12 123, x ∈ wp_M_pairs := fun _ h => List.mem_cons_of_mem _ (List.mem_append_right _ (List.mem_append_left _ h))
set_option maxRecDepth 100000 in
theorem gd_M_pairs_M_fails_531 : GoodIn wp_M_pairs (wsV RX12 531 RX12 yX12_fails wp_M_fails) := goodIn_app (goodIn_r _ [3, 4, 5, 6] rfl rfl) (goodIn_ca (goodIn_r _ [7, 1, 8, 9, 10, 6, 11, 12, 13, 14, 15, 16, 17, 18, 19, 20, 21, 22, 23, 24, 25, 26, 27, 28, 29, 30, 31, 32, 33, 34, 35, 36, 37] rfl rfl) (goodIn_app (goodIn_cls hi_M_pairs_X12 gw_X12) (goodIn_nil)))
set_option maxRecDepth 100000 in
theorem gd_M_pairs_M_e_444 : GoodIn wp_M_pairs (wsV RX12 444 RX12 yX12_e wp_M_e) := goodIn_app (goodIn_r _ [42, 43, 44, 6] rfl rfl) (goodIn_ca (goodIn_r _ [45, 46, 47, 48, 49, 50, 6, 51, 52, 34, 35, 36] rfl rfl) (goodIn_app (goodIn_cls hi_M_pairs_X12 gw_X12) (goodIn_nil)))
set_option maxRecDepth 100000 in
theorem gd_M_pairs_M_complete5_504 : GoodIn wp_M_pairs (wsV RX12 504 RX12 yX12_complete_ wp_M_complete5) := goodIn_app (goodIn_r _ [8, 9, 10, 6] rfl rfl) (goodIn_ca (goodIn_r _ [11, 12, 13, 14, 15, 6, 16, 17, 18, 19, 20, 21, 22, 23] rfl rfl) (goodIn_app (goodIn_cls hi_M_pairs_X12 gw_X12) (goodIn_nil)))
set_option maxRecDepth 100000 in
theorem gd_M_pairs_M_saysRow_540 : GoodIn wp_M_pairs (wsV RX12 540 RX12 yX12_saysRow wp_M_saysRow) := goodIn_app (goodIn_r _ [54, 55, 56, 6] rfl rfl) (goodIn_ca (goodIn_r _ [57, 24, 34, 35, 6, 36, 25, 26, 27, 28, 29, 30, 31, 32, 33, 37] rfl rfl) (goodIn_app (goodIn_cls hi_M_pairs_X12 gw_X12) (goodIn_nil)))
set_option maxRecDepth 100000 in
theorem gd_M_pairs_M_c_544 : GoodIn wp_M_pairs (wsV RX12 544 RX12 yX12_c wp_M_c) := goodIn_app (goodIn_r _ [59, 60, 61, 6] rfl rfl) (goodIn_ca (goodIn_r _ [62, 40, 38, 42, 43, 44, 6, 45, 46, 47, 48, 49, 50, 51, 52, 34, 35, 36, 63, 64, 65, 66, 67] rfl rfl) (goodIn_app (goodIn_cls hi_M_pairs_X12 gw_X12) (goodIn_nil)))
set_option maxRecDepth 100000 in
theorem gd_M_pairs_M_copy_29 : GoodIn wp_M_pairs (va_wsS RX12 29 yX12_copy wp_M_copy) := goodIn_app (goodIn_r _ [34, 35, 6] rfl rfl) (goodIn_ca (goodIn_r _ [36] rfl rfl) (goodIn_nil))
set_option maxRecDepth 100000 in
theorem gd_M_pairs_M_tells_537 : GoodIn wp_M_pairs (wsV RX12 537 RX12 yX12_tells wp_M_tells) := goodIn_app (goodIn_r _ [68, 69, 70, 6] rfl rfl) (goodIn_ca (goodIn_r _ [71, 39, 59, 60, 61, 6, 62, 40, 38, 42, 43, 44, 45, 46, 47, 48, 49, 50, 51, 52, 34, 35, 36, 63, 64, 65, 66, 67, 54, 55, 56, 57, 24, 25, 26, 27, 28, 29, 30, 31, 32, 33, 37, 72, 73, 74, 75, 76, 77] rfl rfl) (goodIn_app (goodIn_cls hi_M_pairs_X12 gw_X12) (goodIn_nil)))
set_option maxRecDepth 100000 in
theorem gd_M_pairs_M_saysFirst_534 : GoodIn wp_M_pairs (wsV RX12 534 RX12 yX12_saysFirst wp_M_saysFirst) := goodIn_app (goodIn_r _ [79, 80, 81, 6] rfl rfl) (goodIn_ca (goodIn_r _ [82, 24, 66, 34, 35, 6, 36, 25, 26, 27, 28, 29, 30, 31, 32, 33, 37] rfl rfl) (goodIn_app (goodIn_cls hi_M_pairs_X12 gw_X12) (goodIn_nil)))
set_option maxHeartbeats 4000000 in
set_option maxRecDepth 100000 in
theorem b_M_pairs {p : Program} {l : Launch} {e : Env} {R : Room} {s : State} {m : MethodId} {args : Array Value} {below : List Frame} {meth : Method} {c : Code} {D : va_G} {K : Nat → ClassId} {A : Nat → Prop} {Q : State → Prop} {τ : Nat → Option Ty} {dom : List Nat} {zb zL : Nat} {zx : Nat → Int32} {zs : Nat → Nat} (hR : 4 ≤ R.frames ∧ 107 ≤ R.locals) (B : Bx p s m args c cX12_pairs 8 RX12 wp_M_pairs D (tysA K) A) (Z : Sk τ dom) (hz : ZL zb zL zx zs A s s.heap) (h : Nat) (q : Nat → Nat) (Y : MS τ h q) (d : Int) (x2 : Int) (r_d : 0 ≤ d ∧ d ≤ 1) (r_x2 : -4 ≤ x2 ∧ x2 ≤ 92) (σ0 : Nat → va_E) (G0 : GM K h q σ0) (hM : At σ0 (q 85) (d : Int).toNat (0) (7)) (hend : ∀ (σ' : Nat → va_E) (lv : List (Nat × Value)) (pc : Nat), GM K h q σ' → Fr τ [(194, 0), (195, 0), (190, 0), (182, 0), (184, 0), (185, 0), (192, 0), (145, 0), (144, 0), (146, 0), (108, 0), (197, 0), (198, 0), (199, 0), (104, 0), (105, 0), (106, 0), (196, 0), (162, 0), (175, 0)] σ0 σ' → decode cX12_pairs pc = .ok (.return_, 1) → V p l e R s m args below meth c 8 D A Q (0, 0) (fd dom σ') lv pc []) : V p l e R s m args below meth c 8 D A Q (0, 0) (fd dom σ0) [(0, .ref h), (1, .int (iI d)), (2, .int (iI x2))] 0 [] := by
  have F0 : Fr τ [(194, 0), (195, 0), (190, 0), (182, 0), (184, 0), (185, 0), (192, 0), (145, 0), (144, 0), (146, 0), (108, 0), (197, 0), (198, 0), (199, 0), (104, 0), (105, 0), (106, 0), (196, 0), (162, 0), (175, 0)] σ0 σ0 := Fr.rf
  obtain ⟨z1, z2, z3, z4, z5, h6, r7, r8, r9, r10, r11⟩ := G0.t.o
  obtain ⟨f12, h13, e14⟩ := ga_85 G0.t
  obtain ⟨z15, e16, r17⟩ := e14 (d : Int).toNat
  have r18 := hM.use h13 e16 (by omega)
  have J527 : ∀ (σ_527 : Nat → va_E) (z527_3 : Int), GM K h q σ_527 → Fr τ [(194, 0), (195, 0), (190, 0), (182, 0), (184, 0), (185, 0), (192, 0), (145, 0), (144, 0), (146, 0), (108, 0), (197, 0), (198, 0), (199, 0), (104, 0), (105, 0), (106, 0), (196, 0), (162, 0), (175, 0)] σ0 σ_527 → (σ_527 h = .inr (12, fsM q (iI z1) (iI z2) (iI z3) (iI z4) (iI z5))) → (-1 ≤ x2 ∧ x2 ≤ 17) → (0 ≤ z527_3 ∧ z527_3 ≤ 255) → (At σ_527 (q 85) (d : Int).toNat (0) (7)) → V p l e R s m args below meth c 8 D A Q (0, 0) (fd dom σ_527) [(0, .ref h), (1, .int (iI d)), (3, .int (iI z527_3))] 527 [] := by
    intro σ_527 z527_3 G_527 F_527 hc527_h rv527_x2 r527_3 i527
    obtain ⟨f19, h20, e21⟩ := ga_85 G_527.t
    obtain ⟨z22, e23, r24⟩ := e21 (d : Int).toNat
    have r25 := (i527).use h20 e23 (by omega)
    refine v_iload_n B dX12_pairs_527 rfl rfl ?_
    refine v_iconst B (v := iI 5) dX12_pairs_528 rfl ?_
    refine u_icmp_ne B (tgt := 557) (by omega) (by omega) dX12_pairs_529 (by decide +kernel) (fun c26 => ?_) (fun c26 => ?_)
    · exact hend σ_527 _ _ G_527 F_527 dX12_pairs_557
    · refine v_aload_n B dX12_pairs_532 rfl rfl ?_
      refine u_get B Z (C := RX12) (T := TX12) (N := 123) (ci := 12) hi_M_pairs_X12 Y.o hc527_h rfl 92 (by decide +kernel) (List.mem_of_getElem? (i := 1) rfl) rfl dX12_pairs_533 ?_
      refine v_iload_n B dX12_pairs_536 rfl rfl ?_
      obtain ⟨f27, h28, e29⟩ := ga_92 G_527.t
      obtain ⟨z30, e31, r32⟩ := e29 (d : Int).toNat
      refine u_iald B Z (t0 := 0) (ym_92 Y) h28 rfl (by omega) e31 dX12_pairs_537 ?_
      refine u_if_eq B (tgt := 557) (by omega) dX12_pairs_538 (by decide +kernel) (fun c33 => ?_) (fun c33 => ?_)
      · exact hend σ_527 _ _ G_527 F_527 dX12_pairs_557
      · refine v_aload_n B dX12_pairs_541 rfl rfl ?_
        refine v_iload_n B dX12_pairs_542 rfl rfl ?_
        refine v_aload_n B dX12_pairs_543 rfl rfl ?_
        refine u_get B Z (C := RX12) (T := TX12) (N := 123) (ci := 12) hi_M_pairs_X12 Y.o hc527_h rfl 91 (by decide +kernel) (List.mem_of_getElem? (i := 2) rfl) rfl dX12_pairs_544 ?_
        refine v_iconst B (v := iI 1) dX12_pairs_547 rfl ?_
        obtain ⟨f34, h35, e36⟩ := ga_91 G_527.t
        obtain ⟨z37, e38, r39⟩ := e36 (1 : Int).toNat
        refine u_bald B Z (t0 := 2) (ym_91 Y) h35 rfl (by omega) e38 dX12_pairs_548 ?_
        refine v_sipush B (v := iI 255) dX12_pairs_549 (by decide +kernel) ?_
        obtain ⟨z40, e41, r42⟩ := iI_and z37 (c := 255) (by decide) (by decide)
        refine v_iand B (v := iI z40) dX12_pairs_552 e41 ?_
        refine v_iconst B (v := iI 0) dX12_pairs_553 rfl ?_
        refine u_callVv B Z hz (n := 3) (As := [.int (iI d), .int (iI z40), .int (iI 0)]) (rest := []) (c_M_fails l D K Z _ _ _ _ h q Y d z40 0 ⟨by omega, by omega⟩ ⟨by omega, by omega⟩ ⟨by omega, by omega⟩ σ_527 G_527 (At.mk h20 e23 (by omega) ⟨by omega, by omega⟩)) gd_M_pairs_M_fails_531 rfl rfl rfl (by decide +kernel) ⟨Nat.le_trans (by decide +kernel) hR.1, Nat.le_trans (by decide +kernel) hR.2⟩ Y.o (clsM G_527.t) rfl rfl rfl rfl (Nat.le_of_ble_eq_true rfl) dX12_pairs_554 ⟨Nat.zero_le _, Nat.zero_le _⟩ (fun σ43 p44 => ?_)
        obtain ⟨G46, F47⟩ := p44
        have F48 := F_527.call F47 (by first | rfl | simp)
        exact hend σ43 _ _ G46 F48 dX12_pairs_557
  have J390 : ∀ (k390 : Nat) (σ_390 : Nat → va_E) (z390_4 : Int) (z390_7 : Int), (2147483648 - z390_7).toNat ≤ k390 → GM K h q σ_390 → Fr τ [(194, 0), (195, 0), (190, 0), (182, 0), (184, 0), (185, 0), (192, 0), (145, 0), (144, 0), (146, 0), (108, 0), (197, 0), (198, 0), (199, 0), (104, 0), (105, 0), (106, 0), (196, 0), (162, 0), (175, 0)] σ0 σ_390 → (σ_390 h = .inr (12, fsM q (iI z1) (iI z2) (iI z3) (iI z4) (iI z5))) → (-1 ≤ x2 ∧ x2 ≤ 20) → (0 ≤ z390_4 ∧ z390_4 ≤ 1) → (0 ≤ z390_7 ∧ z390_7 ≤ 8) → V p l e R s m args below meth c 8 D A Q (0, 0) (fd dom σ_390) [(0, .ref h), (1, .int (iI d)), (4, .int (iI z390_4)), (7, .int (iI z390_7))] 390 [] := by
    intro k390
    induction k390 with
    | zero => intro σ_390 z390_4 z390_7 m390 G_390 F_390 hc390_h rv390_x2 r390_4 r390_7; omega
    | succ k390 IH390 =>
      intro σ_390 z390_4 z390_7 m390 G_390 F_390 hc390_h rv390_x2 r390_4 r390_7
      have J471 : ∀ (σ_471 : Nat → va_E) (z471_s0 : Int) (z471_s1 : Int), GM K h q σ_471 → Fr τ [(194, 0), (195, 0), (190, 0), (182, 0), (184, 0), (185, 0), (192, 0), (145, 0), (144, 0), (146, 0), (108, 0), (197, 0), (198, 0), (199, 0), (104, 0), (105, 0), (106, 0), (196, 0), (162, 0), (175, 0)] σ0 σ_471 → (σ_471 h = .inr (12, fsM q (iI z1) (iI z2) (iI z3) (iI z4) (iI z5))) → (0 ≤ z390_7 ∧ z390_7 ≤ 7) → (-128 ≤ z471_s0 ∧ z471_s0 ≤ 127) → (8 ≤ z471_s1 ∧ z471_s1 ≤ 15) → V p l e R s m args below meth c 8 D A Q (0, 0) (fd dom σ_471) [(0, .ref h), (1, .int (iI d)), (4, .int (iI z390_4)), (7, .int (iI z390_7))] 471 [.int (iI z471_s0), .int (iI z471_s1), .ref (q 99)] := by
        intro σ_471 z471_s0 z471_s1 G_471 F_471 hc471_h rv471_z390_7 r471_s0 r471_s1
        obtain ⟨f49, h50, e51⟩ := ga_99 G_471.t
        refine u_bast B Z (t0 := 2) (x := iI z471_s0) (y := iI z471_s0) (ym_99 Y) h50 rfl (by omega) (nar8 (by omega)) dX12_pairs_471 (fun σ52 h53 n54 => ?_)
        have F55 := F_471.put (ym_99 Y) (by simp) n54
        have G56 := gp_99 Y G_471 ⟨_, h53, el_upd (z := z471_s0) e51 ⟨by omega, by omega⟩ _⟩ n54
        refine v_iinc B (k := 3) (v := iI (z390_7 + 1)) (lv' := [(7, .int (iI (z390_7 + 1))), (0, .ref h), (1, .int (iI d)), (4, .int (iI z390_4))]) dX12_pairs_472 rfl ((iI_add _ _).trans (congrArg iI (by omega))) (by decide +kernel) rfl ?_
        refine v_goto B (tgt := 390) dX12_pairs_475 (by decide +kernel) ?_
        refine v_lv [1, 2, 3, 0] rfl ?_
        have h57 := (n54 h (ne_ty Y.o (ym_99 Y) (by decide))).trans (hc471_h)
        exact IH390 σ52 z390_4 (z390_7 + 1) (by omega) G56 F55 h57 ⟨by omega, by omega⟩ ⟨by omega, by omega⟩ ⟨by omega, by omega⟩
      have J432 : ∀ (z432_s0 : Int) (z432_s1 : Int), (0 ≤ z390_7 ∧ z390_7 ≤ 7) → (-128 ≤ z432_s0 ∧ z432_s0 ≤ 127) → (0 ≤ z432_s1 ∧ z432_s1 ≤ 7) → V p l e R s m args below meth c 8 D A Q (0, 0) (fd dom σ_390) [(0, .ref h), (1, .int (iI d)), (4, .int (iI z390_4)), (7, .int (iI z390_7))] 432 [.int (iI z432_s0), .int (iI z432_s1), .ref (q 99)] := by
        intro z432_s0 z432_s1 rv432_z390_7 r432_s0 r432_s1
        obtain ⟨f58, h59, e60⟩ := ga_99 G_390.t
        refine u_bast B Z (t0 := 2) (x := iI z432_s0) (y := iI z432_s0) (ym_99 Y) h59 rfl (by omega) (nar8 (by omega)) dX12_pairs_432 (fun σ61 h62 n63 => ?_)
        have F64 := F_390.put (ym_99 Y) (by simp) n63
        have G65 := gp_99 Y G_390 ⟨_, h62, el_upd (z := z432_s0) e60 ⟨by omega, by omega⟩ _⟩ n63
        refine v_aload_n B dX12_pairs_433 rfl rfl ?_
        have h66 := (n63 h (ne_ty Y.o (ym_99 Y) (by decide))).trans (hc390_h)
        refine u_get B Z (C := RX12) (T := TX12) (N := 123) (ci := 12) hi_M_pairs_X12 Y.o h66 rfl 99 (by decide +kernel) (List.mem_of_getElem? (i := 38) rfl) rfl dX12_pairs_434 ?_
        refine v_bipush B (v := iI 8) dX12_pairs_437 (by decide +kernel) ?_
        refine v_iload B dX12_pairs_439 rfl ?_
        refine v_iadd B (v := iI (z390_7 + 8)) dX12_pairs_441 ((iI_add _ _).trans (congrArg iI (by omega))) ?_
        refine v_iload B dX12_pairs_442 rfl ?_
        refine u_if_eq B (tgt := 462) (by omega) dX12_pairs_444 (by decide +kernel) (fun c67 => ?_) (fun c67 => ?_)
        · refine v_aload_n B dX12_pairs_462 rfl rfl ?_
          refine u_get B Z (C := RX12) (T := TX12) (N := 123) (ci := 12) hi_M_pairs_X12 Y.o h66 rfl 91 (by decide +kernel) (List.mem_of_getElem? (i := 2) rfl) rfl dX12_pairs_463 ?_
          refine v_iconst B (v := iI 1) dX12_pairs_466 rfl ?_
          refine v_iload B dX12_pairs_467 rfl ?_
          refine v_iadd B (v := iI (z390_7 + 1)) dX12_pairs_469 ((iI_add _ _).trans (congrArg iI (by omega))) ?_
          obtain ⟨f68, h69, e70⟩ := ga_91 G65.t
          obtain ⟨z71, e72, r73⟩ := e70 ((z390_7 + 1) : Int).toNat
          refine u_bald B Z (t0 := 2) (ym_91 Y) h69 rfl (by omega) e72 dX12_pairs_470 ?_
          exact J471 σ61 z71 (z390_7 + 8) G65 F64 h66 ⟨by omega, by omega⟩ ⟨by omega, by omega⟩ ⟨by omega, by omega⟩
        · refine v_aload_n B dX12_pairs_447 rfl rfl ?_
          refine u_get B Z (C := RX12) (T := TX12) (N := 123) (ci := 12) hi_M_pairs_X12 Y.o h66 rfl 97 (by decide +kernel) (List.mem_of_getElem? (i := 39) rfl) rfl dX12_pairs_448 ?_
          refine v_bipush B (v := iI 16) dX12_pairs_451 (by decide +kernel) ?_
          refine v_iload_n B dX12_pairs_453 rfl rfl ?_
          refine v_imul B (v := iI (16 * d)) dX12_pairs_454 ((iI_mul _ _).trans (congrArg iI (by omega))) ?_
          refine v_iload B dX12_pairs_455 rfl ?_
          refine v_iadd B (v := iI (16 * d + z390_7)) dX12_pairs_457 ((iI_add _ _).trans (congrArg iI (by omega))) ?_
          obtain ⟨f74, h75, e76⟩ := ga_97 G65.t
          obtain ⟨z77, e78, r79⟩ := e76 ((16 * d + z390_7) : Int).toNat
          refine u_bald B Z (t0 := 2) (ym_97 Y) h75 rfl (by omega) e78 dX12_pairs_458 ?_
          refine v_goto B (tgt := 471) dX12_pairs_459 (by decide +kernel) ?_
          exact J471 σ61 z77 (z390_7 + 8) G65 F64 h66 ⟨by omega, by omega⟩ ⟨by omega, by omega⟩ ⟨by omega, by omega⟩
      refine v_iload B dX12_pairs_390 rfl ?_
      refine v_bipush B (v := iI 8) dX12_pairs_392 (by decide +kernel) ?_
      refine u_icmp_ge B (tgt := 478) (by omega) (by omega) dX12_pairs_394 (by decide +kernel) (fun c80 => ?_) (fun c80 => ?_)
      · refine v_aload_n B dX12_pairs_478 rfl rfl ?_
        refine v_aload_n B dX12_pairs_479 rfl rfl ?_
        refine u_get B Z (C := RX12) (T := TX12) (N := 123) (ci := 12) hi_M_pairs_X12 Y.o hc390_h rfl 98 (by decide +kernel) (List.mem_of_getElem? (i := 40) rfl) rfl dX12_pairs_480 ?_
        refine v_iconst B (v := iI 0) dX12_pairs_483 rfl ?_
        refine v_aload_n B dX12_pairs_484 rfl rfl ?_
        refine u_get B Z (C := RX12) (T := TX12) (N := 123) (ci := 12) hi_M_pairs_X12 Y.o hc390_h rfl 99 (by decide +kernel) (List.mem_of_getElem? (i := 38) rfl) rfl dX12_pairs_485 ?_
        refine v_iconst B (v := iI 0) dX12_pairs_488 rfl ?_
        refine v_aload_n B dX12_pairs_489 rfl rfl ?_
        refine u_get B Z (C := RX12) (T := TX12) (N := 123) (ci := 12) hi_M_pairs_X12 Y.o hc390_h rfl 62 (by decide +kernel) (List.mem_of_getElem? (i := 41) rfl) rfl dX12_pairs_490 ?_
        refine v_bipush B (v := iI 16) dX12_pairs_493 (by decide +kernel) ?_
        refine v_iload_n B dX12_pairs_495 rfl rfl ?_
        refine v_imul B (v := iI (16 * d)) dX12_pairs_496 ((iI_mul _ _).trans (congrArg iI (by omega))) ?_
        refine u_callVv B Z hz (n := 6) (As := [.ref (q 98), .int (iI 0), .ref (q 99), .int (iI 0), .ref (q 62), .int (iI (16 * d))]) (rest := []) (c_M_e l D K Z _ _ _ _ h q Y 98 16 0 99 16 0 62 32 (16 * d) rfl ⟨by omega, by omega⟩ rfl ⟨by omega, by omega⟩ rfl ⟨by omega, by omega⟩ σ_390 G_390 (by omega)) gd_M_pairs_M_e_444 rfl rfl rfl (by decide +kernel) ⟨Nat.le_trans (by decide +kernel) hR.1, Nat.le_trans (by decide +kernel) hR.2⟩ Y.o (clsM G_390.t) rfl rfl rfl rfl (Nat.le_of_ble_eq_true rfl) dX12_pairs_497 ⟨Nat.zero_le _, Nat.zero_le _⟩ (fun σ81 p82 => ?_)
        obtain ⟨G84, F85⟩ := p82
        have F86 := F_390.call F85 (by first | rfl | simp)
        refine v_aload_n B dX12_pairs_500 rfl rfl ?_
        have h87 := (F85 h _ Y.o (by first | rfl | simp)).trans (hc390_h)
        refine u_get B Z (C := RX12) (T := TX12) (N := 123) (ci := 12) hi_M_pairs_X12 Y.o h87 rfl 75 (by decide +kernel) (List.mem_of_getElem? (i := 53) rfl) rfl dX12_pairs_501 ?_
        refine v_iload_n B dX12_pairs_504 rfl rfl ?_
        refine v_iconst B (v := iI 1) dX12_pairs_505 rfl ?_
        obtain ⟨f88, h89, e90⟩ := ga_75 G84.t
        refine u_zast B Z (t0 := 3) (x := iI 1) (y := iI 1) (ym_75 Y) h89 rfl (by omega) (narZ (by omega)) dX12_pairs_506 (fun σ91 h92 n93 => ?_)
        have e94 := el_upd (z := 1) e90 ⟨by omega, by omega⟩ (d : Int).toNat
        have F95 := F86.put (ym_75 Y) (by simp) n93
        have G96 := gp_75 Y G84 ⟨_, h92, e94⟩ n93
        refine v_aload_n B dX12_pairs_507 rfl rfl ?_
        have h97 := (n93 h (ne_ty Y.o (ym_75 Y) (by decide))).trans (h87)
        refine u_get B Z (C := RX12) (T := TX12) (N := 123) (ci := 12) hi_M_pairs_X12 Y.o h97 rfl 92 (by decide +kernel) (List.mem_of_getElem? (i := 1) rfl) rfl dX12_pairs_508 ?_
        refine v_iload_n B dX12_pairs_511 rfl rfl ?_
        refine v_iconst B (v := iI 0) dX12_pairs_512 rfl ?_
        obtain ⟨f98, h99, e100⟩ := ga_92 G96.t
        refine u_iast B Z (t0 := 0) (x := iI 0) (ym_92 Y) h99 rfl (by omega) dX12_pairs_513 (fun σ101 h102 n103 => ?_)
        have e104 := el_upd (z := 0) e100 ⟨by omega, by omega⟩ (d : Int).toNat
        have F105 := F95.put (ym_92 Y) (by simp) n103
        have G106 := gp_92 Y G96 ⟨_, h102, e104⟩ n103
        refine v_aload_n B dX12_pairs_514 rfl rfl ?_
        refine v_iload_n B dX12_pairs_515 rfl rfl ?_
        refine v_bipush B (v := iI 10) dX12_pairs_516 (by decide +kernel) ?_
        refine v_iconst B (v := iI 0) dX12_pairs_518 rfl ?_
        refine v_iconst B (v := iI 0) dX12_pairs_519 rfl ?_
        refine v_iconst B (v := iI 0) dX12_pairs_520 rfl ?_
        refine u_callVv B Z hz (n := 5) (As := [.int (iI d), .int (iI 10), .int (iI 0), .int (iI 0), .int (iI 0)]) (rest := []) (c_M_complete5 l D K Z _ _ _ _ h q Y d 10 0 0 0 ⟨by omega, by omega⟩ ⟨by omega, by omega⟩ ⟨by omega, by omega⟩ ⟨by omega, by omega⟩ ⟨by omega, by omega⟩ σ101 G106) gd_M_pairs_M_complete5_504 rfl rfl rfl (by decide +kernel) ⟨Nat.le_trans (by decide +kernel) hR.1, Nat.le_trans (by decide +kernel) hR.2⟩ Y.o (clsM G106.t) rfl rfl rfl rfl (Nat.le_of_ble_eq_true rfl) dX12_pairs_521 ⟨Nat.zero_le _, Nat.zero_le _⟩ (fun σ107 p108 => ?_)
        obtain ⟨G110, F111⟩ := p108
        have F112 := F105.call F111 (by first | rfl | simp)
        refine v_goto B (tgt := 557) dX12_pairs_524 (by decide +kernel) ?_
        exact hend σ107 _ _ G110 F112 dX12_pairs_557
      · refine v_aload_n B dX12_pairs_397 rfl rfl ?_
        refine u_get B Z (C := RX12) (T := TX12) (N := 123) (ci := 12) hi_M_pairs_X12 Y.o hc390_h rfl 99 (by decide +kernel) (List.mem_of_getElem? (i := 38) rfl) rfl dX12_pairs_398 ?_
        refine v_iload B dX12_pairs_401 rfl ?_
        refine v_iload B dX12_pairs_403 rfl ?_
        refine u_if_eq B (tgt := 420) (by omega) dX12_pairs_405 (by decide +kernel) (fun c113 => ?_) (fun c113 => ?_)
        · refine v_aload_n B dX12_pairs_420 rfl rfl ?_
          refine u_get B Z (C := RX12) (T := TX12) (N := 123) (ci := 12) hi_M_pairs_X12 Y.o hc390_h rfl 97 (by decide +kernel) (List.mem_of_getElem? (i := 39) rfl) rfl dX12_pairs_421 ?_
          refine v_bipush B (v := iI 16) dX12_pairs_424 (by decide +kernel) ?_
          refine v_iload_n B dX12_pairs_426 rfl rfl ?_
          refine v_imul B (v := iI (16 * d)) dX12_pairs_427 ((iI_mul _ _).trans (congrArg iI (by omega))) ?_
          refine v_iload B dX12_pairs_428 rfl ?_
          refine v_iadd B (v := iI (16 * d + z390_7)) dX12_pairs_430 ((iI_add _ _).trans (congrArg iI (by omega))) ?_
          obtain ⟨f114, h115, e116⟩ := ga_97 G_390.t
          obtain ⟨z117, e118, r119⟩ := e116 ((16 * d + z390_7) : Int).toNat
          refine u_bald B Z (t0 := 2) (ym_97 Y) h115 rfl (by omega) e118 dX12_pairs_431 ?_
          exact J432 z117 z390_7 ⟨by omega, by omega⟩ ⟨by omega, by omega⟩ ⟨by omega, by omega⟩
        · refine v_aload_n B dX12_pairs_408 rfl rfl ?_
          refine u_get B Z (C := RX12) (T := TX12) (N := 123) (ci := 12) hi_M_pairs_X12 Y.o hc390_h rfl 91 (by decide +kernel) (List.mem_of_getElem? (i := 2) rfl) rfl dX12_pairs_409 ?_
          refine v_iconst B (v := iI 1) dX12_pairs_412 rfl ?_
          refine v_iload B dX12_pairs_413 rfl ?_
          refine v_iadd B (v := iI (z390_7 + 1)) dX12_pairs_415 ((iI_add _ _).trans (congrArg iI (by omega))) ?_
          obtain ⟨f120, h121, e122⟩ := ga_91 G_390.t
          obtain ⟨z123, e124, r125⟩ := e122 ((z390_7 + 1) : Int).toNat
          refine u_bald B Z (t0 := 2) (ym_91 Y) h121 rfl (by omega) e124 dX12_pairs_416 ?_
          refine v_goto B (tgt := 432) dX12_pairs_417 (by decide +kernel) ?_
          exact J432 z123 z390_7 ⟨by omega, by omega⟩ ⟨by omega, by omega⟩ ⟨by omega, by omega⟩
  have J387 : ∀ (σ_387 : Nat → va_E) (z387_4 : Int), GM K h q σ_387 → Fr τ [(194, 0), (195, 0), (190, 0), (182, 0), (184, 0), (185, 0), (192, 0), (145, 0), (144, 0), (146, 0), (108, 0), (197, 0), (198, 0), (199, 0), (104, 0), (105, 0), (106, 0), (196, 0), (162, 0), (175, 0)] σ0 σ_387 → (σ_387 h = .inr (12, fsM q (iI z1) (iI z2) (iI z3) (iI z4) (iI z5))) → (-1 ≤ x2 ∧ x2 ≤ 20) → (0 ≤ z387_4 ∧ z387_4 ≤ 1) → V p l e R s m args below meth c 8 D A Q (0, 0) (fd dom σ_387) [(0, .ref h), (1, .int (iI d)), (4, .int (iI z387_4))] 387 [] := by
    intro σ_387 z387_4 G_387 F_387 hc387_h rv387_x2 r387_4
    refine v_iconst B (v := iI 0) dX12_pairs_387 rfl ?_
    refine v_istore B (lv' := [(7, .int (iI 0)), (0, .ref h), (1, .int (iI d)), (4, .int (iI z387_4))]) dX12_pairs_388 (by decide +kernel) rfl ?_
    refine v_lv [1, 2, 3, 0] rfl ?_
    exact J390 _ σ_387 z387_4 0 (Nat.le_refl _) G_387 F_387 hc387_h ⟨by omega, by omega⟩ ⟨by omega, by omega⟩ ⟨by omega, by omega⟩
  have J308 : ∀ (k308 : Nat) (σ_308 : Nat → va_E) (z308_4 : Int) (z308_6 : Int) (z308_7 : Int), (2147483648 - z308_7).toNat ≤ k308 → GM K h q σ_308 → Fr τ [(194, 0), (195, 0), (190, 0), (182, 0), (184, 0), (185, 0), (192, 0), (145, 0), (144, 0), (146, 0), (108, 0), (197, 0), (198, 0), (199, 0), (104, 0), (105, 0), (106, 0), (196, 0), (162, 0), (175, 0)] σ0 σ_308 → (σ_308 h = .inr (12, fsM q (iI z1) (iI z2) (iI z3) (iI z4) (iI z5))) → (-1 ≤ x2 ∧ x2 ≤ 20) → (0 ≤ z308_4 ∧ z308_4 ≤ 1) → (0 ≤ z308_6 ∧ z308_6 ≤ 1) → (0 ≤ z308_7 ∧ z308_7 ≤ 16) → (At σ_308 (q 85) (d : Int).toNat (0) (7)) → V p l e R s m args below meth c 8 D A Q (0, 0) (fd dom σ_308) [(0, .ref h), (1, .int (iI d)), (4, .int (iI z308_4)), (6, .int (iI z308_6)), (7, .int (iI z308_7))] 308 [] := by
    intro k308
    induction k308 with
    | zero => intro σ_308 z308_4 z308_6 z308_7 m308 G_308 F_308 hc308_h rv308_x2 r308_4 r308_6 r308_7 i308; omega
    | succ k308 IH308 =>
      intro σ_308 z308_4 z308_6 z308_7 m308 G_308 F_308 hc308_h rv308_x2 r308_4 r308_6 r308_7 i308
      have J347 : ∀ (z347_s0 : Int), (0 ≤ z308_7 ∧ z308_7 ≤ 15) → (0 ≤ z347_s0 ∧ z347_s0 ≤ 1) → (At σ_308 (q 85) (d : Int).toNat (0) (7)) → V p l e R s m args below meth c 8 D A Q (0, 0) (fd dom σ_308) [(0, .ref h), (1, .int (iI d)), (4, .int (iI z308_4)), (7, .int (iI z308_7))] 347 [.int (iI z347_s0)] := by
        intro z347_s0 rv347_z308_7 r347_s0 i347
        obtain ⟨f126, h127, e128⟩ := ga_85 G_308.t
        obtain ⟨z129, e130, r131⟩ := e128 (d : Int).toNat
        have r132 := (i347).use h127 e130 (by omega)
        refine v_istore B (lv' := [(6, .int (iI z347_s0)), (0, .ref h), (1, .int (iI d)), (4, .int (iI z308_4)), (7, .int (iI z308_7))]) dX12_pairs_347 (by decide +kernel) rfl ?_
        refine v_iinc B (k := 4) (v := iI (z308_7 + 1)) (lv' := [(7, .int (iI (z308_7 + 1))), (6, .int (iI z347_s0)), (0, .ref h), (1, .int (iI d)), (4, .int (iI z308_4))]) dX12_pairs_349 rfl ((iI_add _ _).trans (congrArg iI (by omega))) (by decide +kernel) rfl ?_
        refine v_goto B (tgt := 308) dX12_pairs_352 (by decide +kernel) ?_
        refine v_lv [2, 3, 4, 1, 0] rfl ?_
        exact IH308 σ_308 z308_4 z347_s0 (z308_7 + 1) (by omega) G_308 F_308 hc308_h ⟨by omega, by omega⟩ ⟨by omega, by omega⟩ ⟨by omega, by omega⟩ ⟨by omega, by omega⟩ ((At.mk h127 e130 (by omega) ⟨by omega, by omega⟩))
      have J346 : (0 ≤ z308_7 ∧ z308_7 ≤ 15) → (At σ_308 (q 85) (d : Int).toNat (0) (7)) → V p l e R s m args below meth c 8 D A Q (0, 0) (fd dom σ_308) [(0, .ref h), (1, .int (iI d)), (4, .int (iI z308_4)), (7, .int (iI z308_7))] 346 [] := by
        intro rv346_z308_7 i346
        obtain ⟨f133, h134, e135⟩ := ga_85 G_308.t
        obtain ⟨z136, e137, r138⟩ := e135 (d : Int).toNat
        have r139 := (i346).use h134 e137 (by omega)
        refine v_iconst B (v := iI 0) dX12_pairs_346 rfl ?_
        exact J347 0 ⟨by omega, by omega⟩ ⟨by omega, by omega⟩ ((At.mk h134 e137 (by omega) ⟨by omega, by omega⟩))
      obtain ⟨f140, h141, e142⟩ := ga_85 G_308.t
      obtain ⟨z143, e144, r145⟩ := e142 (d : Int).toNat
      have r146 := (i308).use h141 e144 (by omega)
      refine v_iload B dX12_pairs_308 rfl ?_
      refine v_bipush B (v := iI 16) dX12_pairs_310 (by decide +kernel) ?_
      refine u_icmp_ge B (tgt := 355) (by omega) (by omega) dX12_pairs_312 (by decide +kernel) (fun c147 => ?_) (fun c147 => ?_)
      · refine v_iload B dX12_pairs_355 rfl ?_
        refine u_if_ne B (tgt := 368) (by omega) dX12_pairs_357 (by decide +kernel) (fun c148 => ?_) (fun c148 => ?_)
        · refine v_iload B dX12_pairs_368 rfl ?_
          refine u_if_ne B (tgt := 387) (by omega) dX12_pairs_370 (by decide +kernel) (fun c149 => ?_) (fun c149 => ?_)
          · refine v_lv [0, 1, 2] rfl ?_
            exact J387 σ_308 z308_4 G_308 F_308 hc308_h ⟨by omega, by omega⟩ ⟨by omega, by omega⟩
          · refine v_aload_n B dX12_pairs_373 rfl rfl ?_
            refine v_iload_n B dX12_pairs_374 rfl rfl ?_
            refine v_iconst B (v := iI 4) dX12_pairs_375 rfl ?_
            refine v_aload_n B dX12_pairs_376 rfl rfl ?_
            refine u_get B Z (C := RX12) (T := TX12) (N := 123) (ci := 12) hi_M_pairs_X12 Y.o hc308_h rfl 97 (by decide +kernel) (List.mem_of_getElem? (i := 39) rfl) rfl dX12_pairs_377 ?_
            refine v_bipush B (v := iI 16) dX12_pairs_380 (by decide +kernel) ?_
            refine v_iload_n B dX12_pairs_382 rfl rfl ?_
            refine v_imul B (v := iI (16 * d)) dX12_pairs_383 ((iI_mul _ _).trans (congrArg iI (by omega))) ?_
            refine u_callVv B Z hz (n := 4) (As := [.int (iI d), .int (iI 4), .ref (q 97), .int (iI (16 * d))]) (rest := []) (c_M_saysRow l D K Z _ _ _ _ h q Y d 4 97 32 (16 * d) ⟨by omega, by omega⟩ ⟨by omega, by omega⟩ rfl ⟨by omega, by omega⟩ σ_308 G_308 (At.mk h141 e144 (by omega) ⟨by omega, by omega⟩) (by omega)) gd_M_pairs_M_saysRow_540 rfl rfl rfl (by decide +kernel) ⟨Nat.le_trans (by decide +kernel) hR.1, Nat.le_trans (by decide +kernel) hR.2⟩ Y.o (clsM G_308.t) rfl rfl rfl rfl (Nat.le_of_ble_eq_true rfl) dX12_pairs_384 ⟨Nat.zero_le _, Nat.zero_le _⟩ (fun σ150 p151 => ?_)
            obtain ⟨G153, F154⟩ := p151
            have F155 := F_308.call F154 (by first | rfl | simp)
            refine v_lv [0, 1, 2] rfl ?_
            have h156 := (F154 h _ Y.o (by first | rfl | simp)).trans (hc308_h)
            exact J387 σ150 z308_4 G153 F155 h156 ⟨by omega, by omega⟩ ⟨by omega, by omega⟩
        · refine v_aload_n B dX12_pairs_360 rfl rfl ?_
          refine v_iload_n B dX12_pairs_361 rfl rfl ?_
          refine v_iconst B (v := iI 4) dX12_pairs_362 rfl ?_
          refine v_iconst B (v := iI 1) dX12_pairs_363 rfl ?_
          refine u_callVv B Z hz (n := 3) (As := [.int (iI d), .int (iI 4), .int (iI 1)]) (rest := []) (c_M_fails l D K Z _ _ _ _ h q Y d 4 1 ⟨by omega, by omega⟩ ⟨by omega, by omega⟩ ⟨by omega, by omega⟩ σ_308 G_308 (At.mk h141 e144 (by omega) ⟨by omega, by omega⟩)) gd_M_pairs_M_fails_531 rfl rfl rfl (by decide +kernel) ⟨Nat.le_trans (by decide +kernel) hR.1, Nat.le_trans (by decide +kernel) hR.2⟩ Y.o (clsM G_308.t) rfl rfl rfl rfl (Nat.le_of_ble_eq_true rfl) dX12_pairs_364 ⟨Nat.zero_le _, Nat.zero_le _⟩ (fun σ157 p158 => ?_)
          obtain ⟨G160, F161⟩ := p158
          have F162 := F_308.call F161 (by first | rfl | simp)
          exact hend σ157 _ _ G160 F162 dX12_pairs_367
      · refine v_iload B dX12_pairs_315 rfl ?_
        refine u_if_eq B (tgt := 346) (by omega) dX12_pairs_317 (by decide +kernel) (fun c163 => ?_) (fun c163 => ?_)
        · refine v_lv [0, 1, 2, 4] rfl ?_
          exact J346 ⟨by omega, by omega⟩ ((At.mk h141 e144 (by omega) ⟨by omega, by omega⟩))
        · refine v_aload_n B dX12_pairs_320 rfl rfl ?_
          refine u_get B Z (C := RX12) (T := TX12) (N := 123) (ci := 12) hi_M_pairs_X12 Y.o hc308_h rfl 99 (by decide +kernel) (List.mem_of_getElem? (i := 38) rfl) rfl dX12_pairs_321 ?_
          refine v_iload B dX12_pairs_324 rfl ?_
          obtain ⟨f164, h165, e166⟩ := ga_99 G_308.t
          obtain ⟨z167, e168, r169⟩ := e166 (z308_7 : Int).toNat
          refine u_bald B Z (t0 := 2) (ym_99 Y) h165 rfl (by omega) e168 dX12_pairs_326 ?_
          refine v_aload_n B dX12_pairs_327 rfl rfl ?_
          refine u_get B Z (C := RX12) (T := TX12) (N := 123) (ci := 12) hi_M_pairs_X12 Y.o hc308_h rfl 96 (by decide +kernel) (List.mem_of_getElem? (i := 58) rfl) rfl dX12_pairs_328 ?_
          refine v_bipush B (v := iI 16) dX12_pairs_331 (by decide +kernel) ?_
          refine v_iload_n B dX12_pairs_333 rfl rfl ?_
          refine v_imul B (v := iI (16 * d)) dX12_pairs_334 ((iI_mul _ _).trans (congrArg iI (by omega))) ?_
          refine v_iload B dX12_pairs_335 rfl ?_
          refine v_iadd B (v := iI (16 * d + z308_7)) dX12_pairs_337 ((iI_add _ _).trans (congrArg iI (by omega))) ?_
          obtain ⟨f170, h171, e172⟩ := ga_96 G_308.t
          obtain ⟨z173, e174, r175⟩ := e172 ((16 * d + z308_7) : Int).toNat
          refine u_bald B Z (t0 := 2) (ym_96 Y) h171 rfl (by omega) e174 dX12_pairs_338 ?_
          refine u_icmp_ne B (tgt := 346) (by omega) (by omega) dX12_pairs_339 (by decide +kernel) (fun c176 => ?_) (fun c176 => ?_)
          · refine v_lv [0, 1, 2, 4] rfl ?_
            exact J346 ⟨by omega, by omega⟩ ((At.mk h141 e144 (by omega) ⟨by omega, by omega⟩))
          · refine v_iconst B (v := iI 1) dX12_pairs_342 rfl ?_
            refine v_goto B (tgt := 347) dX12_pairs_343 (by decide +kernel) ?_
            refine v_lv [0, 1, 2, 4] rfl ?_
            exact J347 1 ⟨by omega, by omega⟩ ⟨by omega, by omega⟩ ((At.mk h141 e144 (by omega) ⟨by omega, by omega⟩))
  have J277 : ∀ (σ_277 : Nat → va_E) (z277_3 : Int) (z277_4 : Int), GM K h q σ_277 → Fr τ [(194, 0), (195, 0), (190, 0), (182, 0), (184, 0), (185, 0), (192, 0), (145, 0), (144, 0), (146, 0), (108, 0), (197, 0), (198, 0), (199, 0), (104, 0), (105, 0), (106, 0), (196, 0), (162, 0), (175, 0)] σ0 σ_277 → (σ_277 h = .inr (12, fsM q (iI z1) (iI z2) (iI z3) (iI z4) (iI z5))) → (-1 ≤ x2 ∧ x2 ≤ 17) → (0 ≤ z277_3 ∧ z277_3 ≤ 255) → (0 ≤ z277_4 ∧ z277_4 ≤ 1) → (At σ_277 (q 85) (d : Int).toNat (0) (7)) → V p l e R s m args below meth c 8 D A Q (0, 0) (fd dom σ_277) [(0, .ref h), (1, .int (iI d)), (3, .int (iI z277_3)), (4, .int (iI z277_4))] 277 [] := by
    intro σ_277 z277_3 z277_4 G_277 F_277 hc277_h rv277_x2 r277_3 r277_4 i277
    obtain ⟨f177, h178, e179⟩ := ga_85 G_277.t
    obtain ⟨z180, e181, r182⟩ := e179 (d : Int).toNat
    have r183 := (i277).use h178 e181 (by omega)
    refine v_iload_n B dX12_pairs_277 rfl rfl ?_
    refine v_iconst B (v := iI 4) dX12_pairs_278 rfl ?_
    refine u_icmp_ne B (tgt := 527) (by omega) (by omega) dX12_pairs_279 (by decide +kernel) (fun c184 => ?_) (fun c184 => ?_)
    · refine v_lv [0, 1, 2] rfl ?_
      exact J527 σ_277 z277_3 G_277 F_277 hc277_h ⟨by omega, by omega⟩ ⟨by omega, by omega⟩ ((At.mk h178 e181 (by omega) ⟨by omega, by omega⟩))
    · refine v_aload_n B dX12_pairs_282 rfl rfl ?_
      refine u_get B Z (C := RX12) (T := TX12) (N := 123) (ci := 12) hi_M_pairs_X12 Y.o hc277_h rfl 92 (by decide +kernel) (List.mem_of_getElem? (i := 1) rfl) rfl dX12_pairs_283 ?_
      refine v_iload_n B dX12_pairs_286 rfl rfl ?_
      obtain ⟨f185, h186, e187⟩ := ga_92 G_277.t
      obtain ⟨z188, e189, r190⟩ := e187 (d : Int).toNat
      refine u_iald B Z (t0 := 0) (ym_92 Y) h186 rfl (by omega) e189 dX12_pairs_287 ?_
      refine v_iconst B (v := iI 3) dX12_pairs_288 rfl ?_
      refine u_icmp_ne B (tgt := 527) (by omega) (by omega) dX12_pairs_289 (by decide +kernel) (fun c191 => ?_) (fun c191 => ?_)
      · refine v_lv [0, 1, 2] rfl ?_
        exact J527 σ_277 z277_3 G_277 F_277 hc277_h ⟨by omega, by omega⟩ ⟨by omega, by omega⟩ ((At.mk h178 e181 (by omega) ⟨by omega, by omega⟩))
      · refine v_aload_n B dX12_pairs_292 rfl rfl ?_
        refine v_iload_n B dX12_pairs_293 rfl rfl ?_
        refine v_aload_n B dX12_pairs_294 rfl rfl ?_
        refine u_get B Z (C := RX12) (T := TX12) (N := 123) (ci := 12) hi_M_pairs_X12 Y.o hc277_h rfl 91 (by decide +kernel) (List.mem_of_getElem? (i := 2) rfl) rfl dX12_pairs_295 ?_
        refine v_iconst B (v := iI 1) dX12_pairs_298 rfl ?_
        refine u_callVv B Z hz (n := 3) (As := [.int (iI d), .ref (q 91), .int (iI 1)]) (rest := []) (c_M_c l D K Z _ _ _ _ h q Y d 91 96 1 ⟨by omega, by omega⟩ rfl ⟨by omega, by omega⟩ σ_277 G_277 (by omega)) gd_M_pairs_M_c_544 rfl rfl rfl (by decide +kernel) ⟨Nat.le_trans (by decide +kernel) hR.1, Nat.le_trans (by decide +kernel) hR.2⟩ Y.o (clsM G_277.t) rfl rfl rfl rfl (Nat.le_of_ble_eq_true rfl) dX12_pairs_299 ⟨Nat.zero_le _, Nat.zero_le _⟩ (fun σ192 p193 => ?_)
        obtain ⟨G195, F196⟩ := p193
        have F197 := F_277.call F196 (by first | rfl | simp)
        refine v_iconst B (v := iI 1) dX12_pairs_302 rfl ?_
        refine v_istore B (lv' := [(6, .int (iI 1)), (0, .ref h), (1, .int (iI d)), (3, .int (iI z277_3)), (4, .int (iI z277_4))]) dX12_pairs_303 (by decide +kernel) rfl ?_
        refine v_iconst B (v := iI 0) dX12_pairs_305 rfl ?_
        refine v_istore B (lv' := [(7, .int (iI 0)), (6, .int (iI 1)), (0, .ref h), (1, .int (iI d)), (3, .int (iI z277_3)), (4, .int (iI z277_4))]) dX12_pairs_306 (by decide +kernel) rfl ?_
        refine v_lv [2, 3, 5, 1, 0] rfl ?_
        have h198 := (F196 (q 85) _ (ym_85 Y) (by first | rfl | simp)).trans (h178)
        have h199 := (F196 h _ Y.o (by first | rfl | simp)).trans (hc277_h)
        exact J308 _ σ192 z277_4 1 0 (Nat.le_refl _) G195 F197 h199 ⟨by omega, by omega⟩ ⟨by omega, by omega⟩ ⟨by omega, by omega⟩ ⟨by omega, by omega⟩ ((At.mk h198 e181 (by omega) ⟨by omega, by omega⟩))
  have J267 : ∀ (σ_267 : Nat → va_E), GM K h q σ_267 → Fr τ [(194, 0), (195, 0), (190, 0), (182, 0), (184, 0), (185, 0), (192, 0), (145, 0), (144, 0), (146, 0), (108, 0), (197, 0), (198, 0), (199, 0), (104, 0), (105, 0), (106, 0), (196, 0), (162, 0), (175, 0)] σ0 σ_267 → (σ_267 h = .inr (12, fsM q (iI z1) (iI z2) (iI z3) (iI z4) (iI z5))) → (-1 ≤ x2 ∧ x2 ≤ 17) → V p l e R s m args below meth c 8 D A Q (0, 0) (fd dom σ_267) [(0, .ref h), (1, .int (iI d))] 267 [] := by
    intro σ_267 G_267 F_267 hc267_h rv267_x2
    refine v_aload_n B dX12_pairs_267 rfl rfl ?_
    refine u_get B Z (C := RX12) (T := TX12) (N := 123) (ci := 12) hi_M_pairs_X12 Y.o hc267_h rfl 92 (by decide +kernel) (List.mem_of_getElem? (i := 1) rfl) rfl dX12_pairs_268 ?_
    refine v_iload_n B dX12_pairs_271 rfl rfl ?_
    refine v_iconst B (v := iI 3) dX12_pairs_272 rfl ?_
    obtain ⟨f200, h201, e202⟩ := ga_92 G_267.t
    refine u_iast B Z (t0 := 0) (x := iI 3) (ym_92 Y) h201 rfl (by omega) dX12_pairs_273 (fun σ203 h204 n205 => ?_)
    have e206 := el_upd (z := 3) e202 ⟨by omega, by omega⟩ (d : Int).toNat
    have F207 := F_267.put (ym_92 Y) (by simp) n205
    have G208 := gp_92 Y G_267 ⟨_, h204, e206⟩ n205
    refine v_goto B (tgt := 557) dX12_pairs_274 (by decide +kernel) ?_
    exact hend σ203 _ _ G208 F207 dX12_pairs_557
  have J207 : ∀ (σ_207 : Nat → va_E) (z207_3 : Int) (z207_4 : Int), GM K h q σ_207 → Fr τ [(194, 0), (195, 0), (190, 0), (182, 0), (184, 0), (185, 0), (192, 0), (145, 0), (144, 0), (146, 0), (108, 0), (197, 0), (198, 0), (199, 0), (104, 0), (105, 0), (106, 0), (196, 0), (162, 0), (175, 0)] σ0 σ_207 → (σ_207 h = .inr (12, fsM q (iI z1) (iI z2) (iI z3) (iI z4) (iI z5))) → (-1 ≤ x2 ∧ x2 ≤ 17) → (0 ≤ z207_3 ∧ z207_3 ≤ 255) → (0 ≤ z207_4 ∧ z207_4 ≤ 1) → (At σ_207 (q 85) (d : Int).toNat (0) (7)) → V p l e R s m args below meth c 8 D A Q (0, 0) (fd dom σ_207) [(0, .ref h), (1, .int (iI d)), (3, .int (iI z207_3)), (4, .int (iI z207_4))] 207 [] := by
    intro σ_207 z207_3 z207_4 G_207 F_207 hc207_h rv207_x2 r207_3 r207_4 i207
    obtain ⟨f209, h210, e211⟩ := ga_85 G_207.t
    obtain ⟨z212, e213, r214⟩ := e211 (d : Int).toNat
    have r215 := (i207).use h210 e213 (by omega)
    refine v_iload_n B dX12_pairs_207 rfl rfl ?_
    refine v_iconst B (v := iI 3) dX12_pairs_208 rfl ?_
    refine u_icmp_ne B (tgt := 277) (by omega) (by omega) dX12_pairs_209 (by decide +kernel) (fun c216 => ?_) (fun c216 => ?_)
    · exact J277 σ_207 z207_3 z207_4 G_207 F_207 hc207_h ⟨by omega, by omega⟩ ⟨by omega, by omega⟩ ⟨by omega, by omega⟩ ((At.mk h210 e213 (by omega) ⟨by omega, by omega⟩))
    · refine v_aload_n B dX12_pairs_212 rfl rfl ?_
      refine u_get B Z (C := RX12) (T := TX12) (N := 123) (ci := 12) hi_M_pairs_X12 Y.o hc207_h rfl 92 (by decide +kernel) (List.mem_of_getElem? (i := 1) rfl) rfl dX12_pairs_213 ?_
      refine v_iload_n B dX12_pairs_216 rfl rfl ?_
      obtain ⟨f217, h218, e219⟩ := ga_92 G_207.t
      obtain ⟨z220, e221, r222⟩ := e219 (d : Int).toNat
      refine u_iald B Z (t0 := 0) (ym_92 Y) h218 rfl (by omega) e221 dX12_pairs_217 ?_
      refine v_iconst B (v := iI 2) dX12_pairs_218 rfl ?_
      refine u_icmp_ne B (tgt := 277) (by omega) (by omega) dX12_pairs_219 (by decide +kernel) (fun c223 => ?_) (fun c223 => ?_)
      · exact J277 σ_207 z207_3 z207_4 G_207 F_207 hc207_h ⟨by omega, by omega⟩ ⟨by omega, by omega⟩ ⟨by omega, by omega⟩ ((At.mk h210 e213 (by omega) ⟨by omega, by omega⟩))
      · refine v_aload_n B dX12_pairs_222 rfl rfl ?_
        refine u_get B Z (C := RX12) (T := TX12) (N := 123) (ci := 12) hi_M_pairs_X12 Y.o hc207_h rfl 91 (by decide +kernel) (List.mem_of_getElem? (i := 2) rfl) rfl dX12_pairs_223 ?_
        refine v_iconst B (v := iI 1) dX12_pairs_226 rfl ?_
        refine v_aload_n B dX12_pairs_227 rfl rfl ?_
        refine u_get B Z (C := RX12) (T := TX12) (N := 123) (ci := 12) hi_M_pairs_X12 Y.o hc207_h rfl 96 (by decide +kernel) (List.mem_of_getElem? (i := 58) rfl) rfl dX12_pairs_228 ?_
        refine v_bipush B (v := iI 16) dX12_pairs_231 (by decide +kernel) ?_
        refine v_iload_n B dX12_pairs_233 rfl rfl ?_
        refine v_imul B (v := iI (16 * d)) dX12_pairs_234 ((iI_mul _ _).trans (congrArg iI (by omega))) ?_
        refine v_bipush B (v := iI 16) dX12_pairs_235 (by decide +kernel) ?_
        refine u_callSv B Z hz (n := 5) (As := [.ref (q 91), .int (iI 1), .ref (q 96), .int (iI (16 * d)), .int (iI 16)]) (rest := []) (c_M_copy l D K Z _ _ _ _ h q Y 91 96 1 96 32 (16 * d) 16 rfl ⟨by omega, by omega⟩ rfl ⟨by omega, by omega⟩ ⟨by omega, by omega⟩ σ_207 G_207 (by omega)) gd_M_pairs_M_copy_29 rfl rfl rfl (by decide +kernel) ⟨Nat.le_trans (by decide +kernel) hR.1, Nat.le_trans (by decide +kernel) hR.2⟩ rfl rfl (Nat.le_of_ble_eq_true rfl) dX12_pairs_237 ⟨Nat.zero_le _, Nat.zero_le _⟩ (fun σ224 p225 => ?_)
        obtain ⟨G227, F228⟩ := p225
        have F229 := F_207.call F228 (by first | rfl | simp)
        refine v_iload B dX12_pairs_240 rfl ?_
        refine u_if_eq B (tgt := 262) (by omega) dX12_pairs_242 (by decide +kernel) (fun c230 => ?_) (fun c230 => ?_)
        · refine v_aload_n B dX12_pairs_262 rfl rfl ?_
          refine v_iload_n B dX12_pairs_263 rfl rfl ?_
          have h231 := (F228 (q 85) _ (ym_85 Y) (by first | rfl | simp)).trans (h210)
          refine u_callVv B Z hz (n := 1) (As := [.int (iI d)]) (rest := []) (c_M_tells l D K Z _ _ _ _ h q Y d ⟨by omega, by omega⟩ σ224 G227 (At.mk h231 e213 (by omega) ⟨by omega, by omega⟩)) gd_M_pairs_M_tells_537 rfl rfl rfl (by decide +kernel) ⟨Nat.le_trans (by decide +kernel) hR.1, Nat.le_trans (by decide +kernel) hR.2⟩ Y.o (clsM G227.t) rfl rfl rfl rfl (Nat.le_of_ble_eq_true rfl) dX12_pairs_264 ⟨Nat.zero_le _, Nat.zero_le _⟩ (fun σ232 p233 => ?_)
          obtain ⟨G235, F236⟩ := p233
          have F237 := F229.call F236 (by first | rfl | simp)
          refine v_lv [0, 1] rfl ?_
          have h238 := (F236 h _ Y.o (by first | rfl | simp)).trans ((F228 h _ Y.o (by first | rfl | simp)).trans (hc207_h))
          exact J267 σ232 G235 F237 h238 ⟨by omega, by omega⟩
        · refine v_aload_n B dX12_pairs_245 rfl rfl ?_
          refine v_iload_n B dX12_pairs_246 rfl rfl ?_
          refine v_iconst B (v := iI 4) dX12_pairs_247 rfl ?_
          refine v_aload_n B dX12_pairs_248 rfl rfl ?_
          have h239 := (F228 h _ Y.o (by first | rfl | simp)).trans (hc207_h)
          refine u_get B Z (C := RX12) (T := TX12) (N := 123) (ci := 12) hi_M_pairs_X12 Y.o h239 rfl 97 (by decide +kernel) (List.mem_of_getElem? (i := 39) rfl) rfl dX12_pairs_249 ?_
          refine v_bipush B (v := iI 16) dX12_pairs_252 (by decide +kernel) ?_
          refine v_iload_n B dX12_pairs_254 rfl rfl ?_
          refine v_imul B (v := iI (16 * d)) dX12_pairs_255 ((iI_mul _ _).trans (congrArg iI (by omega))) ?_
          have h240 := (F228 (q 85) _ (ym_85 Y) (by first | rfl | simp)).trans (h210)
          refine u_callVv B Z hz (n := 4) (As := [.int (iI d), .int (iI 4), .ref (q 97), .int (iI (16 * d))]) (rest := []) (c_M_saysRow l D K Z _ _ _ _ h q Y d 4 97 32 (16 * d) ⟨by omega, by omega⟩ ⟨by omega, by omega⟩ rfl ⟨by omega, by omega⟩ σ224 G227 (At.mk h240 e213 (by omega) ⟨by omega, by omega⟩) (by omega)) gd_M_pairs_M_saysRow_540 rfl rfl rfl (by decide +kernel) ⟨Nat.le_trans (by decide +kernel) hR.1, Nat.le_trans (by decide +kernel) hR.2⟩ Y.o (clsM G227.t) rfl rfl rfl rfl (Nat.le_of_ble_eq_true rfl) dX12_pairs_256 ⟨Nat.zero_le _, Nat.zero_le _⟩ (fun σ241 p242 => ?_)
          obtain ⟨G244, F245⟩ := p242
          have F246 := F229.call F245 (by first | rfl | simp)
          refine v_goto B (tgt := 267) dX12_pairs_259 (by decide +kernel) ?_
          refine v_lv [0, 1] rfl ?_
          have h247 := (F245 h _ Y.o (by first | rfl | simp)).trans (h239)
          exact J267 σ241 G244 F246 h247 ⟨by omega, by omega⟩
  have J151 : ∀ (σ_151 : Nat → va_E) (z151_3 : Int) (z151_4 : Int), GM K h q σ_151 → Fr τ [(194, 0), (195, 0), (190, 0), (182, 0), (184, 0), (185, 0), (192, 0), (145, 0), (144, 0), (146, 0), (108, 0), (197, 0), (198, 0), (199, 0), (104, 0), (105, 0), (106, 0), (196, 0), (162, 0), (175, 0)] σ0 σ_151 → (σ_151 h = .inr (12, fsM q (iI z1) (iI z2) (iI z3) (iI z4) (iI z5))) → (-1 ≤ x2 ∧ x2 ≤ 17) → (0 ≤ z151_3 ∧ z151_3 ≤ 255) → (0 ≤ z151_4 ∧ z151_4 ≤ 1) → (At σ_151 (q 85) (d : Int).toNat (0) (7)) → V p l e R s m args below meth c 8 D A Q (0, 0) (fd dom σ_151) [(0, .ref h), (1, .int (iI d)), (3, .int (iI z151_3)), (4, .int (iI z151_4))] 151 [] := by
    intro σ_151 z151_3 z151_4 G_151 F_151 hc151_h rv151_x2 r151_3 r151_4 i151
    obtain ⟨f248, h249, e250⟩ := ga_85 G_151.t
    obtain ⟨z251, e252, r253⟩ := e250 (d : Int).toNat
    have r254 := (i151).use h249 e252 (by omega)
    refine v_iload_n B dX12_pairs_151 rfl rfl ?_
    refine v_iconst B (v := iI 2) dX12_pairs_152 rfl ?_
    refine u_icmp_ne B (tgt := 207) (by omega) (by omega) dX12_pairs_153 (by decide +kernel) (fun c255 => ?_) (fun c255 => ?_)
    · exact J207 σ_151 z151_3 z151_4 G_151 F_151 hc151_h ⟨by omega, by omega⟩ ⟨by omega, by omega⟩ ⟨by omega, by omega⟩ ((At.mk h249 e252 (by omega) ⟨by omega, by omega⟩))
    · refine v_iload B dX12_pairs_156 rfl ?_
      refine u_if_eq B (tgt := 207) (by omega) dX12_pairs_158 (by decide +kernel) (fun c256 => ?_) (fun c256 => ?_)
      · exact J207 σ_151 z151_3 z151_4 G_151 F_151 hc151_h ⟨by omega, by omega⟩ ⟨by omega, by omega⟩ ⟨by omega, by omega⟩ ((At.mk h249 e252 (by omega) ⟨by omega, by omega⟩))
      · refine v_aload_n B dX12_pairs_161 rfl rfl ?_
        refine u_get B Z (C := RX12) (T := TX12) (N := 123) (ci := 12) hi_M_pairs_X12 Y.o hc151_h rfl 92 (by decide +kernel) (List.mem_of_getElem? (i := 1) rfl) rfl dX12_pairs_162 ?_
        refine v_iload_n B dX12_pairs_165 rfl rfl ?_
        obtain ⟨f257, h258, e259⟩ := ga_92 G_151.t
        obtain ⟨z260, e261, r262⟩ := e259 (d : Int).toNat
        refine u_iald B Z (t0 := 0) (ym_92 Y) h258 rfl (by omega) e261 dX12_pairs_166 ?_
        refine v_iconst B (v := iI 1) dX12_pairs_167 rfl ?_
        refine u_icmp_ne B (tgt := 207) (by omega) (by omega) dX12_pairs_168 (by decide +kernel) (fun c263 => ?_) (fun c263 => ?_)
        · exact J207 σ_151 z151_3 z151_4 G_151 F_151 hc151_h ⟨by omega, by omega⟩ ⟨by omega, by omega⟩ ⟨by omega, by omega⟩ ((At.mk h249 e252 (by omega) ⟨by omega, by omega⟩))
        · refine v_aload_n B dX12_pairs_171 rfl rfl ?_
          refine u_get B Z (C := RX12) (T := TX12) (N := 123) (ci := 12) hi_M_pairs_X12 Y.o hc151_h rfl 91 (by decide +kernel) (List.mem_of_getElem? (i := 2) rfl) rfl dX12_pairs_172 ?_
          refine v_iconst B (v := iI 0) dX12_pairs_175 rfl ?_
          refine v_aload_n B dX12_pairs_176 rfl rfl ?_
          refine u_get B Z (C := RX12) (T := TX12) (N := 123) (ci := 12) hi_M_pairs_X12 Y.o hc151_h rfl 95 (by decide +kernel) (List.mem_of_getElem? (i := 66) rfl) rfl dX12_pairs_177 ?_
          refine v_bipush B (v := iI 14) dX12_pairs_180 (by decide +kernel) ?_
          refine v_iload_n B dX12_pairs_182 rfl rfl ?_
          refine v_imul B (v := iI (14 * d)) dX12_pairs_183 ((iI_mul _ _).trans (congrArg iI (by omega))) ?_
          refine v_bipush B (v := iI 7) dX12_pairs_184 (by decide +kernel) ?_
          refine v_iadd B (v := iI (14 * d + 7)) dX12_pairs_186 ((iI_add _ _).trans (congrArg iI (by omega))) ?_
          refine v_bipush B (v := iI 7) dX12_pairs_187 (by decide +kernel) ?_
          refine u_callSv B Z hz (n := 5) (As := [.ref (q 91), .int (iI 0), .ref (q 95), .int (iI (14 * d + 7)), .int (iI 7)]) (rest := []) (c_M_copy l D K Z _ _ _ _ h q Y 91 96 0 95 28 (14 * d + 7) 7 rfl ⟨by omega, by omega⟩ rfl ⟨by omega, by omega⟩ ⟨by omega, by omega⟩ σ_151 G_151 (by omega)) gd_M_pairs_M_copy_29 rfl rfl rfl (by decide +kernel) ⟨Nat.le_trans (by decide +kernel) hR.1, Nat.le_trans (by decide +kernel) hR.2⟩ rfl rfl (Nat.le_of_ble_eq_true rfl) dX12_pairs_189 ⟨Nat.zero_le _, Nat.zero_le _⟩ (fun σ264 p265 => ?_)
          obtain ⟨G267, F268⟩ := p265
          have F269 := F_151.call F268 (by first | rfl | simp)
          refine v_aload_n B dX12_pairs_192 rfl rfl ?_
          refine v_iload_n B dX12_pairs_193 rfl rfl ?_
          have h270 := (F268 (q 85) _ (ym_85 Y) (by first | rfl | simp)).trans (h249)
          refine u_callVv B Z hz (n := 1) (As := [.int (iI d)]) (rest := []) (c_M_tells l D K Z _ _ _ _ h q Y d ⟨by omega, by omega⟩ σ264 G267 (At.mk h270 e252 (by omega) ⟨by omega, by omega⟩)) gd_M_pairs_M_tells_537 rfl rfl rfl (by decide +kernel) ⟨Nat.le_trans (by decide +kernel) hR.1, Nat.le_trans (by decide +kernel) hR.2⟩ Y.o (clsM G267.t) rfl rfl rfl rfl (Nat.le_of_ble_eq_true rfl) dX12_pairs_194 ⟨Nat.zero_le _, Nat.zero_le _⟩ (fun σ271 p272 => ?_)
          obtain ⟨G274, F275⟩ := p272
          have F276 := F269.call F275 (by first | rfl | simp)
          refine v_aload_n B dX12_pairs_197 rfl rfl ?_
          have h277 := (F275 h _ Y.o (by first | rfl | simp)).trans ((F268 h _ Y.o (by first | rfl | simp)).trans (hc151_h))
          refine u_get B Z (C := RX12) (T := TX12) (N := 123) (ci := 12) hi_M_pairs_X12 Y.o h277 rfl 92 (by decide +kernel) (List.mem_of_getElem? (i := 1) rfl) rfl dX12_pairs_198 ?_
          refine v_iload_n B dX12_pairs_201 rfl rfl ?_
          refine v_iconst B (v := iI 2) dX12_pairs_202 rfl ?_
          have h278 := (F275 (q 92) _ (ym_92 Y) (by first | rfl | simp)).trans ((F268 (q 92) _ (ym_92 Y) (by first | rfl | simp)).trans (h258))
          refine u_iast B Z (t0 := 0) (x := iI 2) (ym_92 Y) h278 rfl (by omega) dX12_pairs_203 (fun σ279 h280 n281 => ?_)
          have e282 := el_upd (z := 2) e259 ⟨by omega, by omega⟩ (d : Int).toNat
          have F283 := F276.put (ym_92 Y) (by simp) n281
          have G284 := gp_92 Y G274 ⟨_, h280, e282⟩ n281
          refine v_goto B (tgt := 557) dX12_pairs_204 (by decide +kernel) ?_
          exact hend σ279 _ _ G284 F283 dX12_pairs_557
  have J68 : ∀ (z68_3 : Int) (z68_4 : Int) (z68_s0 : Int), (0 ≤ z68_3 ∧ z68_3 ≤ 255) → (0 ≤ z68_4 ∧ z68_4 ≤ 1) → (-1 ≤ z68_s0 ∧ z68_s0 ≤ 17) → (At σ0 (q 85) (d : Int).toNat (0) (7)) → V p l e R s m args below meth c 8 D A Q (0, 0) (fd dom σ0) [(0, .ref h), (1, .int (iI d)), (2, .int (iI x2)), (3, .int (iI z68_3)), (4, .int (iI z68_4))] 68 [.int (iI z68_s0)] := by
    intro z68_3 z68_4 z68_s0 r68_3 r68_4 r68_s0 i68
    have r285 := (i68).use h13 e16 (by omega)
    refine v_istore B (lv' := [(5, .int (iI z68_s0)), (0, .ref h), (1, .int (iI d)), (2, .int (iI x2)), (3, .int (iI z68_3)), (4, .int (iI z68_4))]) dX12_pairs_68 (by decide +kernel) rfl ?_
    refine v_iload_n B dX12_pairs_70 rfl rfl ?_
    refine v_iload B dX12_pairs_71 rfl ?_
    refine u_icmp_eq B (tgt := 77) (by omega) (by omega) dX12_pairs_73 (by decide +kernel) (fun c286 => ?_) (fun c286 => ?_)
    · refine v_iload_n B dX12_pairs_77 rfl rfl ?_
      refine v_iconst B (v := iI 1) dX12_pairs_78 rfl ?_
      refine u_icmp_ne B (tgt := 151) (by omega) (by omega) dX12_pairs_79 (by decide +kernel) (fun c287 => ?_) (fun c287 => ?_)
      · refine v_lv [1, 2, 4, 5] rfl ?_
        exact J151 σ0 z68_3 z68_4 G0 F0 h6 ⟨by omega, by omega⟩ ⟨by omega, by omega⟩ ⟨by omega, by omega⟩ ((At.mk h13 e16 (by omega) ⟨by omega, by omega⟩))
      · refine v_iload B dX12_pairs_82 rfl ?_
        refine u_if_ne B (tgt := 151) (by omega) dX12_pairs_84 (by decide +kernel) (fun c288 => ?_) (fun c288 => ?_)
        · refine v_lv [1, 2, 4, 5] rfl ?_
          exact J151 σ0 z68_3 z68_4 G0 F0 h6 ⟨by omega, by omega⟩ ⟨by omega, by omega⟩ ⟨by omega, by omega⟩ ((At.mk h13 e16 (by omega) ⟨by omega, by omega⟩))
        · refine v_aload_n B dX12_pairs_87 rfl rfl ?_
          refine u_get B Z (C := RX12) (T := TX12) (N := 123) (ci := 12) hi_M_pairs_X12 Y.o h6 rfl 93 (by decide +kernel) (List.mem_of_getElem? (i := 78) rfl) rfl dX12_pairs_88 ?_
          refine v_iload_n B dX12_pairs_91 rfl rfl ?_
          obtain ⟨f289, h290, e291⟩ := ga_93 G0.t
          obtain ⟨z292, e293, r294⟩ := e291 (d : Int).toNat
          refine u_iald B Z (t0 := 0) (ym_93 Y) h290 rfl (by omega) e293 dX12_pairs_92 ?_
          refine v_iconst B (v := iI (-1)) dX12_pairs_93 rfl ?_
          refine u_icmp_ne B (tgt := 105) (by omega) (by omega) dX12_pairs_94 (by decide +kernel) (fun c295 => ?_) (fun c295 => ?_)
          · refine v_aload_n B dX12_pairs_105 rfl rfl ?_
            refine u_get B Z (C := RX12) (T := TX12) (N := 123) (ci := 12) hi_M_pairs_X12 Y.o h6 rfl 94 (by decide +kernel) (List.mem_of_getElem? (i := 67) rfl) rfl dX12_pairs_106 ?_
            refine v_iload_n B dX12_pairs_109 rfl rfl ?_
            refine v_aload_n B dX12_pairs_110 rfl rfl ?_
            refine u_get B Z (C := RX12) (T := TX12) (N := 123) (ci := 12) hi_M_pairs_X12 Y.o h6 rfl 93 (by decide +kernel) (List.mem_of_getElem? (i := 78) rfl) rfl dX12_pairs_111 ?_
            refine v_iload_n B dX12_pairs_114 rfl rfl ?_
            refine u_iald B Z (t0 := 0) (ym_93 Y) h290 rfl (by omega) e293 dX12_pairs_115 ?_
            obtain ⟨f296, h297, e298⟩ := ga_94 G0.t
            refine u_iast B Z (t0 := 0) (x := iI z292) (ym_94 Y) h297 rfl (by omega) dX12_pairs_116 (fun σ299 h300 n301 => ?_)
            have e302 := el_upd (z := z292) e298 ⟨by omega, by omega⟩ (d : Int).toNat
            have F303 := F0.put (ym_94 Y) (by simp) n301
            have G304 := gp_94 Y G0 ⟨_, h300, e302⟩ n301
            refine v_aload_n B dX12_pairs_117 rfl rfl ?_
            have h305 := (n301 h (ne_ty Y.o (ym_94 Y) (by decide))).trans (h6)
            refine u_get B Z (C := RX12) (T := TX12) (N := 123) (ci := 12) hi_M_pairs_X12 Y.o h305 rfl 91 (by decide +kernel) (List.mem_of_getElem? (i := 2) rfl) rfl dX12_pairs_118 ?_
            refine v_iconst B (v := iI 0) dX12_pairs_121 rfl ?_
            refine v_aload_n B dX12_pairs_122 rfl rfl ?_
            refine u_get B Z (C := RX12) (T := TX12) (N := 123) (ci := 12) hi_M_pairs_X12 Y.o h305 rfl 95 (by decide +kernel) (List.mem_of_getElem? (i := 66) rfl) rfl dX12_pairs_123 ?_
            refine v_bipush B (v := iI 14) dX12_pairs_126 (by decide +kernel) ?_
            refine v_iload_n B dX12_pairs_128 rfl rfl ?_
            refine v_imul B (v := iI (14 * d)) dX12_pairs_129 ((iI_mul _ _).trans (congrArg iI (by omega))) ?_
            refine v_bipush B (v := iI 7) dX12_pairs_130 (by decide +kernel) ?_
            refine u_callSv B Z hz (n := 5) (As := [.ref (q 91), .int (iI 0), .ref (q 95), .int (iI (14 * d)), .int (iI 7)]) (rest := []) (c_M_copy l D K Z _ _ _ _ h q Y 91 96 0 95 28 (14 * d) 7 rfl ⟨by omega, by omega⟩ rfl ⟨by omega, by omega⟩ ⟨by omega, by omega⟩ σ299 G304 (by omega)) gd_M_pairs_M_copy_29 rfl rfl rfl (by decide +kernel) ⟨Nat.le_trans (by decide +kernel) hR.1, Nat.le_trans (by decide +kernel) hR.2⟩ rfl rfl (Nat.le_of_ble_eq_true rfl) dX12_pairs_132 ⟨Nat.zero_le _, Nat.zero_le _⟩ (fun σ306 p307 => ?_)
            obtain ⟨G309, F310⟩ := p307
            have F311 := F303.call F310 (by first | rfl | simp)
            refine v_aload_n B dX12_pairs_135 rfl rfl ?_
            refine v_iload_n B dX12_pairs_136 rfl rfl ?_
            refine v_iconst B (v := iI 2) dX12_pairs_137 rfl ?_
            have h312 := (F310 (q 85) _ (ym_85 Y) (by first | rfl | simp)).trans ((n301 (q 85) (ne_ty (ym_85 Y) (ym_94 Y) (by decide))).trans (h13))
            refine u_callVv B Z hz (n := 2) (As := [.int (iI d), .int (iI 2)]) (rest := []) (c_M_saysFirst l D K Z _ _ _ _ h q Y d 2 ⟨by omega, by omega⟩ ⟨by omega, by omega⟩ σ306 G309 (At.mk h312 e16 (by omega) ⟨by omega, by omega⟩)) gd_M_pairs_M_saysFirst_534 rfl rfl rfl (by decide +kernel) ⟨Nat.le_trans (by decide +kernel) hR.1, Nat.le_trans (by decide +kernel) hR.2⟩ Y.o (clsM G309.t) rfl rfl rfl rfl (Nat.le_of_ble_eq_true rfl) dX12_pairs_138 ⟨Nat.zero_le _, Nat.zero_le _⟩ (fun σ313 p314 => ?_)
            obtain ⟨G316, F317⟩ := p314
            have F318 := F311.call F317 (by first | rfl | simp)
            refine v_aload_n B dX12_pairs_141 rfl rfl ?_
            have h319 := (F317 h _ Y.o (by first | rfl | simp)).trans ((F310 h _ Y.o (by first | rfl | simp)).trans (h305))
            refine u_get B Z (C := RX12) (T := TX12) (N := 123) (ci := 12) hi_M_pairs_X12 Y.o h319 rfl 92 (by decide +kernel) (List.mem_of_getElem? (i := 1) rfl) rfl dX12_pairs_142 ?_
            refine v_iload_n B dX12_pairs_145 rfl rfl ?_
            refine v_iconst B (v := iI 2) dX12_pairs_146 rfl ?_
            obtain ⟨f320, h321, e322⟩ := ga_92 G316.t
            refine u_iast B Z (t0 := 0) (x := iI 2) (ym_92 Y) h321 rfl (by omega) dX12_pairs_147 (fun σ323 h324 n325 => ?_)
            have e326 := el_upd (z := 2) e322 ⟨by omega, by omega⟩ (d : Int).toNat
            have F327 := F318.put (ym_92 Y) (by simp) n325
            have G328 := gp_92 Y G316 ⟨_, h324, e326⟩ n325
            refine v_goto B (tgt := 557) dX12_pairs_148 (by decide +kernel) ?_
            exact hend σ323 _ _ G328 F327 dX12_pairs_557
          · refine v_aload_n B dX12_pairs_97 rfl rfl ?_
            refine v_iload_n B dX12_pairs_98 rfl rfl ?_
            refine v_iconst B (v := iI 5) dX12_pairs_99 rfl ?_
            refine v_iconst B (v := iI 1) dX12_pairs_100 rfl ?_
            refine u_callVv B Z hz (n := 3) (As := [.int (iI d), .int (iI 5), .int (iI 1)]) (rest := []) (c_M_fails l D K Z _ _ _ _ h q Y d 5 1 ⟨by omega, by omega⟩ ⟨by omega, by omega⟩ ⟨by omega, by omega⟩ σ0 G0 (At.mk h13 e16 (by omega) ⟨by omega, by omega⟩)) gd_M_pairs_M_fails_531 rfl rfl rfl (by decide +kernel) ⟨Nat.le_trans (by decide +kernel) hR.1, Nat.le_trans (by decide +kernel) hR.2⟩ Y.o (clsM G0.t) rfl rfl rfl rfl (Nat.le_of_ble_eq_true rfl) dX12_pairs_101 ⟨Nat.zero_le _, Nat.zero_le _⟩ (fun σ329 p330 => ?_)
            obtain ⟨G332, F333⟩ := p330
            have F334 := F0.call F333 (by first | rfl | simp)
            exact hend σ329 _ _ G332 F334 dX12_pairs_104
    · exact hend σ0 _ _ G0 F0 dX12_pairs_76
  have J53 : ∀ (z53_3 : Int) (z53_4 : Int), (3 ≤ z53_3 ∧ z53_3 ≤ 4) → (0 ≤ z53_4 ∧ z53_4 ≤ 1) → (At σ0 (q 85) (d : Int).toNat (0) (7)) → V p l e R s m args below meth c 8 D A Q (0, 0) (fd dom σ0) [(0, .ref h), (1, .int (iI d)), (2, .int (iI x2)), (3, .int (iI z53_3)), (4, .int (iI z53_4))] 53 [] := by
    intro z53_3 z53_4 r53_3 r53_4 i53
    have r335 := (i53).use h13 e16 (by omega)
    refine v_bipush B (v := iI 17) dX12_pairs_53 (by decide +kernel) ?_
    refine v_goto B (tgt := 68) dX12_pairs_55 (by decide +kernel) ?_
    exact J68 z53_3 z53_4 17 ⟨by omega, by omega⟩ ⟨by omega, by omega⟩ ⟨by omega, by omega⟩ ((At.mk h13 e16 (by omega) ⟨by omega, by omega⟩))
  have J38 : ∀ (z38_3 : Int) (z38_4 : Int), (1 ≤ z38_3 ∧ z38_3 ≤ 2) → (0 ≤ z38_4 ∧ z38_4 ≤ 1) → (At σ0 (q 85) (d : Int).toNat (0) (7)) → V p l e R s m args below meth c 8 D A Q (0, 0) (fd dom σ0) [(0, .ref h), (1, .int (iI d)), (2, .int (iI x2)), (3, .int (iI z38_3)), (4, .int (iI z38_4))] 38 [] := by
    intro z38_3 z38_4 r38_3 r38_4 i38
    have r336 := (i38).use h13 e16 (by omega)
    refine v_bipush B (v := iI 7) dX12_pairs_38 (by decide +kernel) ?_
    refine v_goto B (tgt := 68) dX12_pairs_40 (by decide +kernel) ?_
    exact J68 z38_3 z38_4 7 ⟨by omega, by omega⟩ ⟨by omega, by omega⟩ ⟨by omega, by omega⟩ ((At.mk h13 e16 (by omega) ⟨by omega, by omega⟩))
  have J26 : ∀ (z26_3 : Int) (z26_s0 : Int), (0 ≤ z26_3 ∧ z26_3 ≤ 255) → (0 ≤ z26_s0 ∧ z26_s0 ≤ 1) → (At σ0 (q 85) (d : Int).toNat (0) (7)) → V p l e R s m args below meth c 8 D A Q (0, 0) (fd dom σ0) [(0, .ref h), (1, .int (iI d)), (2, .int (iI x2)), (3, .int (iI z26_3))] 26 [.int (iI z26_s0)] := by
    intro z26_3 z26_s0 r26_3 r26_s0 i26
    have r337 := (i26).use h13 e16 (by omega)
    refine v_istore B (lv' := [(4, .int (iI z26_s0)), (0, .ref h), (1, .int (iI d)), (2, .int (iI x2)), (3, .int (iI z26_3))]) dX12_pairs_26 (by decide +kernel) rfl ?_
    refine v_iload_n B dX12_pairs_28 rfl rfl ?_
    refine v_iconst B (v := iI 1) dX12_pairs_29 rfl ?_
    refine u_icmp_eq B (tgt := 38) (by omega) (by omega) dX12_pairs_30 (by decide +kernel) (fun c338 => ?_) (fun c338 => ?_)
    · refine v_lv [1, 2, 3, 4, 0] rfl ?_
      exact J38 z26_3 z26_s0 ⟨by omega, by omega⟩ ⟨by omega, by omega⟩ ((At.mk h13 e16 (by omega) ⟨by omega, by omega⟩))
    · refine v_iload_n B dX12_pairs_33 rfl rfl ?_
      refine v_iconst B (v := iI 2) dX12_pairs_34 rfl ?_
      refine u_icmp_ne B (tgt := 43) (by omega) (by omega) dX12_pairs_35 (by decide +kernel) (fun c339 => ?_) (fun c339 => ?_)
      · refine v_iload_n B dX12_pairs_43 rfl rfl ?_
        refine v_iconst B (v := iI 3) dX12_pairs_44 rfl ?_
        refine u_icmp_eq B (tgt := 53) (by omega) (by omega) dX12_pairs_45 (by decide +kernel) (fun c340 => ?_) (fun c340 => ?_)
        · refine v_lv [1, 2, 3, 4, 0] rfl ?_
          exact J53 z26_3 z26_s0 ⟨by omega, by omega⟩ ⟨by omega, by omega⟩ ((At.mk h13 e16 (by omega) ⟨by omega, by omega⟩))
        · refine v_iload_n B dX12_pairs_48 rfl rfl ?_
          refine v_iconst B (v := iI 4) dX12_pairs_49 rfl ?_
          refine u_icmp_ne B (tgt := 58) (by omega) (by omega) dX12_pairs_50 (by decide +kernel) (fun c341 => ?_) (fun c341 => ?_)
          · refine v_iload_n B dX12_pairs_58 rfl rfl ?_
            refine v_iconst B (v := iI 5) dX12_pairs_59 rfl ?_
            refine u_icmp_ne B (tgt := 67) (by omega) (by omega) dX12_pairs_60 (by decide +kernel) (fun c342 => ?_) (fun c342 => ?_)
            · refine v_iconst B (v := iI (-1)) dX12_pairs_67 rfl ?_
              refine v_lv [1, 2, 3, 4, 0] rfl ?_
              exact J68 z26_3 z26_s0 (-1) ⟨by omega, by omega⟩ ⟨by omega, by omega⟩ ⟨by omega, by omega⟩ ((At.mk h13 e16 (by omega) ⟨by omega, by omega⟩))
            · refine v_iconst B (v := iI 2) dX12_pairs_63 rfl ?_
              refine v_goto B (tgt := 68) dX12_pairs_64 (by decide +kernel) ?_
              refine v_lv [1, 2, 3, 4, 0] rfl ?_
              exact J68 z26_3 z26_s0 2 ⟨by omega, by omega⟩ ⟨by omega, by omega⟩ ⟨by omega, by omega⟩ ((At.mk h13 e16 (by omega) ⟨by omega, by omega⟩))
          · refine v_lv [1, 2, 3, 4, 0] rfl ?_
            exact J53 z26_3 z26_s0 ⟨by omega, by omega⟩ ⟨by omega, by omega⟩ ((At.mk h13 e16 (by omega) ⟨by omega, by omega⟩))
      · refine v_lv [1, 2, 3, 4, 0] rfl ?_
        exact J38 z26_3 z26_s0 ⟨by omega, by omega⟩ ⟨by omega, by omega⟩ ((At.mk h13 e16 (by omega) ⟨by omega, by omega⟩))
  refine v_aload_n B dX12_pairs_0 rfl rfl ?_
  refine u_get B Z (C := RX12) (T := TX12) (N := 123) (ci := 12) hi_M_pairs_X12 Y.o h6 rfl 91 (by decide +kernel) (List.mem_of_getElem? (i := 2) rfl) rfl dX12_pairs_1 ?_
  refine v_iconst B (v := iI 0) dX12_pairs_4 rfl ?_
  obtain ⟨f343, h344, e345⟩ := ga_91 G0.t
  obtain ⟨z346, e347, r348⟩ := e345 (0 : Int).toNat
  refine u_bald B Z (t0 := 2) (ym_91 Y) h344 rfl (by omega) e347 dX12_pairs_5 ?_
  refine v_sipush B (v := iI 255) dX12_pairs_6 (by decide +kernel) ?_
  obtain ⟨z349, e350, r351⟩ := iI_and z346 (c := 255) (by decide) (by decide)
  refine v_iand B (v := iI z349) dX12_pairs_9 e350 ?_
  refine v_istore_n B (lv' := [(3, .int (iI z349)), (0, .ref h), (1, .int (iI d)), (2, .int (iI x2))]) dX12_pairs_10 rfl (by decide +kernel) rfl ?_
  refine v_aload_n B dX12_pairs_11 rfl rfl ?_
  refine u_get B Z (C := RX12) (T := TX12) (N := 123) (ci := 12) hi_M_pairs_X12 Y.o h6 rfl 7 (by decide +kernel) (List.mem_of_getElem? (i := 63) rfl) rfl dX12_pairs_12 ?_
  refine v_iload_n B dX12_pairs_15 rfl rfl ?_
  obtain ⟨f352, h353, e354⟩ := ga_7 G0.t
  obtain ⟨z355, e356, r357⟩ := e354 (d : Int).toNat
  refine u_iald B Z (t0 := 0) (ym_7 Y) h353 rfl (by omega) e356 dX12_pairs_16 ?_
  refine v_iconst B (v := iI 4) dX12_pairs_17 rfl ?_
  refine u_icmp_ne B (tgt := 25) (by omega) (by omega) dX12_pairs_18 (by decide +kernel) (fun c358 => ?_) (fun c358 => ?_)
  · refine v_iconst B (v := iI 0) dX12_pairs_25 rfl ?_
    refine v_lv [1, 2, 3, 0] rfl ?_
    exact J26 z349 0 ⟨by omega, by omega⟩ ⟨by omega, by omega⟩ ((At.mk h13 e16 (by omega) ⟨by omega, by omega⟩))
  · refine v_iconst B (v := iI 1) dX12_pairs_21 rfl ?_
    refine v_goto B (tgt := 26) dX12_pairs_22 (by decide +kernel) ?_
    refine v_lv [1, 2, 3, 0] rfl ?_
    exact J26 z349 1 ⟨by omega, by omega⟩ ⟨by omega, by omega⟩ ((At.mk h13 e16 (by omega) ⟨by omega, by omega⟩))
set_option maxRecDepth 100000 in
theorem c_M_pairs (l : Launch) (D : va_G) (K : Nat → ClassId) {τ : Nat → Option Ty} {dom : List Nat} (Z : Sk τ dom) (zb zL : Nat) (zx : Nat → Int32) (zs : Nat → Nat) (h : Nat) (q : Nat → Nat) (Y : MS τ h q) (d : Int) (x2 : Int) (r_d : 0 ≤ d ∧ d ≤ 1) (r_x2 : -4 ≤ x2 ∧ x2 ≤ 92) (σ0 : Nat → va_E) (G0 : GM K h q σ0) (hM : At σ0 (q 85) (d : Int).toNat (0) (7)) : MZ l yX12_pairs wp_M_pairs ({ frames := 4, cells := 0, slots := 0, locals := 107 }) D (tysA K) [.ref h, .int (iI d), .int (iI x2)] (fd dom σ0) zb zL zx zs (Qv D (fun σ' => GM K h q σ' ∧ Fr τ [(194, 0), (195, 0), (190, 0), (182, 0), (184, 0), (185, 0), (192, 0), (145, 0), (144, 0), (146, 0), (108, 0), (197, 0), (198, 0), (199, 0), (104, 0), (105, 0), (106, 0), (196, 0), (162, 0), (175, 0)] σ0 σ') (fun σ' => fd dom σ')) 0 0 := by
  refine mz_of (cc := cX12_pairs) (maxL := 8) (ret := none) (by decide +kernel) rfl (Nat.le_of_ble_eq_true rfl) ?_
  intro p e s m below meth c A B hr hlk _ hz
  exact b_M_pairs ⟨Nat.le_refl _, Nat.le_refl _⟩ B Z hz h q Y d x2 r_d r_x2 σ0 G0 hM (fun σ' lv pc G F hd => v_vret B hr hlk σ' ⟨G, F⟩ rfl (Nat.le_refl _) (Nat.le_refl _) hd)
