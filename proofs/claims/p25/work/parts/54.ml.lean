def wp_M_drops : List Cond := .code yX12_drops cX12_drops 4 none :: (([.fieldLink RX12 275 "LowEnergyModel" "messages" "[I", .fieldLink RX12 266 "LowEnergyModel" "message" "[B", .methodLink RX12 29 yX12_copy, .static yX12_copy, .initialized RX12, .code yX12_copy cX12_copy 6 none, .fieldLink RX12 272 "LowEnergyModel" "messageMany" "[I", .fieldLink RX12 278 "LowEnergyModel" "taken" "[I"] : List Cond) ++ (wsX120 ++ ([])))
theorem hi_M_drops_X12 : ∀ x ∈ u_ws RX12 TX12 123, x ∈ wp_M_drops := fun _ h => List.mem_cons_of_mem _ (List.mem_append_right _ (List.mem_append_left _ h))
set_option maxRecDepth 100000 in
theorem gd_M_drops_M_copy_29 : GoodIn wp_M_drops (va_wsS RX12 29 yX12_copy wp_M_copy) := goodIn_app (goodIn_r _ [3, 4, 5] rfl rfl) (goodIn_ca (goodIn_r _ [6] rfl rfl) (goodIn_nil))
set_option maxHeartbeats 4000000 in
set_option maxRecDepth 100000 in
theorem b_M_drops {p : Program} {l : Launch} {e : Env} {R : Room} {s : State} {m : MethodId} {args : Array Value} {below : List Frame} {meth : Method} {c : Code} {D : va_G} {K : Nat → ClassId} {A : Nat → Prop} {Q : State → Prop} {τ : Nat → Option Ty} {dom : List Nat} {zb zL : Nat} {zx : Nat → Int32} {zs : Nat → Nat} (hR : 1 ≤ R.frames ∧ 25 ≤ R.locals) (B : Bx p s m args c cX12_drops 4 RX12 wp_M_drops D (tysA K) A) (Z : Sk τ dom) (hz : ZL zb zL zx zs A s s.heap) (h : Nat) (q : Nat → Nat) (Y : MS τ h q) (d : Int) (r_d : 0 ≤ d ∧ d ≤ 1) (σ0 : Nat → va_E) (G0 : GM K h q σ0) (hM1 : At σ0 (q 85) (d : Int).toNat (1) (8)) (hend : ∀ (σ' : Nat → va_E) (lv : List (Nat × Value)) (pc : Nat), GM K h q σ' → Fr τ [(185, 0), (186, 0), (182, 0), (184, 0)] σ0 σ' → decode cX12_drops pc = .ok (.return_, 1) → V p l e R s m args below meth c 4 D A Q (0, 0) (fd dom σ') lv pc []) : V p l e R s m args below meth c 4 D A Q (0, 0) (fd dom σ0) [(0, .ref h), (1, .int (iI d))] 0 [] := by
  have F0 : Fr τ [(185, 0), (186, 0), (182, 0), (184, 0)] σ0 σ0 := Fr.rf
  obtain ⟨z1, z2, z3, z4, z5, h6, r7, r8, r9, r10, r11⟩ := G0.t.o
  obtain ⟨f12, h13, e14⟩ := ga_85 G0.t
  obtain ⟨z15, e16, r17⟩ := e14 (d : Int).toNat
  have r18 := hM1.use h13 e16 (by omega)
  have J24 : ∀ (k24 : Nat) (σ_24 : Nat → va_E) (z24_2 : Int) (z24_3 : Int), (2147483648 - z24_3).toNat ≤ k24 → GM K h q σ_24 → Fr τ [(185, 0), (186, 0), (182, 0), (184, 0)] σ0 σ_24 → (σ_24 h = .inr (12, fsM q (iI z1) (iI z2) (iI z3) (iI z4) (iI z5))) → (0 ≤ z24_2 ∧ z24_2 ≤ 8) → (0 ≤ z24_3 ∧ z24_3 ≤ 7) → (At σ_24 (q 85) (d : Int).toNat (0) (7) ∧ At σ_24 (q 86) (d : Int).toNat (0) (0) ∧ (z24_2 = 8 * d)) → V p l e R s m args below meth c 4 D A Q (0, 0) (fd dom σ_24) [(0, .ref h), (1, .int (iI d)), (2, .int (iI z24_2)), (3, .int (iI z24_3))] 24 [] := by
    intro k24
    induction k24 with
    | zero => intro σ_24 z24_2 z24_3 m24 G_24 F_24 hc24_h r24_2 r24_3 i24; omega
    | succ k24 IH24 =>
      intro σ_24 z24_2 z24_3 m24 G_24 F_24 hc24_h r24_2 r24_3 i24
      obtain ⟨f19, h20, e21⟩ := ga_85 G_24.t
      obtain ⟨z22, e23, r24⟩ := e21 (d : Int).toNat
      have r25 := (i24.1).use h20 e23 (by omega)
      obtain ⟨f26, h27, e28⟩ := ga_86 G_24.t
      obtain ⟨z29, e30, r31⟩ := e28 (d : Int).toNat
      have r32 := (i24.2.1).use h27 e30 (by omega)
      have r33 := i24.2.2
      refine v_iload_n B dX12_drops_24 rfl rfl ?_
      refine v_aload_n B dX12_drops_25 rfl rfl ?_
      refine u_get B Z (C := RX12) (T := TX12) (N := 123) (ci := 12) hi_M_drops_X12 Y.o hc24_h rfl 85 (by decide +kernel) (List.mem_of_getElem? (i := 1) rfl) rfl dX12_drops_26 ?_
      refine v_iload_n B dX12_drops_29 rfl rfl ?_
      refine u_iald B Z (t0 := 0) (ym_85 Y) h20 rfl (by omega) e23 dX12_drops_30 ?_
      refine u_icmp_ge B (tgt := 58) (by omega) (by omega) dX12_drops_31 (by decide +kernel) (fun c34 => ?_) (fun c34 => ?_)
      · refine v_aload_n B dX12_drops_58 rfl rfl ?_
        refine u_get B Z (C := RX12) (T := TX12) (N := 123) (ci := 12) hi_M_drops_X12 Y.o hc24_h rfl 82 (by decide +kernel) (List.mem_of_getElem? (i := 2) rfl) rfl dX12_drops_59 ?_
        refine v_bipush B (v := iI 96) dX12_drops_62 (by decide +kernel) ?_
        refine v_iload_n B dX12_drops_64 rfl rfl ?_
        refine v_imul B (v := iI (96 * z24_2)) dX12_drops_65 ((iI_mul _ _).trans (congrArg iI (by omega))) ?_
        refine v_bipush B (v := iI 96) dX12_drops_66 (by decide +kernel) ?_
        refine v_iadd B (v := iI (96 * z24_2 + 96)) dX12_drops_68 ((iI_add _ _).trans (congrArg iI (by omega))) ?_
        refine v_aload_n B dX12_drops_69 rfl rfl ?_
        refine u_get B Z (C := RX12) (T := TX12) (N := 123) (ci := 12) hi_M_drops_X12 Y.o hc24_h rfl 82 (by decide +kernel) (List.mem_of_getElem? (i := 2) rfl) rfl dX12_drops_70 ?_
        refine v_bipush B (v := iI 96) dX12_drops_73 (by decide +kernel) ?_
        refine v_iload_n B dX12_drops_75 rfl rfl ?_
        refine v_imul B (v := iI (96 * z24_2)) dX12_drops_76 ((iI_mul _ _).trans (congrArg iI (by omega))) ?_
        refine v_bipush B (v := iI 96) dX12_drops_77 (by decide +kernel) ?_
        refine v_aload_n B dX12_drops_79 rfl rfl ?_
        refine u_get B Z (C := RX12) (T := TX12) (N := 123) (ci := 12) hi_M_drops_X12 Y.o hc24_h rfl 85 (by decide +kernel) (List.mem_of_getElem? (i := 1) rfl) rfl dX12_drops_80 ?_
        refine v_iload_n B dX12_drops_83 rfl rfl ?_
        refine u_iald B Z (t0 := 0) (ym_85 Y) h20 rfl (by omega) e23 dX12_drops_84 ?_
        refine v_imul B (v := iI (96 * z22)) dX12_drops_85 ((iI_mul _ _).trans (congrArg iI (by omega))) ?_
        refine u_callSv B Z hz (n := 5) (As := [.ref (q 82), .int (iI (96 * z24_2 + 96)), .ref (q 82), .int (iI (96 * z24_2)), .int (iI (96 * z22))]) (rest := []) (c_M_copy l D K Z _ _ _ _ h q Y 82 1536 (96 * z24_2 + 96) 82 1536 (96 * z24_2) (96 * z22) rfl ⟨by omega, by omega⟩ rfl ⟨by omega, by omega⟩ ⟨by omega, by omega⟩ σ_24 G_24 (by omega)) gd_M_drops_M_copy_29 rfl rfl rfl (by decide +kernel) ⟨Nat.le_trans (by decide +kernel) hR.1, Nat.le_trans (by decide +kernel) hR.2⟩ rfl rfl (Nat.le_of_ble_eq_true rfl) dX12_drops_86 ⟨Nat.zero_le _, Nat.zero_le _⟩ (fun σ35 p36 => ?_)
        obtain ⟨G38, F39⟩ := p36
        have F40 := F_24.call F39 (by first | rfl | simp)
        exact hend σ35 _ _ G38 F40 dX12_drops_89
      · refine v_aload_n B dX12_drops_34 rfl rfl ?_
        refine u_get B Z (C := RX12) (T := TX12) (N := 123) (ci := 12) hi_M_drops_X12 Y.o hc24_h rfl 84 (by decide +kernel) (List.mem_of_getElem? (i := 7) rfl) rfl dX12_drops_35 ?_
        refine v_iload_n B dX12_drops_38 rfl rfl ?_
        refine v_iload_n B dX12_drops_39 rfl rfl ?_
        refine v_iadd B (v := iI (z24_2 + z24_3)) dX12_drops_40 ((iI_add _ _).trans (congrArg iI (by omega))) ?_
        refine v_aload_n B dX12_drops_41 rfl rfl ?_
        refine u_get B Z (C := RX12) (T := TX12) (N := 123) (ci := 12) hi_M_drops_X12 Y.o hc24_h rfl 84 (by decide +kernel) (List.mem_of_getElem? (i := 7) rfl) rfl dX12_drops_42 ?_
        refine v_iload_n B dX12_drops_45 rfl rfl ?_
        refine v_iload_n B dX12_drops_46 rfl rfl ?_
        refine v_iadd B (v := iI (z24_2 + z24_3)) dX12_drops_47 ((iI_add _ _).trans (congrArg iI (by omega))) ?_
        refine v_iconst B (v := iI 1) dX12_drops_48 rfl ?_
        refine v_iadd B (v := iI (z24_2 + z24_3 + 1)) dX12_drops_49 ((iI_add _ _).trans (congrArg iI (by omega))) ?_
        obtain ⟨f41, h42, e43⟩ := ga_84 G_24.t
        obtain ⟨z44, e45, r46⟩ := e43 ((z24_2 + z24_3 + 1) : Int).toNat
        refine u_iald B Z (t0 := 0) (ym_84 Y) h42 rfl (by omega) e45 dX12_drops_50 ?_
        have ra47 := G_24.a _ _ _ _ _ _ _ _ _ h20 h27 h42
        refine u_iast B Z (t0 := 0) (x := iI z44) (ym_84 Y) h42 rfl (by omega) dX12_drops_51 (fun σ48 h49 n50 => ?_)
        have e51 := el_upd (z := z44) e43 ⟨by omega, by omega⟩ ((z24_2 + z24_3) : Int).toNat
        have F52 := F_24.put (ym_84 Y) (by simp) n50
        have T53 := gp_84 Y G_24.t ⟨_, h49, e51⟩ n50
        have R54 := (G_24.b).kept (n50 _ (ne_ty (ym_106 Y) (ym_84 Y) (by decide))) (n50 _ (ne_ty (ym_110 Y) (ym_84 Y) (by decide)))
        have R55 := (G_24.c).kept (n50 _ (ne_ty (ym_7 Y) (ym_84 Y) (by decide))) (n50 _ (ne_ty (ym_15 Y) (ym_84 Y) (by decide)))
        have R56 := (G_24.d).kept (n50 _ (ne_ty (ym_41 Y) (ym_84 Y) (by decide))) (n50 _ (ne_ty (ym_16 Y) (ym_84 Y) (by decide)))
        have h57 := (n50 (q 85) (ne_ty (ym_85 Y) (ym_84 Y) (by decide))).trans (h20)
        have h58 := (n50 (q 86) (ne_ty (ym_86 Y) (ym_84 Y) (by decide))).trans (h27)
        have R59 : RelA q σ48 := RelA.mk h57 h58 h49 (RA.set ra47 (d : Int).toNat (fun _ _ => rfl) (fun _ _ => rfl) (fun i h2 hi => upd_n (by omega)) (fun x y z e1 e2 e3 r1 r2 r3 => by have a1 : z22 = x := (iI_eq (by omega) r1).mp ((e23).symm.trans e1); have a2 : z29 = y := (iI_eq (by omega) r2).mp ((e30).symm.trans e2); obtain ⟨z9, e9, r9⟩ := e43 (8 * (d : Int).toNat); have ro := ra47 (d : Int).toNat (by omega) z22 z29 z9 e23 e30 e9 (by omega) (by omega) (by omega); obtain ⟨z8, e8, r8⟩ := e51 (8 * (d : Int).toNat); have a3 : z8 = z := (iI_eq (by omega) r3).mp (e8.symm.trans e3); by_cases c9 : z22 = 0; (· omega); have a4 : z29 = 0 ∨ z9 = z := (by first | exact Or.inl (by omega) | exact Or.inr ((iI_eq (by omega) r3).mp (e9.symm.trans ((upd_n (by omega)).symm.trans e3)))); omega))
        have G60 : GM K h q σ48 := ⟨T53, R59, R54, R55, R56⟩
        refine v_iinc B (k := 3) (v := iI (z24_3 + 1)) (lv' := [(3, .int (iI (z24_3 + 1))), (0, .ref h), (1, .int (iI d)), (2, .int (iI z24_2))]) dX12_drops_52 rfl ((iI_add _ _).trans (congrArg iI (by omega))) (by decide +kernel) rfl ?_
        refine v_goto B (tgt := 24) dX12_drops_55 (by decide +kernel) ?_
        refine v_lv [1, 2, 3, 0] rfl ?_
        have h61 := (n50 h (ne_ty Y.o (ym_84 Y) (by decide))).trans (hc24_h)
        exact IH24 σ48 z24_2 (z24_3 + 1) (by omega) G60 F52 h61 ⟨by omega, by omega⟩ ⟨by omega, by omega⟩ (⟨(At.mk h57 e23 (by omega) ⟨by omega, by omega⟩), (At.mk h58 e30 (by omega) ⟨by omega, by omega⟩), (by omega)⟩)
  refine v_bipush B (v := iI 8) dX12_drops_0 (by decide +kernel) ?_
  refine v_iload_n B dX12_drops_2 rfl rfl ?_
  refine v_imul B (v := iI (8 * d)) dX12_drops_3 ((iI_mul _ _).trans (congrArg iI (by omega))) ?_
  refine v_istore_n B (lv' := [(2, .int (iI (8 * d))), (0, .ref h), (1, .int (iI d))]) dX12_drops_4 rfl (by decide +kernel) rfl ?_
  refine v_aload_n B dX12_drops_5 rfl rfl ?_
  refine u_get B Z (C := RX12) (T := TX12) (N := 123) (ci := 12) hi_M_drops_X12 Y.o h6 rfl 85 (by decide +kernel) (List.mem_of_getElem? (i := 1) rfl) rfl dX12_drops_6 ?_
  refine v_iload_n B dX12_drops_9 rfl rfl ?_
  refine v_dup2 B dX12_drops_10 rfl rfl ?_
  refine u_iald B Z (t0 := 0) (ym_85 Y) h13 rfl (by omega) e16 dX12_drops_11 ?_
  refine v_iconst B (v := iI 1) dX12_drops_12 rfl ?_
  refine v_isub B (v := iI (z15 + (-1))) dX12_drops_13 ((iI_sub _ _).trans (congrArg iI (by omega))) ?_
  obtain ⟨f62, h63, e64⟩ := ga_86 G0.t
  obtain ⟨f65, h66, e67⟩ := ga_84 G0.t
  obtain ⟨z68, e69, r70⟩ := e64 (d : Int).toNat
  have ra71 := G0.a _ _ _ _ _ _ _ _ _ h13 h63 h66
  refine u_iast B Z (t0 := 0) (x := iI (z15 + (-1))) (ym_85 Y) h13 rfl (by omega) dX12_drops_14 (fun σ72 h73 n74 => ?_)
  have e75 := el_upd (z := (z15 + (-1))) e14 ⟨by omega, by omega⟩ (d : Int).toNat
  have F76 := F0.put (ym_85 Y) (by simp) n74
  have T77 := gp_85 Y G0.t ⟨_, h73, e75⟩ n74
  have R78 := (G0.b).kept (n74 _ (ne_ty (ym_106 Y) (ym_85 Y) (by decide))) (n74 _ (ne_ty (ym_110 Y) (ym_85 Y) (by decide)))
  have R79 := (G0.c).kept (n74 _ (ne_ty (ym_7 Y) (ym_85 Y) (by decide))) (n74 _ (ne_ty (ym_15 Y) (ym_85 Y) (by decide)))
  have R80 := (G0.d).kept (n74 _ (ne_ty (ym_41 Y) (ym_85 Y) (by decide))) (n74 _ (ne_ty (ym_16 Y) (ym_85 Y) (by decide)))
  refine v_aload_n B dX12_drops_15 rfl rfl ?_
  have h81 := (n74 h (ne_ty Y.o (ym_85 Y) (by decide))).trans (h6)
  refine u_get B Z (C := RX12) (T := TX12) (N := 123) (ci := 12) hi_M_drops_X12 Y.o h81 rfl 86 (by decide +kernel) (List.mem_of_getElem? (i := 8) rfl) rfl dX12_drops_16 ?_
  refine v_iload_n B dX12_drops_19 rfl rfl ?_
  refine v_iconst B (v := iI 0) dX12_drops_20 rfl ?_
  have h82 := (n74 (q 86) (ne_ty (ym_86 Y) (ym_85 Y) (by decide))).trans (h63)
  refine u_iast B Z (t0 := 0) (x := iI 0) (ym_86 Y) h82 rfl (by omega) dX12_drops_21 (fun σ83 h84 n85 => ?_)
  have e86 := el_upd (z := 0) e64 ⟨by omega, by omega⟩ (d : Int).toNat
  have F87 := F76.put (ym_86 Y) (by simp) n85
  have T88 := gp_86 Y T77 ⟨_, h84, e86⟩ n85
  have R89 := (R78).kept (n85 _ (ne_ty (ym_106 Y) (ym_86 Y) (by decide))) (n85 _ (ne_ty (ym_110 Y) (ym_86 Y) (by decide)))
  have R90 := (R79).kept (n85 _ (ne_ty (ym_7 Y) (ym_86 Y) (by decide))) (n85 _ (ne_ty (ym_15 Y) (ym_86 Y) (by decide)))
  have R91 := (R80).kept (n85 _ (ne_ty (ym_41 Y) (ym_86 Y) (by decide))) (n85 _ (ne_ty (ym_16 Y) (ym_86 Y) (by decide)))
  have h92 := (n85 (q 85) (ne_ty (ym_85 Y) (ym_86 Y) (by decide))).trans (h73)
  have h93 := (n85 (q 84) (ne_ty (ym_84 Y) (ym_86 Y) (by decide))).trans ((n74 (q 84) (ne_ty (ym_84 Y) (ym_85 Y) (by decide))).trans (h66))
  have R94 : RelA q σ83 := RelA.mk h92 h84 h93 (RA.set ra71 (d : Int).toNat (fun i hi => upd_n hi) (fun i hi => upd_n hi) (fun _ _ _ => rfl) (fun x y z e1 e2 e3 r1 r2 r3 => by have a1 : (z15 + (-1)) = x := (iI_eq (by omega) r1).mp ((upd_s).symm.trans e1); have a2 : 0 = y := (iI_eq (by omega) r2).mp ((upd_s).symm.trans e2); obtain ⟨z9, e9, r9⟩ := e67 (8 * (d : Int).toNat); have ro := ra71 (d : Int).toNat (by omega) z15 z68 z9 e16 e69 e9 (by omega) (by omega) (by omega); have a3 : z9 = z := (iI_eq (by omega) r3).mp (e9.symm.trans e3); omega))
  have G95 : GM K h q σ83 := ⟨T88, R94, R89, R90, R91⟩
  refine v_iconst B (v := iI 0) dX12_drops_22 rfl ?_
  refine v_istore_n B (lv' := [(3, .int (iI 0)), (2, .int (iI (8 * d))), (0, .ref h), (1, .int (iI d))]) dX12_drops_23 rfl (by decide +kernel) rfl ?_
  refine v_lv [2, 3, 1, 0] rfl ?_
  have h96 := (n85 h (ne_ty Y.o (ym_86 Y) (by decide))).trans (h81)
  exact J24 _ σ83 (8 * d) 0 (Nat.le_refl _) G95 F87 h96 ⟨by omega, by omega⟩ ⟨by omega, by omega⟩ (⟨(At.mk h92 upd_s (by omega) ⟨by omega, by omega⟩), (At.mk h84 upd_s (by omega) ⟨by omega, by omega⟩), (by omega)⟩)
set_option maxRecDepth 100000 in
theorem c_M_drops (l : Launch) (D : va_G) (K : Nat → ClassId) {τ : Nat → Option Ty} {dom : List Nat} (Z : Sk τ dom) (zb zL : Nat) (zx : Nat → Int32) (zs : Nat → Nat) (h : Nat) (q : Nat → Nat) (Y : MS τ h q) (d : Int) (r_d : 0 ≤ d ∧ d ≤ 1) (σ0 : Nat → va_E) (G0 : GM K h q σ0) (hM1 : At σ0 (q 85) (d : Int).toNat (1) (8)) : MZ l yX12_drops wp_M_drops ({ frames := 1, cells := 0, slots := 0, locals := 25 }) D (tysA K) [.ref h, .int (iI d)] (fd dom σ0) zb zL zx zs (Qv D (fun σ' => GM K h q σ' ∧ Fr τ [(185, 0), (186, 0), (182, 0), (184, 0)] σ0 σ') (fun σ' => fd dom σ')) 0 0 := by
  refine mz_of (cc := cX12_drops) (maxL := 4) (ret := none) (by decide +kernel) rfl (Nat.le_of_ble_eq_true rfl) ?_
  intro p e s m below meth c A B hr hlk _ hz
  exact b_M_drops ⟨Nat.le_refl _, Nat.le_refl _⟩ B Z hz h q Y d r_d σ0 G0 hM1 (fun σ' lv pc G F hd => v_vret B hr hlk σ' ⟨G, F⟩ rfl (Nat.le_refl _) (Nat.le_refl _) hd)

def wp_M_takesNext : List Cond := .code yX12_takesNext cX12_takesNext 4 none :: (([.fieldLink RX12 200 "LowEnergyModel" "current" "[B", .fieldLink RX12 194 "LowEnergyModel" "out" "[I", .fieldLink RX12 182 "LowEnergyModel" "currentSort" "[I", .methodLink RX12 451 yX12_macs, .instanceMethod yX12_macs, .selects RX12 yX12_macs yX12_macs, .initialized RX12, .code yX12_macs cX12_macs 10 none, .fieldLink RX12 254 "LowEnergyModel" "mac" "[B", .fieldLink RX12 257 "LowEnergyModel" "stream" "[B", .fieldLink RX12 209 "LowEnergyModel" "session" "[B", .methodLink RX12 444 yX12_e, .instanceMethod yX12_e, .selects RX12 yX12_e yX12_e, .code yX12_e cX12_e 13 none, .fieldLink RX12 33 "LowEnergyModel" "cells" "[B", .fieldLink RX12 26 "LowEnergyModel" "round" "[B", .fieldLink RX12 36 "LowEnergyModel" "moved" "[B", .methodLink RX12 14 yX12_twice, .static yX12_twice, .code yX12_twice cX12_twice 1 (some .int), .fieldLink RX12 22 "LowEnergyModel" "box" "[I", .methodLink RX12 29 yX12_copy, .static yX12_copy, .code yX12_copy cX12_copy 6 none, .methodLink RX12 440 yX12_nonce, .instanceMethod yX12_nonce, .selects RX12 yX12_nonce yX12_nonce, .code yX12_nonce cX12_nonce 7 none, .fieldLink RX12 251 "LowEnergyModel" "block" "[B", .methodLink RX12 432 yX12_number, .static yX12_number, .code yX12_number cX12_number 6 none, .fieldLink RX12 212 "LowEnergyModel" "iv" "[B", .methodLink RX12 455 yX12_turns, .instanceMethod yX12_turns, .selects RX12 yX12_turns yX12_turns, .code yX12_turns cX12_turns 9 none, .fieldLink RX12 185 "LowEnergyModel" "currentMany" "[I", .fieldLink RX12 233 "LowEnergyModel" "sealsOut" "[Z", .fieldLink RX12 45 "LowEnergyModel" "state" "[I", .fieldLink RX12 188 "LowEnergyModel" "currentOp" "[I", .fieldLink RX12 191 "LowEnergyModel" "controls" "[I", .fieldLink RX12 203 "LowEnergyModel" "control" "[B", .fieldLink RX12 221 "LowEnergyModel" "controlMany" "[I", .fieldLink RX12 224 "LowEnergyModel" "held" "[Z", .fieldLink RX12 275 "LowEnergyModel" "messages" "[I", .fieldLink RX12 272 "LowEnergyModel" "messageMany" "[I", .fieldLink RX12 278 "LowEnergyModel" "taken" "[I", .methodLink RX12 404 Lib.Math.min.name, .static Lib.Math.min.name, .initialized "java/lang/Math", .code Lib.Math.min.name Lib.Math.min.code 2 (some .int), .fieldLink RX12 266 "LowEnergyModel" "message" "[B", .methodLink RX12 448 yX12_drops, .instanceMethod yX12_drops, .selects RX12 yX12_drops yX12_drops, .code yX12_drops cX12_drops 4 none] : List Cond) ++ (wsX120 ++ ([])))
theorem hi_M_takesNext_X12 : ∀ x ∈ u_ws RX12 TX12 123, x ∈ wp_M_takesNext := fun _ h => List.mem_cons_of_mem _ (List.mem_append_right _ (List.mem_append_left _ h))
set_option maxRecDepth 100000 in
theorem gd_M_takesNext_M_macs_451 : GoodIn wp_M_takesNext (wsV RX12 451 RX12 yX12_macs wp_M_macs) := goodIn_app (goodIn_r _ [4, 5, 6, 7] rfl rfl) (goodIn_ca (goodIn_r _ [8, 9, 10, 11, 12, 13, 14, 7, 15, 16, 17, 18, 19, 20, 21, 22, 23, 24, 25, 26, 27, 28, 29, 30, 31, 32, 33, 34] rfl rfl) (goodIn_app (goodIn_cls hi_M_takesNext_X12 gw_X12) (goodIn_nil)))
set_option maxRecDepth 100000 in
theorem gd_M_takesNext_M_turnsC_455 : GoodIn wp_M_takesNext (wsV RX12 455 RX12 yX12_turns wp_M_turnsC) := goodIn_app (goodIn_r _ [35, 36, 37, 7] rfl rfl) (goodIn_ca (goodIn_r _ [38, 10, 26, 27, 28, 7, 29, 30, 31, 32, 33, 34, 23, 24, 25, 11, 12, 13, 14, 15, 16, 17, 18, 19, 20, 21, 22] rfl rfl) (goodIn_app (goodIn_cls hi_M_takesNext_X12 gw_X12) (goodIn_nil)))
set_option maxRecDepth 100000 in
theorem gd_M_takesNext_M_copy_29 : GoodIn wp_M_takesNext (va_wsS RX12 29 yX12_copy wp_M_copy) := goodIn_app (goodIn_r _ [23, 24, 7] rfl rfl) (goodIn_ca (goodIn_r _ [25] rfl rfl) (goodIn_nil))
set_option maxRecDepth 100000 in
theorem gd_M_takesNext_M_drops_448 : GoodIn wp_M_takesNext (wsV RX12 448 RX12 yX12_drops wp_M_drops) := goodIn_app (goodIn_r _ [55, 56, 57, 7] rfl rfl) (goodIn_ca (goodIn_r _ [58, 47, 54, 23, 24, 7, 25, 48, 49] rfl rfl) (goodIn_app (goodIn_cls hi_M_takesNext_X12 gw_X12) (goodIn_nil)))
set_option maxHeartbeats 4000000 in
set_option maxRecDepth 100000 in
theorem b_M_takesNext {p : Program} {l : Launch} {e : Env} {R : Room} {s : State} {m : MethodId} {args : Array Value} {below : List Frame} {meth : Method} {c : Code} {D : va_G} {K : Nat → ClassId} {A : Nat → Prop} {Q : State → Prop} {τ : Nat → Option Ty} {dom : List Nat} {zb zL : Nat} {zx : Nat → Int32} {zs : Nat → Nat} (hR : 3 ≤ R.frames ∧ 86 ≤ R.locals) (B : Bx p s m args c cX12_takesNext 4 RX12 wp_M_takesNext D (tysA K) A) (Z : Sk τ dom) (hz : ZL zb zL zx zs A s s.heap) (h : Nat) (q : Nat → Nat) (Y : MS τ h q) (d : Int) (r_d : 0 ≤ d ∧ d ≤ 1) (σ0 : Nat → va_E) (G0 : GM K h q σ0) (hend : ∀ (σ' : Nat → va_E) (lv : List (Nat × Value)) (pc : Nat), GM K h q σ' → Fr τ [(154, 0), (156, 0), (160, 0), (186, 0), (185, 0), (182, 0), (184, 0), (157, 0), (161, 0), (167, 0), (155, 0), (177, 0), (104, 0), (105, 0), (106, 0), (178, 0), (179, 0), (158, 0)] σ0 σ' → decode cX12_takesNext pc = .ok (.return_, 1) → V p l e R s m args below meth c 4 D A Q (0, 0) (fd dom σ') lv pc []) : V p l e R s m args below meth c 4 D A Q (0, 0) (fd dom σ0) [(0, .ref h), (1, .int (iI d))] 0 [] := by
  have F0 : Fr τ [(154, 0), (156, 0), (160, 0), (186, 0), (185, 0), (182, 0), (184, 0), (157, 0), (161, 0), (167, 0), (155, 0), (177, 0), (104, 0), (105, 0), (106, 0), (178, 0), (179, 0), (158, 0)] σ0 σ0 := Fr.rf
  obtain ⟨z1, z2, z3, z4, z5, h6, r7, r8, r9, r10, r11⟩ := G0.t.o
  obtain ⟨f12, h13, e14⟩ := ga_85 G0.t
  obtain ⟨f15, h16, e17⟩ := ga_86 G0.t
  obtain ⟨f18, h19, e20⟩ := ga_84 G0.t
  obtain ⟨z21, e22, r23⟩ := e14 (d : Int).toNat
  obtain ⟨z24, e25, r26⟩ := e17 (d : Int).toNat
  have ra27 := G0.a _ _ _ _ _ _ _ _ _ h13 h16 h19
  obtain ⟨z28, e29, r30⟩ := e20 ((8 * d) : Int).toNat
  have r31 := ra27 (d : Int).toNat (by omega) z21 z24 z28 e22 e25 (by rw [show 8 * (d : Int).toNat = (8 * d : Int).toNat by omega]; exact e29) (by omega) (by omega) (by omega)
  have J332 : ∀ (σ_332 : Nat → va_E) (z332_2 : Int) (z332_s0 : Int), GM K h q σ_332 → Fr τ [(154, 0), (156, 0), (160, 0), (186, 0), (185, 0), (182, 0), (184, 0), (157, 0), (161, 0), (167, 0), (155, 0), (177, 0), (104, 0), (105, 0), (106, 0), (178, 0), (179, 0), (158, 0)] σ0 σ_332 → (σ_332 h = .inr (12, fsM q (iI z1) (iI z2) (iI z3) (iI z4) (iI z5))) → (0 ≤ z332_2 ∧ z332_2 ≤ 27) → (0 ≤ z332_s0 ∧ z332_s0 ≤ 1) → V p l e R s m args below meth c 4 D A Q (0, 0) (fd dom σ_332) [(0, .ref h), (1, .int (iI d)), (2, .int (iI z332_2))] 332 [.int (iI z332_s0)] := by
    intro σ_332 z332_2 z332_s0 G_332 F_332 hc332_h r332_2 r332_s0
    refine v_istore_n B (lv' := [(3, .int (iI z332_s0)), (0, .ref h), (1, .int (iI d)), (2, .int (iI z332_2))]) dX12_takesNext_332 rfl (by decide +kernel) rfl ?_
    refine v_aload_n B dX12_takesNext_333 rfl rfl ?_
    refine v_iload_n B dX12_takesNext_334 rfl rfl ?_
    refine v_aload_n B dX12_takesNext_335 rfl rfl ?_
    refine u_get B Z (C := RX12) (T := TX12) (N := 123) (ci := 12) hi_M_takesNext_X12 Y.o hc332_h rfl 60 (by decide +kernel) (List.mem_of_getElem? (i := 1) rfl) rfl dX12_takesNext_336 ?_
    refine v_bipush B (v := iI 40) dX12_takesNext_339 (by decide +kernel) ?_
    refine v_iload_n B dX12_takesNext_341 rfl rfl ?_
    refine v_imul B (v := iI (40 * d)) dX12_takesNext_342 ((iI_mul _ _).trans (congrArg iI (by omega))) ?_
    refine v_iload_n B dX12_takesNext_343 rfl rfl ?_
    refine v_aload_n B dX12_takesNext_344 rfl rfl ?_
    refine u_get B Z (C := RX12) (T := TX12) (N := 123) (ci := 12) hi_M_takesNext_X12 Y.o hc332_h rfl 58 (by decide +kernel) (List.mem_of_getElem? (i := 2) rfl) rfl dX12_takesNext_345 ?_
    refine v_iload_n B dX12_takesNext_348 rfl rfl ?_
    obtain ⟨f32, h33, e34⟩ := ga_58 G_332.t
    obtain ⟨z35, e36, r37⟩ := e34 (d : Int).toNat
    refine u_iald B Z (t0 := 0) (ym_58 Y) h33 rfl (by omega) e36 dX12_takesNext_349 ?_
    refine v_i2l B (v := lI z35) dX12_takesNext_350 (lI_i (by omega)) ?_
    refine v_iload_n B dX12_takesNext_351 rfl rfl ?_
    refine v_aload_n B dX12_takesNext_352 rfl rfl ?_
    refine u_get B Z (C := RX12) (T := TX12) (N := 123) (ci := 12) hi_M_takesNext_X12 Y.o hc332_h rfl 54 (by decide +kernel) (List.mem_of_getElem? (i := 3) rfl) rfl dX12_takesNext_353 ?_
    refine v_iload_n B dX12_takesNext_356 rfl rfl ?_
    obtain ⟨f38, h39, e40⟩ := ga_54 G_332.t
    obtain ⟨z41, e42, r43⟩ := e40 (d : Int).toNat
    refine u_iald B Z (t0 := 0) (ym_54 Y) h39 rfl (by omega) e42 dX12_takesNext_357 ?_
    refine u_callVv B Z hz (n := 7) (As := [.int (iI d), .ref (q 60), .int (iI (40 * d)), .int (iI z332_2), .long (lI z35), .int (iI z332_s0), .int (iI z41)]) (rest := []) (c_M_macs l D K Z _ _ _ _ h q Y d 60 80 (40 * d) z332_2 z35 z332_s0 z41 ⟨by omega, by omega⟩ rfl ⟨by omega, by omega⟩ ⟨by omega, by omega⟩ ⟨by omega, by omega⟩ ⟨by omega, by omega⟩ ⟨by omega, by omega⟩ σ_332 G_332 (by omega)) gd_M_takesNext_M_macs_451 rfl rfl rfl (by decide +kernel) ⟨Nat.le_trans (by decide +kernel) hR.1, Nat.le_trans (by decide +kernel) hR.2⟩ Y.o (clsM G_332.t) rfl rfl rfl rfl (Nat.le_of_ble_eq_true rfl) dX12_takesNext_358 ⟨Nat.zero_le _, Nat.zero_le _⟩ (fun σ44 p45 => ?_)
    obtain ⟨G47, F48⟩ := p45
    have F49 := F_332.call F48 (by first | rfl | simp)
    refine v_aload_n B dX12_takesNext_361 rfl rfl ?_
    refine v_iload_n B dX12_takesNext_362 rfl rfl ?_
    refine v_aload_n B dX12_takesNext_363 rfl rfl ?_
    have h50 := (F48 h _ Y.o (by first | rfl | simp)).trans (hc332_h)
    refine u_get B Z (C := RX12) (T := TX12) (N := 123) (ci := 12) hi_M_takesNext_X12 Y.o h50 rfl 60 (by decide +kernel) (List.mem_of_getElem? (i := 1) rfl) rfl dX12_takesNext_364 ?_
    refine v_bipush B (v := iI 40) dX12_takesNext_367 (by decide +kernel) ?_
    refine v_iload_n B dX12_takesNext_369 rfl rfl ?_
    refine v_imul B (v := iI (40 * d)) dX12_takesNext_370 ((iI_mul _ _).trans (congrArg iI (by omega))) ?_
    refine v_iload_n B dX12_takesNext_371 rfl rfl ?_
    refine v_aload_n B dX12_takesNext_372 rfl rfl ?_
    refine u_get B Z (C := RX12) (T := TX12) (N := 123) (ci := 12) hi_M_takesNext_X12 Y.o h50 rfl 58 (by decide +kernel) (List.mem_of_getElem? (i := 2) rfl) rfl dX12_takesNext_373 ?_
    refine v_iload_n B dX12_takesNext_376 rfl rfl ?_
    have h51 := (F48 (q 58) _ (ym_58 Y) (by first | rfl | simp)).trans (h33)
    refine u_iald B Z (t0 := 0) (ym_58 Y) h51 rfl (by omega) e36 dX12_takesNext_377 ?_
    refine v_i2l B (v := lI z35) dX12_takesNext_378 (lI_i (by omega)) ?_
    refine v_iload_n B dX12_takesNext_379 rfl rfl ?_
    refine u_callVv B Z hz (n := 6) (As := [.int (iI d), .ref (q 60), .int (iI (40 * d)), .int (iI z332_2), .long (lI z35), .int (iI z332_s0)]) (rest := []) (c_M_turnsC l D K Z _ _ _ _ h q Y d (40 * d) z332_2 z35 z332_s0 ⟨by omega, by omega⟩ ⟨by omega, by omega⟩ ⟨by omega, by omega⟩ ⟨by omega, by omega⟩ ⟨by omega, by omega⟩ σ44 G47 (by omega)) gd_M_takesNext_M_turnsC_455 rfl rfl rfl (by decide +kernel) ⟨Nat.le_trans (by decide +kernel) hR.1, Nat.le_trans (by decide +kernel) hR.2⟩ Y.o (clsM G47.t) rfl rfl rfl rfl (Nat.le_of_ble_eq_true rfl) dX12_takesNext_380 ⟨Nat.zero_le _, Nat.zero_le _⟩ (fun σ52 p53 => ?_)
    obtain ⟨G55, F56⟩ := p53
    have F57 := F49.call F56 (by first | rfl | simp)
    refine v_aload_n B dX12_takesNext_383 rfl rfl ?_
    have h58 := (F56 h _ Y.o (by first | rfl | simp)).trans (h50)
    refine u_get B Z (C := RX12) (T := TX12) (N := 123) (ci := 12) hi_M_takesNext_X12 Y.o h58 rfl 78 (by decide +kernel) (List.mem_of_getElem? (i := 9) rfl) rfl dX12_takesNext_384 ?_
    refine v_iconst B (v := iI 0) dX12_takesNext_387 rfl ?_
    refine v_aload_n B dX12_takesNext_388 rfl rfl ?_
    refine u_get B Z (C := RX12) (T := TX12) (N := 123) (ci := 12) hi_M_takesNext_X12 Y.o h58 rfl 60 (by decide +kernel) (List.mem_of_getElem? (i := 1) rfl) rfl dX12_takesNext_389 ?_
    refine v_bipush B (v := iI 40) dX12_takesNext_392 (by decide +kernel) ?_
    refine v_iload_n B dX12_takesNext_394 rfl rfl ?_
    refine v_imul B (v := iI (40 * d)) dX12_takesNext_395 ((iI_mul _ _).trans (congrArg iI (by omega))) ?_
    refine v_iload_n B dX12_takesNext_396 rfl rfl ?_
    refine v_iadd B (v := iI (40 * d + z332_2)) dX12_takesNext_397 ((iI_add _ _).trans (congrArg iI (by omega))) ?_
    refine v_iconst B (v := iI 4) dX12_takesNext_398 rfl ?_
    refine u_callSv B Z hz (n := 5) (As := [.ref (q 78), .int (iI 0), .ref (q 60), .int (iI (40 * d + z332_2)), .int (iI 4)]) (rest := []) (c_M_copy l D K Z _ _ _ _ h q Y 78 16 0 60 80 (40 * d + z332_2) 4 rfl ⟨by omega, by omega⟩ rfl ⟨by omega, by omega⟩ ⟨by omega, by omega⟩ σ52 G55 (by omega)) gd_M_takesNext_M_copy_29 rfl rfl rfl (by decide +kernel) ⟨Nat.le_trans (by decide +kernel) hR.1, Nat.le_trans (by decide +kernel) hR.2⟩ rfl rfl (Nat.le_of_ble_eq_true rfl) dX12_takesNext_399 ⟨Nat.zero_le _, Nat.zero_le _⟩ (fun σ59 p60 => ?_)
    obtain ⟨G62, F63⟩ := p60
    have F64 := F57.call F63 (by first | rfl | simp)
    refine v_aload_n B dX12_takesNext_402 rfl rfl ?_
    have h65 := (F63 h _ Y.o (by first | rfl | simp)).trans (h58)
    refine u_get B Z (C := RX12) (T := TX12) (N := 123) (ci := 12) hi_M_takesNext_X12 Y.o h65 rfl 58 (by decide +kernel) (List.mem_of_getElem? (i := 2) rfl) rfl dX12_takesNext_403 ?_
    refine v_iload_n B dX12_takesNext_406 rfl rfl ?_
    refine v_dup2 B dX12_takesNext_407 rfl rfl ?_
    have h66 := (F63 (q 58) _ (ym_58 Y) (by first | rfl | simp)).trans ((F56 (q 58) _ (ym_58 Y) (by first | rfl | simp)).trans (h51))
    refine u_iald B Z (t0 := 0) (ym_58 Y) h66 rfl (by omega) e36 dX12_takesNext_408 ?_
    refine v_iconst B (v := iI 1) dX12_takesNext_409 rfl ?_
    obtain ⟨z67, e68, r69⟩ := iI_any (iI z35 + iI 1)
    refine v_iadd B (v := iI z67) dX12_takesNext_410 e68 ?_
    refine u_iast B Z (t0 := 0) (x := iI z67) (ym_58 Y) h66 rfl (by omega) dX12_takesNext_411 (fun σ70 h71 n72 => ?_)
    have e73 := el_upd (z := z67) e34 ⟨by omega, by omega⟩ (d : Int).toNat
    have F74 := F64.put (ym_58 Y) (by simp) n72
    have G75 := gp_58 Y G62 ⟨_, h71, e73⟩ n72
    refine v_aload_n B dX12_takesNext_412 rfl rfl ?_
    have h76 := (n72 h (ne_ty Y.o (ym_58 Y) (by decide))).trans (h65)
    refine u_get B Z (C := RX12) (T := TX12) (N := 123) (ci := 12) hi_M_takesNext_X12 Y.o h76 rfl 55 (by decide +kernel) (List.mem_of_getElem? (i := 39) rfl) rfl dX12_takesNext_413 ?_
    refine v_iload_n B dX12_takesNext_416 rfl rfl ?_
    refine v_iload_n B dX12_takesNext_417 rfl rfl ?_
    refine v_iconst B (v := iI 4) dX12_takesNext_418 rfl ?_
    refine v_iadd B (v := iI (z332_2 + 4)) dX12_takesNext_419 ((iI_add _ _).trans (congrArg iI (by omega))) ?_
    obtain ⟨f77, h78, e79⟩ := ga_55 G75.t
    refine u_iast B Z (t0 := 0) (x := iI (z332_2 + 4)) (ym_55 Y) h78 rfl (by omega) dX12_takesNext_420 (fun σ80 h81 n82 => ?_)
    have e83 := el_upd (z := (z332_2 + 4)) e79 ⟨by omega, by omega⟩ (d : Int).toNat
    have F84 := F74.put (ym_55 Y) (by simp) n82
    have G85 := gp_55 Y G75 ⟨_, h81, e83⟩ n82
    exact hend σ80 _ _ G85 F84 dX12_takesNext_421
  have J296 : ∀ (σ_296 : Nat → va_E) (z296_2 : Int), GM K h q σ_296 → Fr τ [(154, 0), (156, 0), (160, 0), (186, 0), (185, 0), (182, 0), (184, 0), (157, 0), (161, 0), (167, 0), (155, 0), (177, 0), (104, 0), (105, 0), (106, 0), (178, 0), (179, 0), (158, 0)] σ0 σ_296 → (σ_296 h = .inr (12, fsM q (iI z1) (iI z2) (iI z3) (iI z4) (iI z5))) → (0 ≤ z296_2 ∧ z296_2 ≤ 27) → V p l e R s m args below meth c 4 D A Q (0, 0) (fd dom σ_296) [(0, .ref h), (1, .int (iI d)), (2, .int (iI z296_2))] 296 [] := by
    intro σ_296 z296_2 G_296 F_296 hc296_h r296_2
    refine v_aload_n B dX12_takesNext_296 rfl rfl ?_
    refine u_get B Z (C := RX12) (T := TX12) (N := 123) (ci := 12) hi_M_takesNext_X12 Y.o hc296_h rfl 55 (by decide +kernel) (List.mem_of_getElem? (i := 39) rfl) rfl dX12_takesNext_297 ?_
    refine v_iload_n B dX12_takesNext_300 rfl rfl ?_
    refine v_iload_n B dX12_takesNext_301 rfl rfl ?_
    obtain ⟨f86, h87, e88⟩ := ga_55 G_296.t
    refine u_iast B Z (t0 := 0) (x := iI z296_2) (ym_55 Y) h87 rfl (by omega) dX12_takesNext_302 (fun σ89 h90 n91 => ?_)
    have e92 := el_upd (z := z296_2) e88 ⟨by omega, by omega⟩ (d : Int).toNat
    have F93 := F_296.put (ym_55 Y) (by simp) n91
    have G94 := gp_55 Y G_296 ⟨_, h90, e92⟩ n91
    refine v_iload_n B dX12_takesNext_303 rfl rfl ?_
    refine u_if_eq B (tgt := 316) (by omega) dX12_takesNext_304 (by decide +kernel) (fun c95 => ?_) (fun c95 => ?_)
    · exact hend σ89 _ _ G94 F93 dX12_takesNext_316
    · refine v_aload_n B dX12_takesNext_307 rfl rfl ?_
      have h96 := (n91 h (ne_ty Y.o (ym_55 Y) (by decide))).trans (hc296_h)
      refine u_get B Z (C := RX12) (T := TX12) (N := 123) (ci := 12) hi_M_takesNext_X12 Y.o h96 rfl 71 (by decide +kernel) (List.mem_of_getElem? (i := 40) rfl) rfl dX12_takesNext_308 ?_
      refine v_iload_n B dX12_takesNext_311 rfl rfl ?_
      obtain ⟨f97, h98, e99⟩ := ga_71 G94.t
      obtain ⟨z100, e101, r102⟩ := e99 (d : Int).toNat
      refine u_zald B Z (t0 := 3) (ym_71 Y) h98 rfl (by omega) e101 dX12_takesNext_312 ?_
      refine u_if_ne B (tgt := 317) (by omega) dX12_takesNext_313 (by decide +kernel) (fun c103 => ?_) (fun c103 => ?_)
      · refine v_aload_n B dX12_takesNext_317 rfl rfl ?_
        refine u_get B Z (C := RX12) (T := TX12) (N := 123) (ci := 12) hi_M_takesNext_X12 Y.o h96 rfl 7 (by decide +kernel) (List.mem_of_getElem? (i := 41) rfl) rfl dX12_takesNext_318 ?_
        refine v_iload_n B dX12_takesNext_321 rfl rfl ?_
        obtain ⟨f104, h105, e106⟩ := ga_7 G94.t
        obtain ⟨z107, e108, r109⟩ := e106 (d : Int).toNat
        refine u_iald B Z (t0 := 0) (ym_7 Y) h105 rfl (by omega) e108 dX12_takesNext_322 ?_
        refine v_iconst B (v := iI 4) dX12_takesNext_323 rfl ?_
        refine u_icmp_ne B (tgt := 331) (by omega) (by omega) dX12_takesNext_324 (by decide +kernel) (fun c110 => ?_) (fun c110 => ?_)
        · refine v_iconst B (v := iI 0) dX12_takesNext_331 rfl ?_
          exact J332 σ89 z296_2 0 G94 F93 h96 ⟨by omega, by omega⟩ ⟨by omega, by omega⟩
        · refine v_iconst B (v := iI 1) dX12_takesNext_327 rfl ?_
          refine v_goto B (tgt := 332) dX12_takesNext_328 (by decide +kernel) ?_
          exact J332 σ89 z296_2 1 G94 F93 h96 ⟨by omega, by omega⟩ ⟨by omega, by omega⟩
      · exact hend σ89 _ _ G94 F93 dX12_takesNext_316
  have J282 : ∀ (σ_282 : Nat → va_E) (z282_2 : Int), GM K h q σ_282 → Fr τ [(154, 0), (156, 0), (160, 0), (186, 0), (185, 0), (182, 0), (184, 0), (157, 0), (161, 0), (167, 0), (155, 0), (177, 0), (104, 0), (105, 0), (106, 0), (178, 0), (179, 0), (158, 0)] σ0 σ_282 → (σ_282 h = .inr (12, fsM q (iI z1) (iI z2) (iI z3) (iI z4) (iI z5))) → (0 ≤ z282_2 ∧ z282_2 ≤ 27) → V p l e R s m args below meth c 4 D A Q (0, 0) (fd dom σ_282) [(0, .ref h), (1, .int (iI d)), (2, .int (iI z282_2))] 282 [] := by
    intro σ_282 z282_2 G_282 F_282 hc282_h r282_2
    refine v_aload_n B dX12_takesNext_282 rfl rfl ?_
    refine u_get B Z (C := RX12) (T := TX12) (N := 123) (ci := 12) hi_M_takesNext_X12 Y.o hc282_h rfl 54 (by decide +kernel) (List.mem_of_getElem? (i := 3) rfl) rfl dX12_takesNext_283 ?_
    refine v_iload_n B dX12_takesNext_286 rfl rfl ?_
    refine v_iconst B (v := iI 1) dX12_takesNext_287 rfl ?_
    obtain ⟨f111, h112, e113⟩ := ga_54 G_282.t
    refine u_iast B Z (t0 := 0) (x := iI 1) (ym_54 Y) h112 rfl (by omega) dX12_takesNext_288 (fun σ114 h115 n116 => ?_)
    have e117 := el_upd (z := 1) e113 ⟨by omega, by omega⟩ (d : Int).toNat
    have F118 := F_282.put (ym_54 Y) (by simp) n116
    have G119 := gp_54 Y G_282 ⟨_, h115, e117⟩ n116
    refine v_aload_n B dX12_takesNext_289 rfl rfl ?_
    have h120 := (n116 h (ne_ty Y.o (ym_54 Y) (by decide))).trans (hc282_h)
    refine u_get B Z (C := RX12) (T := TX12) (N := 123) (ci := 12) hi_M_takesNext_X12 Y.o h120 rfl 56 (by decide +kernel) (List.mem_of_getElem? (i := 42) rfl) rfl dX12_takesNext_290 ?_
    refine v_iload_n B dX12_takesNext_293 rfl rfl ?_
    refine v_iconst B (v := iI 0) dX12_takesNext_294 rfl ?_
    obtain ⟨f121, h122, e123⟩ := ga_56 G119.t
    refine u_iast B Z (t0 := 0) (x := iI 0) (ym_56 Y) h122 rfl (by omega) dX12_takesNext_295 (fun σ124 h125 n126 => ?_)
    have e127 := el_upd (z := 0) e123 ⟨by omega, by omega⟩ (d : Int).toNat
    have F128 := F118.put (ym_56 Y) (by simp) n126
    have G129 := gp_56 Y G119 ⟨_, h125, e127⟩ n126
    have h130 := (n126 h (ne_ty Y.o (ym_56 Y) (by decide))).trans (h120)
    exact J296 σ124 z282_2 G129 F128 h130 ⟨by omega, by omega⟩
  have J279 : ∀ (σ_279 : Nat → va_E) (z279_2 : Int), GM K h q σ_279 → Fr τ [(154, 0), (156, 0), (160, 0), (186, 0), (185, 0), (182, 0), (184, 0), (157, 0), (161, 0), (167, 0), (155, 0), (177, 0), (104, 0), (105, 0), (106, 0), (178, 0), (179, 0), (158, 0)] σ0 σ_279 → (σ_279 h = .inr (12, fsM q (iI z1) (iI z2) (iI z3) (iI z4) (iI z5))) → (1 ≤ z21 ∧ z21 ≤ 8) → (0 ≤ z279_2 ∧ z279_2 ≤ 27) → V p l e R s m args below meth c 4 D A Q (0, 0) (fd dom σ_279) [(0, .ref h), (1, .int (iI d)), (2, .int (iI z279_2))] 279 [] := by
    intro σ_279 z279_2 G_279 F_279 hc279_h rv279_z21 r279_2
    refine v_goto B (tgt := 296) dX12_takesNext_279 (by decide +kernel) ?_
    exact J296 σ_279 z279_2 G_279 F_279 hc279_h ⟨by omega, by omega⟩
  have J79 : ∀ (k79 : Nat) (σ_79 : Nat → va_E) (z79_2 : Int) (z79_3 : Int), (2147483648 - z79_3).toNat ≤ k79 → GM K h q σ_79 → Fr τ [(154, 0), (156, 0), (160, 0), (186, 0), (185, 0), (182, 0), (184, 0), (157, 0), (161, 0), (167, 0), (155, 0), (177, 0), (104, 0), (105, 0), (106, 0), (178, 0), (179, 0), (158, 0)] σ0 σ_79 → (σ_79 (q 84) = .inl (K 0, 16, .inl f18)) → (σ_79 (q 85) = .inl (K 0, 2, .inl f12)) → (σ_79 (q 86) = .inl (K 0, 2, .inl f15)) → (σ_79 h = .inr (12, fsM q (iI z1) (iI z2) (iI z3) (iI z4) (iI z5))) → (0 ≤ z79_2 ∧ z79_2 ≤ 27) → (0 ≤ z79_3 ∧ z79_3 ≤ 5) → (At σ_79 (q 57) (d : Int).toNat (0) (5)) → V p l e R s m args below meth c 4 D A Q (0, 0) (fd dom σ_79) [(0, .ref h), (1, .int (iI d)), (2, .int (iI z79_2)), (3, .int (iI z79_3))] 79 [] := by
    intro k79
    induction k79 with
    | zero => intro σ_79 z79_2 z79_3 m79 G_79 F_79 hc79_q84 hc79_q85 hc79_q86 hc79_h r79_2 r79_3 i79; omega
    | succ k79 IH79 =>
      intro σ_79 z79_2 z79_3 m79 G_79 F_79 hc79_q84 hc79_q85 hc79_q86 hc79_h r79_2 r79_3 i79
      obtain ⟨f131, h132, e133⟩ := ga_57 G_79.t
      obtain ⟨z134, e135, r136⟩ := e133 (d : Int).toNat
      have r137 := (i79).use h132 e135 (by omega)
      refine v_iload_n B dX12_takesNext_79 rfl rfl ?_
      refine v_aload_n B dX12_takesNext_80 rfl rfl ?_
      refine u_get B Z (C := RX12) (T := TX12) (N := 123) (ci := 12) hi_M_takesNext_X12 Y.o hc79_h rfl 57 (by decide +kernel) (List.mem_of_getElem? (i := 43) rfl) rfl dX12_takesNext_81 ?_
      refine v_iload_n B dX12_takesNext_84 rfl rfl ?_
      refine u_iald B Z (t0 := 0) (ym_57 Y) h132 rfl (by omega) e135 dX12_takesNext_85 ?_
      refine u_icmp_ge B (tgt := 119) (by omega) (by omega) dX12_takesNext_86 (by decide +kernel) (fun c138 => ?_) (fun c138 => ?_)
      · refine v_aload_n B dX12_takesNext_119 rfl rfl ?_
        refine u_get B Z (C := RX12) (T := TX12) (N := 123) (ci := 12) hi_M_takesNext_X12 Y.o hc79_h rfl 61 (by decide +kernel) (List.mem_of_getElem? (i := 44) rfl) rfl dX12_takesNext_120 ?_
        refine v_bipush B (v := iI 96) dX12_takesNext_123 (by decide +kernel) ?_
        refine v_iload_n B dX12_takesNext_125 rfl rfl ?_
        refine v_imul B (v := iI (96 * d)) dX12_takesNext_126 ((iI_mul _ _).trans (congrArg iI (by omega))) ?_
        refine v_bipush B (v := iI 16) dX12_takesNext_127 (by decide +kernel) ?_
        refine v_iadd B (v := iI (96 * d + 16)) dX12_takesNext_129 ((iI_add _ _).trans (congrArg iI (by omega))) ?_
        refine v_aload_n B dX12_takesNext_130 rfl rfl ?_
        refine u_get B Z (C := RX12) (T := TX12) (N := 123) (ci := 12) hi_M_takesNext_X12 Y.o hc79_h rfl 61 (by decide +kernel) (List.mem_of_getElem? (i := 44) rfl) rfl dX12_takesNext_131 ?_
        refine v_bipush B (v := iI 96) dX12_takesNext_134 (by decide +kernel) ?_
        refine v_iload_n B dX12_takesNext_136 rfl rfl ?_
        refine v_imul B (v := iI (96 * d)) dX12_takesNext_137 ((iI_mul _ _).trans (congrArg iI (by omega))) ?_
        refine v_bipush B (v := iI 16) dX12_takesNext_138 (by decide +kernel) ?_
        refine v_aload_n B dX12_takesNext_140 rfl rfl ?_
        refine u_get B Z (C := RX12) (T := TX12) (N := 123) (ci := 12) hi_M_takesNext_X12 Y.o hc79_h rfl 57 (by decide +kernel) (List.mem_of_getElem? (i := 43) rfl) rfl dX12_takesNext_141 ?_
        refine v_iload_n B dX12_takesNext_144 rfl rfl ?_
        refine u_iald B Z (t0 := 0) (ym_57 Y) h132 rfl (by omega) e135 dX12_takesNext_145 ?_
        refine v_imul B (v := iI (16 * z134)) dX12_takesNext_146 ((iI_mul _ _).trans (congrArg iI (by omega))) ?_
        refine u_callSv B Z hz (n := 5) (As := [.ref (q 61), .int (iI (96 * d + 16)), .ref (q 61), .int (iI (96 * d)), .int (iI (16 * z134))]) (rest := []) (c_M_copy l D K Z _ _ _ _ h q Y 61 192 (96 * d + 16) 61 192 (96 * d) (16 * z134) rfl ⟨by omega, by omega⟩ rfl ⟨by omega, by omega⟩ ⟨by omega, by omega⟩ σ_79 G_79 (by omega)) gd_M_takesNext_M_copy_29 rfl rfl rfl (by decide +kernel) ⟨Nat.le_trans (by decide +kernel) hR.1, Nat.le_trans (by decide +kernel) hR.2⟩ rfl rfl (Nat.le_of_ble_eq_true rfl) dX12_takesNext_147 ⟨Nat.zero_le _, Nat.zero_le _⟩ (fun σ139 p140 => ?_)
        obtain ⟨G142, F143⟩ := p140
        have F144 := F_79.call F143 (by first | rfl | simp)
        refine v_goto B (tgt := 296) dX12_takesNext_150 (by decide +kernel) ?_
        refine v_lv [0, 1, 2] rfl ?_
        have h145 := (F143 h _ Y.o (by first | rfl | simp)).trans (hc79_h)
        exact J296 σ139 z79_2 G142 F144 h145 ⟨by omega, by omega⟩
      · refine v_aload_n B dX12_takesNext_89 rfl rfl ?_
        refine u_get B Z (C := RX12) (T := TX12) (N := 123) (ci := 12) hi_M_takesNext_X12 Y.o hc79_h rfl 67 (by decide +kernel) (List.mem_of_getElem? (i := 45) rfl) rfl dX12_takesNext_90 ?_
        refine v_bipush B (v := iI 6) dX12_takesNext_93 (by decide +kernel) ?_
        refine v_iload_n B dX12_takesNext_95 rfl rfl ?_
        refine v_imul B (v := iI (6 * d)) dX12_takesNext_96 ((iI_mul _ _).trans (congrArg iI (by omega))) ?_
        refine v_iload_n B dX12_takesNext_97 rfl rfl ?_
        refine v_iadd B (v := iI (6 * d + z79_3)) dX12_takesNext_98 ((iI_add _ _).trans (congrArg iI (by omega))) ?_
        refine v_aload_n B dX12_takesNext_99 rfl rfl ?_
        refine u_get B Z (C := RX12) (T := TX12) (N := 123) (ci := 12) hi_M_takesNext_X12 Y.o hc79_h rfl 67 (by decide +kernel) (List.mem_of_getElem? (i := 45) rfl) rfl dX12_takesNext_100 ?_
        refine v_bipush B (v := iI 6) dX12_takesNext_103 (by decide +kernel) ?_
        refine v_iload_n B dX12_takesNext_105 rfl rfl ?_
        refine v_imul B (v := iI (6 * d)) dX12_takesNext_106 ((iI_mul _ _).trans (congrArg iI (by omega))) ?_
        refine v_iload_n B dX12_takesNext_107 rfl rfl ?_
        refine v_iadd B (v := iI (6 * d + z79_3)) dX12_takesNext_108 ((iI_add _ _).trans (congrArg iI (by omega))) ?_
        refine v_iconst B (v := iI 1) dX12_takesNext_109 rfl ?_
        refine v_iadd B (v := iI (6 * d + z79_3 + 1)) dX12_takesNext_110 ((iI_add _ _).trans (congrArg iI (by omega))) ?_
        obtain ⟨f146, h147, e148⟩ := ga_67 G_79.t
        obtain ⟨z149, e150, r151⟩ := e148 ((6 * d + z79_3 + 1) : Int).toNat
        refine u_iald B Z (t0 := 0) (ym_67 Y) h147 rfl (by omega) e150 dX12_takesNext_111 ?_
        refine u_iast B Z (t0 := 0) (x := iI z149) (ym_67 Y) h147 rfl (by omega) dX12_takesNext_112 (fun σ152 h153 n154 => ?_)
        have e155 := el_upd (z := z149) e148 ⟨by omega, by omega⟩ ((6 * d + z79_3) : Int).toNat
        have F156 := F_79.put (ym_67 Y) (by simp) n154
        have G157 := gp_67 Y G_79 ⟨_, h153, e155⟩ n154
        refine v_iinc B (k := 3) (v := iI (z79_3 + 1)) (lv' := [(3, .int (iI (z79_3 + 1))), (0, .ref h), (1, .int (iI d)), (2, .int (iI z79_2))]) dX12_takesNext_113 rfl ((iI_add _ _).trans (congrArg iI (by omega))) (by decide +kernel) rfl ?_
        refine v_goto B (tgt := 79) dX12_takesNext_116 (by decide +kernel) ?_
        refine v_lv [1, 2, 3, 0] rfl ?_
        have h158 := (n154 (q 57) (ne_ty (ym_57 Y) (ym_67 Y) (by decide))).trans (h132)
        have h159 := (n154 (q 84) (ne_ty (ym_84 Y) (ym_67 Y) (by decide))).trans (hc79_q84)
        have h160 := (n154 (q 85) (ne_ty (ym_85 Y) (ym_67 Y) (by decide))).trans (hc79_q85)
        have h161 := (n154 (q 86) (ne_ty (ym_86 Y) (ym_67 Y) (by decide))).trans (hc79_q86)
        have h162 := (n154 h (ne_ty Y.o (ym_67 Y) (by decide))).trans (hc79_h)
        exact IH79 σ152 z79_2 (z79_3 + 1) (by omega) G157 F156 h159 h160 h161 h162 ⟨by omega, by omega⟩ ⟨by omega, by omega⟩ ((At.mk h158 e135 (by omega) ⟨by omega, by omega⟩))
  refine v_iconst B (v := iI 0) dX12_takesNext_0 rfl ?_
  refine v_istore_n B (lv' := [(2, .int (iI 0)), (0, .ref h), (1, .int (iI d))]) dX12_takesNext_1 rfl (by decide +kernel) rfl ?_
  refine v_aload_n B dX12_takesNext_2 rfl rfl ?_
  refine u_get B Z (C := RX12) (T := TX12) (N := 123) (ci := 12) hi_M_takesNext_X12 Y.o h6 rfl 57 (by decide +kernel) (List.mem_of_getElem? (i := 43) rfl) rfl dX12_takesNext_3 ?_
  refine v_iload_n B dX12_takesNext_6 rfl rfl ?_
  obtain ⟨f163, h164, e165⟩ := ga_57 G0.t
  obtain ⟨z166, e167, r168⟩ := e165 (d : Int).toNat
  refine u_iald B Z (t0 := 0) (ym_57 Y) h164 rfl (by omega) e167 dX12_takesNext_7 ?_
  refine u_if_le B (tgt := 153) (by omega) dX12_takesNext_8 (by decide +kernel) (fun c169 => ?_) (fun c169 => ?_)
  · refine v_aload_n B dX12_takesNext_153 rfl rfl ?_
    refine u_get B Z (C := RX12) (T := TX12) (N := 123) (ci := 12) hi_M_takesNext_X12 Y.o h6 rfl 68 (by decide +kernel) (List.mem_of_getElem? (i := 46) rfl) rfl dX12_takesNext_154 ?_
    refine v_iload_n B dX12_takesNext_157 rfl rfl ?_
    obtain ⟨f170, h171, e172⟩ := ga_68 G0.t
    obtain ⟨z173, e174, r175⟩ := e172 (d : Int).toNat
    refine u_zald B Z (t0 := 3) (ym_68 Y) h171 rfl (by omega) e174 dX12_takesNext_158 ?_
    refine u_if_ne B (tgt := 282) (by omega) dX12_takesNext_159 (by decide +kernel) (fun c176 => ?_) (fun c176 => ?_)
    · refine v_lv [1, 2, 0] rfl ?_
      exact J282 σ0 0 G0 F0 h6 ⟨by omega, by omega⟩
    · refine v_aload_n B dX12_takesNext_162 rfl rfl ?_
      refine u_get B Z (C := RX12) (T := TX12) (N := 123) (ci := 12) hi_M_takesNext_X12 Y.o h6 rfl 85 (by decide +kernel) (List.mem_of_getElem? (i := 47) rfl) rfl dX12_takesNext_163 ?_
      refine v_iload_n B dX12_takesNext_166 rfl rfl ?_
      refine u_iald B Z (t0 := 0) (ym_85 Y) h13 rfl (by omega) e22 dX12_takesNext_167 ?_
      refine u_if_le B (tgt := 282) (by omega) dX12_takesNext_168 (by decide +kernel) (fun c177 => ?_) (fun c177 => ?_)
      · refine v_lv [1, 2, 0] rfl ?_
        exact J282 σ0 0 G0 F0 h6 ⟨by omega, by omega⟩
      · refine v_bipush B (v := iI 8) dX12_takesNext_171 (by decide +kernel) ?_
        refine v_iload_n B dX12_takesNext_173 rfl rfl ?_
        refine v_imul B (v := iI (8 * d)) dX12_takesNext_174 ((iI_mul _ _).trans (congrArg iI (by omega))) ?_
        refine v_istore_n B (lv' := [(3, .int (iI (8 * d))), (2, .int (iI 0)), (0, .ref h), (1, .int (iI d))]) dX12_takesNext_175 rfl (by decide +kernel) rfl ?_
        refine v_bipush B (v := iI 27) dX12_takesNext_176 (by decide +kernel) ?_
        refine v_aload_n B dX12_takesNext_178 rfl rfl ?_
        refine u_get B Z (C := RX12) (T := TX12) (N := 123) (ci := 12) hi_M_takesNext_X12 Y.o h6 rfl 84 (by decide +kernel) (List.mem_of_getElem? (i := 48) rfl) rfl dX12_takesNext_179 ?_
        refine v_iload_n B dX12_takesNext_182 rfl rfl ?_
        refine u_iald B Z (t0 := 0) (ym_84 Y) h19 rfl (by omega) e29 dX12_takesNext_183 ?_
        refine v_aload_n B dX12_takesNext_184 rfl rfl ?_
        refine u_get B Z (C := RX12) (T := TX12) (N := 123) (ci := 12) hi_M_takesNext_X12 Y.o h6 rfl 86 (by decide +kernel) (List.mem_of_getElem? (i := 49) rfl) rfl dX12_takesNext_185 ?_
        refine v_iload_n B dX12_takesNext_188 rfl rfl ?_
        refine u_iald B Z (t0 := 0) (ym_86 Y) h16 rfl (by omega) e25 dX12_takesNext_189 ?_
        refine v_isub B (v := iI (z28 + (-1) * z24)) dX12_takesNext_190 ((iI_sub _ _).trans (congrArg iI (by omega))) ?_
        obtain ⟨z178, e179, r180⟩ := iI_min (a := 27) (b := (z28 + (-1) * z24)) (by omega) (by omega)
        refine v_mmin B (v := iI z178) (List.mem_of_getElem? (i := 50) rfl) (List.mem_of_getElem? (i := 51) rfl) (List.mem_of_getElem? (i := 52) rfl) (List.mem_of_getElem? (i := 53) rfl) (Nat.le_trans (by decide +kernel) hR.1) (Nat.le_trans (Nat.le_of_ble_eq_true rfl) hR.2) (Nat.zero_le _) (Nat.zero_le _) e179 dX12_takesNext_191 ?_
        refine v_istore_n B (lv' := [(2, .int (iI z178)), (3, .int (iI (8 * d))), (0, .ref h), (1, .int (iI d))]) dX12_takesNext_194 rfl (by decide +kernel) rfl ?_
        refine v_aload_n B dX12_takesNext_195 rfl rfl ?_
        refine u_get B Z (C := RX12) (T := TX12) (N := 123) (ci := 12) hi_M_takesNext_X12 Y.o h6 rfl 54 (by decide +kernel) (List.mem_of_getElem? (i := 3) rfl) rfl dX12_takesNext_196 ?_
        refine v_iload_n B dX12_takesNext_199 rfl rfl ?_
        refine v_aload_n B dX12_takesNext_200 rfl rfl ?_
        refine u_get B Z (C := RX12) (T := TX12) (N := 123) (ci := 12) hi_M_takesNext_X12 Y.o h6 rfl 86 (by decide +kernel) (List.mem_of_getElem? (i := 49) rfl) rfl dX12_takesNext_201 ?_
        refine v_iload_n B dX12_takesNext_204 rfl rfl ?_
        refine u_iald B Z (t0 := 0) (ym_86 Y) h16 rfl (by omega) e25 dX12_takesNext_205 ?_
        refine u_if_ne B (tgt := 213) (by omega) dX12_takesNext_206 (by decide +kernel) (fun c181 => ?_) (fun c181 => ?_)
        · refine v_iconst B (v := iI 1) dX12_takesNext_213 rfl ?_
          obtain ⟨f182, h183, e184⟩ := ga_54 G0.t
          refine u_iast B Z (t0 := 0) (x := iI 1) (ym_54 Y) h183 rfl (by omega) dX12_takesNext_214 (fun σ185 h186 n187 => ?_)
          have e188 := el_upd (z := 1) e184 ⟨by omega, by omega⟩ (d : Int).toNat
          have F189 := F0.put (ym_54 Y) (by simp) n187
          have G190 := gp_54 Y G0 ⟨_, h186, e188⟩ n187
          refine v_aload_n B dX12_takesNext_215 rfl rfl ?_
          have h191 := (n187 h (ne_ty Y.o (ym_54 Y) (by decide))).trans (h6)
          refine u_get B Z (C := RX12) (T := TX12) (N := 123) (ci := 12) hi_M_takesNext_X12 Y.o h191 rfl 56 (by decide +kernel) (List.mem_of_getElem? (i := 42) rfl) rfl dX12_takesNext_216 ?_
          refine v_iload_n B dX12_takesNext_219 rfl rfl ?_
          refine v_iconst B (v := iI 0) dX12_takesNext_220 rfl ?_
          obtain ⟨f192, h193, e194⟩ := ga_56 G190.t
          refine u_iast B Z (t0 := 0) (x := iI 0) (ym_56 Y) h193 rfl (by omega) dX12_takesNext_221 (fun σ195 h196 n197 => ?_)
          have e198 := el_upd (z := 0) e194 ⟨by omega, by omega⟩ (d : Int).toNat
          have F199 := F189.put (ym_56 Y) (by simp) n197
          have G200 := gp_56 Y G190 ⟨_, h196, e198⟩ n197
          refine v_aload_n B dX12_takesNext_222 rfl rfl ?_
          have h201 := (n197 h (ne_ty Y.o (ym_56 Y) (by decide))).trans (h191)
          refine u_get B Z (C := RX12) (T := TX12) (N := 123) (ci := 12) hi_M_takesNext_X12 Y.o h201 rfl 82 (by decide +kernel) (List.mem_of_getElem? (i := 54) rfl) rfl dX12_takesNext_223 ?_
          refine v_bipush B (v := iI 96) dX12_takesNext_226 (by decide +kernel) ?_
          refine v_iload_n B dX12_takesNext_228 rfl rfl ?_
          refine v_imul B (v := iI (768 * d)) dX12_takesNext_229 ((iI_mul _ _).trans (congrArg iI (by omega))) ?_
          refine v_aload_n B dX12_takesNext_230 rfl rfl ?_
          refine u_get B Z (C := RX12) (T := TX12) (N := 123) (ci := 12) hi_M_takesNext_X12 Y.o h201 rfl 86 (by decide +kernel) (List.mem_of_getElem? (i := 49) rfl) rfl dX12_takesNext_231 ?_
          refine v_iload_n B dX12_takesNext_234 rfl rfl ?_
          have h202 := (n197 (q 86) (ne_ty (ym_86 Y) (ym_56 Y) (by decide))).trans ((n187 (q 86) (ne_ty (ym_86 Y) (ym_54 Y) (by decide))).trans (h16))
          refine u_iald B Z (t0 := 0) (ym_86 Y) h202 rfl (by omega) e25 dX12_takesNext_235 ?_
          refine v_iadd B (v := iI (768 * d + z24)) dX12_takesNext_236 ((iI_add _ _).trans (congrArg iI (by omega))) ?_
          refine v_aload_n B dX12_takesNext_237 rfl rfl ?_
          refine u_get B Z (C := RX12) (T := TX12) (N := 123) (ci := 12) hi_M_takesNext_X12 Y.o h201 rfl 60 (by decide +kernel) (List.mem_of_getElem? (i := 1) rfl) rfl dX12_takesNext_238 ?_
          refine v_bipush B (v := iI 40) dX12_takesNext_241 (by decide +kernel) ?_
          refine v_iload_n B dX12_takesNext_243 rfl rfl ?_
          refine v_imul B (v := iI (40 * d)) dX12_takesNext_244 ((iI_mul _ _).trans (congrArg iI (by omega))) ?_
          refine v_iload_n B dX12_takesNext_245 rfl rfl ?_
          refine u_callSv B Z hz (n := 5) (As := [.ref (q 82), .int (iI (768 * d + z24)), .ref (q 60), .int (iI (40 * d)), .int (iI z178)]) (rest := []) (c_M_copy l D K Z _ _ _ _ h q Y 82 1536 (768 * d + z24) 60 80 (40 * d) z178 rfl ⟨by omega, by omega⟩ rfl ⟨by omega, by omega⟩ ⟨by omega, by omega⟩ σ195 G200 (by omega)) gd_M_takesNext_M_copy_29 rfl rfl rfl (by decide +kernel) ⟨Nat.le_trans (by decide +kernel) hR.1, Nat.le_trans (by decide +kernel) hR.2⟩ rfl rfl (Nat.le_of_ble_eq_true rfl) dX12_takesNext_246 ⟨Nat.zero_le _, Nat.zero_le _⟩ (fun σ203 p204 => ?_)
          obtain ⟨G206, F207⟩ := p204
          have F208 := F199.call F207 (by first | rfl | simp)
          refine v_aload_n B dX12_takesNext_249 rfl rfl ?_
          have h209 := (F207 h _ Y.o (by first | rfl | simp)).trans (h201)
          refine u_get B Z (C := RX12) (T := TX12) (N := 123) (ci := 12) hi_M_takesNext_X12 Y.o h209 rfl 86 (by decide +kernel) (List.mem_of_getElem? (i := 49) rfl) rfl dX12_takesNext_250 ?_
          refine v_iload_n B dX12_takesNext_253 rfl rfl ?_
          refine v_dup2 B dX12_takesNext_254 rfl rfl ?_
          have h210 := (F207 (q 86) _ (ym_86 Y) (by first | rfl | simp)).trans (h202)
          refine u_iald B Z (t0 := 0) (ym_86 Y) h210 rfl (by omega) e25 dX12_takesNext_255 ?_
          refine v_iload_n B dX12_takesNext_256 rfl rfl ?_
          refine v_iadd B (v := iI (z24 + z178)) dX12_takesNext_257 ((iI_add _ _).trans (congrArg iI (by omega))) ?_
          have h211 := (F207 (q 85) _ (ym_85 Y) (by first | rfl | simp)).trans ((n197 (q 85) (ne_ty (ym_85 Y) (ym_56 Y) (by decide))).trans ((n187 (q 85) (ne_ty (ym_85 Y) (ym_54 Y) (by decide))).trans (h13)))
          have h212 := (F207 (q 84) _ (ym_84 Y) (by first | rfl | simp)).trans ((n197 (q 84) (ne_ty (ym_84 Y) (ym_56 Y) (by decide))).trans ((n187 (q 84) (ne_ty (ym_84 Y) (ym_54 Y) (by decide))).trans (h19)))
          have ra213 := G206.a _ _ _ _ _ _ _ _ _ h211 h210 h212
          refine u_iast B Z (t0 := 0) (x := iI (z24 + z178)) (ym_86 Y) h210 rfl (by omega) dX12_takesNext_258 (fun σ214 h215 n216 => ?_)
          have e217 := el_upd (z := (z24 + z178)) e17 ⟨by omega, by omega⟩ (d : Int).toNat
          have F218 := F208.put (ym_86 Y) (by simp) n216
          have T219 := gp_86 Y G206.t ⟨_, h215, e217⟩ n216
          have R220 := (G206.b).kept (n216 _ (ne_ty (ym_106 Y) (ym_86 Y) (by decide))) (n216 _ (ne_ty (ym_110 Y) (ym_86 Y) (by decide)))
          have R221 := (G206.c).kept (n216 _ (ne_ty (ym_7 Y) (ym_86 Y) (by decide))) (n216 _ (ne_ty (ym_15 Y) (ym_86 Y) (by decide)))
          have R222 := (G206.d).kept (n216 _ (ne_ty (ym_41 Y) (ym_86 Y) (by decide))) (n216 _ (ne_ty (ym_16 Y) (ym_86 Y) (by decide)))
          have h223 := (n216 (q 85) (ne_ty (ym_85 Y) (ym_86 Y) (by decide))).trans (h211)
          have h224 := (n216 (q 84) (ne_ty (ym_84 Y) (ym_86 Y) (by decide))).trans (h212)
          have R225 : RelA q σ214 := RelA.mk h223 h215 h224 (RA.set ra213 (d : Int).toNat (fun _ _ => rfl) (fun i hi => upd_n hi) (fun _ _ _ => rfl) (fun x y z e1 e2 e3 r1 r2 r3 => by have a1 : z21 = x := (iI_eq (by omega) r1).mp ((e22).symm.trans e1); have a2 : (z24 + z178) = y := (iI_eq (by omega) r2).mp ((upd_s).symm.trans e2); have a3 : z28 = z := (iI_eq (by omega) r3).mp (((show f18 (8 * (d : Int).toNat) = iI z28 from by rw [show 8 * (d : Int).toNat = ((8 * d) : Int).toNat by omega]; exact e29)).symm.trans e3); omega))
          have G226 : GM K h q σ214 := ⟨T219, R225, R220, R221, R222⟩
          refine v_aload_n B dX12_takesNext_259 rfl rfl ?_
          have h227 := (n216 h (ne_ty Y.o (ym_86 Y) (by decide))).trans (h209)
          refine u_get B Z (C := RX12) (T := TX12) (N := 123) (ci := 12) hi_M_takesNext_X12 Y.o h227 rfl 86 (by decide +kernel) (List.mem_of_getElem? (i := 49) rfl) rfl dX12_takesNext_260 ?_
          refine v_iload_n B dX12_takesNext_263 rfl rfl ?_
          refine u_iald B Z (t0 := 0) (ym_86 Y) h215 rfl (by omega) upd_s dX12_takesNext_264 ?_
          refine v_aload_n B dX12_takesNext_265 rfl rfl ?_
          refine u_get B Z (C := RX12) (T := TX12) (N := 123) (ci := 12) hi_M_takesNext_X12 Y.o h227 rfl 84 (by decide +kernel) (List.mem_of_getElem? (i := 48) rfl) rfl dX12_takesNext_266 ?_
          refine v_iload_n B dX12_takesNext_269 rfl rfl ?_
          refine u_iald B Z (t0 := 0) (ym_84 Y) h224 rfl (by omega) e29 dX12_takesNext_270 ?_
          refine u_icmp_ne B (tgt := 279) (by omega) (by omega) dX12_takesNext_271 (by decide +kernel) (fun c228 => ?_) (fun c228 => ?_)
          · refine v_lv [2, 3, 0] rfl ?_
            exact J279 σ214 z178 G226 F218 h227 ⟨by omega, by omega⟩ ⟨by omega, by omega⟩
          · refine v_aload_n B dX12_takesNext_274 rfl rfl ?_
            refine v_iload_n B dX12_takesNext_275 rfl rfl ?_
            refine u_callVv B Z hz (n := 1) (As := [.int (iI d)]) (rest := []) (c_M_drops l D K Z _ _ _ _ h q Y d ⟨by omega, by omega⟩ σ214 G226 (At.mk h223 e22 (by omega) ⟨by omega, by omega⟩)) gd_M_takesNext_M_drops_448 rfl rfl rfl (by decide +kernel) ⟨Nat.le_trans (by decide +kernel) hR.1, Nat.le_trans (by decide +kernel) hR.2⟩ Y.o (clsM G226.t) rfl rfl rfl rfl (Nat.le_of_ble_eq_true rfl) dX12_takesNext_276 ⟨Nat.zero_le _, Nat.zero_le _⟩ (fun σ229 p230 => ?_)
            obtain ⟨G232, F233⟩ := p230
            have F234 := F218.call F233 (by first | rfl | simp)
            refine v_lv [2, 3, 0] rfl ?_
            have h235 := (F233 h _ Y.o (by first | rfl | simp)).trans (h227)
            exact J279 σ229 z178 G232 F234 h235 ⟨by omega, by omega⟩ ⟨by omega, by omega⟩
        · refine v_iconst B (v := iI 2) dX12_takesNext_209 rfl ?_
          refine v_goto B (tgt := 214) dX12_takesNext_210 (by decide +kernel) ?_
          obtain ⟨f236, h237, e238⟩ := ga_54 G0.t
          refine u_iast B Z (t0 := 0) (x := iI 2) (ym_54 Y) h237 rfl (by omega) dX12_takesNext_214 (fun σ239 h240 n241 => ?_)
          have e242 := el_upd (z := 2) e238 ⟨by omega, by omega⟩ (d : Int).toNat
          have F243 := F0.put (ym_54 Y) (by simp) n241
          have G244 := gp_54 Y G0 ⟨_, h240, e242⟩ n241
          refine v_aload_n B dX12_takesNext_215 rfl rfl ?_
          have h245 := (n241 h (ne_ty Y.o (ym_54 Y) (by decide))).trans (h6)
          refine u_get B Z (C := RX12) (T := TX12) (N := 123) (ci := 12) hi_M_takesNext_X12 Y.o h245 rfl 56 (by decide +kernel) (List.mem_of_getElem? (i := 42) rfl) rfl dX12_takesNext_216 ?_
          refine v_iload_n B dX12_takesNext_219 rfl rfl ?_
          refine v_iconst B (v := iI 0) dX12_takesNext_220 rfl ?_
          obtain ⟨f246, h247, e248⟩ := ga_56 G244.t
          refine u_iast B Z (t0 := 0) (x := iI 0) (ym_56 Y) h247 rfl (by omega) dX12_takesNext_221 (fun σ249 h250 n251 => ?_)
          have e252 := el_upd (z := 0) e248 ⟨by omega, by omega⟩ (d : Int).toNat
          have F253 := F243.put (ym_56 Y) (by simp) n251
          have G254 := gp_56 Y G244 ⟨_, h250, e252⟩ n251
          refine v_aload_n B dX12_takesNext_222 rfl rfl ?_
          have h255 := (n251 h (ne_ty Y.o (ym_56 Y) (by decide))).trans (h245)
          refine u_get B Z (C := RX12) (T := TX12) (N := 123) (ci := 12) hi_M_takesNext_X12 Y.o h255 rfl 82 (by decide +kernel) (List.mem_of_getElem? (i := 54) rfl) rfl dX12_takesNext_223 ?_
          refine v_bipush B (v := iI 96) dX12_takesNext_226 (by decide +kernel) ?_
          refine v_iload_n B dX12_takesNext_228 rfl rfl ?_
          refine v_imul B (v := iI (768 * d)) dX12_takesNext_229 ((iI_mul _ _).trans (congrArg iI (by omega))) ?_
          refine v_aload_n B dX12_takesNext_230 rfl rfl ?_
          refine u_get B Z (C := RX12) (T := TX12) (N := 123) (ci := 12) hi_M_takesNext_X12 Y.o h255 rfl 86 (by decide +kernel) (List.mem_of_getElem? (i := 49) rfl) rfl dX12_takesNext_231 ?_
          refine v_iload_n B dX12_takesNext_234 rfl rfl ?_
          have h256 := (n251 (q 86) (ne_ty (ym_86 Y) (ym_56 Y) (by decide))).trans ((n241 (q 86) (ne_ty (ym_86 Y) (ym_54 Y) (by decide))).trans (h16))
          refine u_iald B Z (t0 := 0) (ym_86 Y) h256 rfl (by omega) e25 dX12_takesNext_235 ?_
          refine v_iadd B (v := iI (768 * d + z24)) dX12_takesNext_236 ((iI_add _ _).trans (congrArg iI (by omega))) ?_
          refine v_aload_n B dX12_takesNext_237 rfl rfl ?_
          refine u_get B Z (C := RX12) (T := TX12) (N := 123) (ci := 12) hi_M_takesNext_X12 Y.o h255 rfl 60 (by decide +kernel) (List.mem_of_getElem? (i := 1) rfl) rfl dX12_takesNext_238 ?_
          refine v_bipush B (v := iI 40) dX12_takesNext_241 (by decide +kernel) ?_
          refine v_iload_n B dX12_takesNext_243 rfl rfl ?_
          refine v_imul B (v := iI (40 * d)) dX12_takesNext_244 ((iI_mul _ _).trans (congrArg iI (by omega))) ?_
          refine v_iload_n B dX12_takesNext_245 rfl rfl ?_
          refine u_callSv B Z hz (n := 5) (As := [.ref (q 82), .int (iI (768 * d + z24)), .ref (q 60), .int (iI (40 * d)), .int (iI z178)]) (rest := []) (c_M_copy l D K Z _ _ _ _ h q Y 82 1536 (768 * d + z24) 60 80 (40 * d) z178 rfl ⟨by omega, by omega⟩ rfl ⟨by omega, by omega⟩ ⟨by omega, by omega⟩ σ249 G254 (by omega)) gd_M_takesNext_M_copy_29 rfl rfl rfl (by decide +kernel) ⟨Nat.le_trans (by decide +kernel) hR.1, Nat.le_trans (by decide +kernel) hR.2⟩ rfl rfl (Nat.le_of_ble_eq_true rfl) dX12_takesNext_246 ⟨Nat.zero_le _, Nat.zero_le _⟩ (fun σ257 p258 => ?_)
          obtain ⟨G260, F261⟩ := p258
          have F262 := F253.call F261 (by first | rfl | simp)
          refine v_aload_n B dX12_takesNext_249 rfl rfl ?_
          have h263 := (F261 h _ Y.o (by first | rfl | simp)).trans (h255)
          refine u_get B Z (C := RX12) (T := TX12) (N := 123) (ci := 12) hi_M_takesNext_X12 Y.o h263 rfl 86 (by decide +kernel) (List.mem_of_getElem? (i := 49) rfl) rfl dX12_takesNext_250 ?_
          refine v_iload_n B dX12_takesNext_253 rfl rfl ?_
          refine v_dup2 B dX12_takesNext_254 rfl rfl ?_
          have h264 := (F261 (q 86) _ (ym_86 Y) (by first | rfl | simp)).trans (h256)
          refine u_iald B Z (t0 := 0) (ym_86 Y) h264 rfl (by omega) e25 dX12_takesNext_255 ?_
          refine v_iload_n B dX12_takesNext_256 rfl rfl ?_
          refine v_iadd B (v := iI (z24 + z178)) dX12_takesNext_257 ((iI_add _ _).trans (congrArg iI (by omega))) ?_
          have h265 := (F261 (q 85) _ (ym_85 Y) (by first | rfl | simp)).trans ((n251 (q 85) (ne_ty (ym_85 Y) (ym_56 Y) (by decide))).trans ((n241 (q 85) (ne_ty (ym_85 Y) (ym_54 Y) (by decide))).trans (h13)))
          have h266 := (F261 (q 84) _ (ym_84 Y) (by first | rfl | simp)).trans ((n251 (q 84) (ne_ty (ym_84 Y) (ym_56 Y) (by decide))).trans ((n241 (q 84) (ne_ty (ym_84 Y) (ym_54 Y) (by decide))).trans (h19)))
          have ra267 := G260.a _ _ _ _ _ _ _ _ _ h265 h264 h266
          refine u_iast B Z (t0 := 0) (x := iI (z24 + z178)) (ym_86 Y) h264 rfl (by omega) dX12_takesNext_258 (fun σ268 h269 n270 => ?_)
          have e271 := el_upd (z := (z24 + z178)) e17 ⟨by omega, by omega⟩ (d : Int).toNat
          have F272 := F262.put (ym_86 Y) (by simp) n270
          have T273 := gp_86 Y G260.t ⟨_, h269, e271⟩ n270
          have R274 := (G260.b).kept (n270 _ (ne_ty (ym_106 Y) (ym_86 Y) (by decide))) (n270 _ (ne_ty (ym_110 Y) (ym_86 Y) (by decide)))
          have R275 := (G260.c).kept (n270 _ (ne_ty (ym_7 Y) (ym_86 Y) (by decide))) (n270 _ (ne_ty (ym_15 Y) (ym_86 Y) (by decide)))
          have R276 := (G260.d).kept (n270 _ (ne_ty (ym_41 Y) (ym_86 Y) (by decide))) (n270 _ (ne_ty (ym_16 Y) (ym_86 Y) (by decide)))
          have h277 := (n270 (q 85) (ne_ty (ym_85 Y) (ym_86 Y) (by decide))).trans (h265)
          have h278 := (n270 (q 84) (ne_ty (ym_84 Y) (ym_86 Y) (by decide))).trans (h266)
          have R279 : RelA q σ268 := RelA.mk h277 h269 h278 (RA.set ra267 (d : Int).toNat (fun _ _ => rfl) (fun i hi => upd_n hi) (fun _ _ _ => rfl) (fun x y z e1 e2 e3 r1 r2 r3 => by have a1 : z21 = x := (iI_eq (by omega) r1).mp ((e22).symm.trans e1); have a2 : (z24 + z178) = y := (iI_eq (by omega) r2).mp ((upd_s).symm.trans e2); have a3 : z28 = z := (iI_eq (by omega) r3).mp (((show f18 (8 * (d : Int).toNat) = iI z28 from by rw [show 8 * (d : Int).toNat = ((8 * d) : Int).toNat by omega]; exact e29)).symm.trans e3); omega))
          have G280 : GM K h q σ268 := ⟨T273, R279, R274, R275, R276⟩
          refine v_aload_n B dX12_takesNext_259 rfl rfl ?_
          have h281 := (n270 h (ne_ty Y.o (ym_86 Y) (by decide))).trans (h263)
          refine u_get B Z (C := RX12) (T := TX12) (N := 123) (ci := 12) hi_M_takesNext_X12 Y.o h281 rfl 86 (by decide +kernel) (List.mem_of_getElem? (i := 49) rfl) rfl dX12_takesNext_260 ?_
          refine v_iload_n B dX12_takesNext_263 rfl rfl ?_
          refine u_iald B Z (t0 := 0) (ym_86 Y) h269 rfl (by omega) upd_s dX12_takesNext_264 ?_
          refine v_aload_n B dX12_takesNext_265 rfl rfl ?_
          refine u_get B Z (C := RX12) (T := TX12) (N := 123) (ci := 12) hi_M_takesNext_X12 Y.o h281 rfl 84 (by decide +kernel) (List.mem_of_getElem? (i := 48) rfl) rfl dX12_takesNext_266 ?_
          refine v_iload_n B dX12_takesNext_269 rfl rfl ?_
          refine u_iald B Z (t0 := 0) (ym_84 Y) h278 rfl (by omega) e29 dX12_takesNext_270 ?_
          refine u_icmp_ne B (tgt := 279) (by omega) (by omega) dX12_takesNext_271 (by decide +kernel) (fun c282 => ?_) (fun c282 => ?_)
          · refine v_lv [2, 3, 0] rfl ?_
            exact J279 σ268 z178 G280 F272 h281 ⟨by omega, by omega⟩ ⟨by omega, by omega⟩
          · refine v_aload_n B dX12_takesNext_274 rfl rfl ?_
            refine v_iload_n B dX12_takesNext_275 rfl rfl ?_
            refine u_callVv B Z hz (n := 1) (As := [.int (iI d)]) (rest := []) (c_M_drops l D K Z _ _ _ _ h q Y d ⟨by omega, by omega⟩ σ268 G280 (At.mk h277 e22 (by omega) ⟨by omega, by omega⟩)) gd_M_takesNext_M_drops_448 rfl rfl rfl (by decide +kernel) ⟨Nat.le_trans (by decide +kernel) hR.1, Nat.le_trans (by decide +kernel) hR.2⟩ Y.o (clsM G280.t) rfl rfl rfl rfl (Nat.le_of_ble_eq_true rfl) dX12_takesNext_276 ⟨Nat.zero_le _, Nat.zero_le _⟩ (fun σ283 p284 => ?_)
            obtain ⟨G286, F287⟩ := p284
            have F288 := F272.call F287 (by first | rfl | simp)
            refine v_lv [2, 3, 0] rfl ?_
            have h289 := (F287 h _ Y.o (by first | rfl | simp)).trans (h281)
            exact J279 σ283 z178 G286 F288 h289 ⟨by omega, by omega⟩ ⟨by omega, by omega⟩
  · refine v_aload_n B dX12_takesNext_11 rfl rfl ?_
    refine u_get B Z (C := RX12) (T := TX12) (N := 123) (ci := 12) hi_M_takesNext_X12 Y.o h6 rfl 54 (by decide +kernel) (List.mem_of_getElem? (i := 3) rfl) rfl dX12_takesNext_12 ?_
    refine v_iload_n B dX12_takesNext_15 rfl rfl ?_
    refine v_iconst B (v := iI 3) dX12_takesNext_16 rfl ?_
    obtain ⟨f290, h291, e292⟩ := ga_54 G0.t
    refine u_iast B Z (t0 := 0) (x := iI 3) (ym_54 Y) h291 rfl (by omega) dX12_takesNext_17 (fun σ293 h294 n295 => ?_)
    have e296 := el_upd (z := 3) e292 ⟨by omega, by omega⟩ (d : Int).toNat
    have F297 := F0.put (ym_54 Y) (by simp) n295
    have G298 := gp_54 Y G0 ⟨_, h294, e296⟩ n295
    refine v_aload_n B dX12_takesNext_18 rfl rfl ?_
    have h299 := (n295 h (ne_ty Y.o (ym_54 Y) (by decide))).trans (h6)
    refine u_get B Z (C := RX12) (T := TX12) (N := 123) (ci := 12) hi_M_takesNext_X12 Y.o h299 rfl 67 (by decide +kernel) (List.mem_of_getElem? (i := 45) rfl) rfl dX12_takesNext_19 ?_
    refine v_bipush B (v := iI 6) dX12_takesNext_22 (by decide +kernel) ?_
    refine v_iload_n B dX12_takesNext_24 rfl rfl ?_
    refine v_imul B (v := iI (6 * d)) dX12_takesNext_25 ((iI_mul _ _).trans (congrArg iI (by omega))) ?_
    obtain ⟨f300, h301, e302⟩ := ga_67 G298.t
    obtain ⟨z303, e304, r305⟩ := e302 ((6 * d) : Int).toNat
    refine u_iald B Z (t0 := 0) (ym_67 Y) h301 rfl (by omega) e304 dX12_takesNext_26 ?_
    refine v_istore_n B (lv' := [(2, .int (iI z303)), (0, .ref h), (1, .int (iI d))]) dX12_takesNext_27 rfl (by decide +kernel) rfl ?_
    refine v_aload_n B dX12_takesNext_28 rfl rfl ?_
    refine u_get B Z (C := RX12) (T := TX12) (N := 123) (ci := 12) hi_M_takesNext_X12 Y.o h299 rfl 61 (by decide +kernel) (List.mem_of_getElem? (i := 44) rfl) rfl dX12_takesNext_29 ?_
    refine v_bipush B (v := iI 96) dX12_takesNext_32 (by decide +kernel) ?_
    refine v_iload_n B dX12_takesNext_34 rfl rfl ?_
    refine v_imul B (v := iI (96 * d)) dX12_takesNext_35 ((iI_mul _ _).trans (congrArg iI (by omega))) ?_
    refine v_aload_n B dX12_takesNext_36 rfl rfl ?_
    refine u_get B Z (C := RX12) (T := TX12) (N := 123) (ci := 12) hi_M_takesNext_X12 Y.o h299 rfl 60 (by decide +kernel) (List.mem_of_getElem? (i := 1) rfl) rfl dX12_takesNext_37 ?_
    refine v_bipush B (v := iI 40) dX12_takesNext_40 (by decide +kernel) ?_
    refine v_iload_n B dX12_takesNext_42 rfl rfl ?_
    refine v_imul B (v := iI (40 * d)) dX12_takesNext_43 ((iI_mul _ _).trans (congrArg iI (by omega))) ?_
    refine v_iload_n B dX12_takesNext_44 rfl rfl ?_
    refine u_callSv B Z hz (n := 5) (As := [.ref (q 61), .int (iI (96 * d)), .ref (q 60), .int (iI (40 * d)), .int (iI z303)]) (rest := []) (c_M_copy l D K Z _ _ _ _ h q Y 61 192 (96 * d) 60 80 (40 * d) z303 rfl ⟨by omega, by omega⟩ rfl ⟨by omega, by omega⟩ ⟨by omega, by omega⟩ σ293 G298 (by omega)) gd_M_takesNext_M_copy_29 rfl rfl rfl (by decide +kernel) ⟨Nat.le_trans (by decide +kernel) hR.1, Nat.le_trans (by decide +kernel) hR.2⟩ rfl rfl (Nat.le_of_ble_eq_true rfl) dX12_takesNext_45 ⟨Nat.zero_le _, Nat.zero_le _⟩ (fun σ306 p307 => ?_)
    obtain ⟨G309, F310⟩ := p307
    have F311 := F297.call F310 (by first | rfl | simp)
    refine v_aload_n B dX12_takesNext_48 rfl rfl ?_
    have h312 := (F310 h _ Y.o (by first | rfl | simp)).trans (h299)
    refine u_get B Z (C := RX12) (T := TX12) (N := 123) (ci := 12) hi_M_takesNext_X12 Y.o h312 rfl 56 (by decide +kernel) (List.mem_of_getElem? (i := 42) rfl) rfl dX12_takesNext_49 ?_
    refine v_iload_n B dX12_takesNext_52 rfl rfl ?_
    refine v_aload_n B dX12_takesNext_53 rfl rfl ?_
    refine u_get B Z (C := RX12) (T := TX12) (N := 123) (ci := 12) hi_M_takesNext_X12 Y.o h312 rfl 60 (by decide +kernel) (List.mem_of_getElem? (i := 1) rfl) rfl dX12_takesNext_54 ?_
    refine v_bipush B (v := iI 40) dX12_takesNext_57 (by decide +kernel) ?_
    refine v_iload_n B dX12_takesNext_59 rfl rfl ?_
    refine v_imul B (v := iI (40 * d)) dX12_takesNext_60 ((iI_mul _ _).trans (congrArg iI (by omega))) ?_
    obtain ⟨f313, h314, e315⟩ := ga_60 G309.t
    obtain ⟨z316, e317, r318⟩ := e315 ((40 * d) : Int).toNat
    refine u_bald B Z (t0 := 2) (ym_60 Y) h314 rfl (by omega) e317 dX12_takesNext_61 ?_
    refine v_sipush B (v := iI 255) dX12_takesNext_62 (by decide +kernel) ?_
    obtain ⟨z319, e320, r321⟩ := iI_and z316 (c := 255) (by decide) (by decide)
    refine v_iand B (v := iI z319) dX12_takesNext_65 e320 ?_
    obtain ⟨f322, h323, e324⟩ := ga_56 G309.t
    refine u_iast B Z (t0 := 0) (x := iI z319) (ym_56 Y) h323 rfl (by omega) dX12_takesNext_66 (fun σ325 h326 n327 => ?_)
    have e328 := el_upd (z := z319) e324 ⟨by omega, by omega⟩ (d : Int).toNat
    have F329 := F311.put (ym_56 Y) (by simp) n327
    have G330 := gp_56 Y G309 ⟨_, h326, e328⟩ n327
    refine v_aload_n B dX12_takesNext_67 rfl rfl ?_
    have h331 := (n327 h (ne_ty Y.o (ym_56 Y) (by decide))).trans (h312)
    refine u_get B Z (C := RX12) (T := TX12) (N := 123) (ci := 12) hi_M_takesNext_X12 Y.o h331 rfl 57 (by decide +kernel) (List.mem_of_getElem? (i := 43) rfl) rfl dX12_takesNext_68 ?_
    refine v_iload_n B dX12_takesNext_71 rfl rfl ?_
    refine v_dup2 B dX12_takesNext_72 rfl rfl ?_
    have h332 := (n327 (q 57) (ne_ty (ym_57 Y) (ym_56 Y) (by decide))).trans ((F310 (q 57) _ (ym_57 Y) (by first | rfl | simp)).trans ((n295 (q 57) (ne_ty (ym_57 Y) (ym_54 Y) (by decide))).trans (h164)))
    refine u_iald B Z (t0 := 0) (ym_57 Y) h332 rfl (by omega) e167 dX12_takesNext_73 ?_
    refine v_iconst B (v := iI 1) dX12_takesNext_74 rfl ?_
    refine v_isub B (v := iI (z166 + (-1))) dX12_takesNext_75 ((iI_sub _ _).trans (congrArg iI (by omega))) ?_
    refine u_iast B Z (t0 := 0) (x := iI (z166 + (-1))) (ym_57 Y) h332 rfl (by omega) dX12_takesNext_76 (fun σ333 h334 n335 => ?_)
    have e336 := el_upd (z := (z166 + (-1))) e165 ⟨by omega, by omega⟩ (d : Int).toNat
    have F337 := F329.put (ym_57 Y) (by simp) n335
    have G338 := gp_57 Y G330 ⟨_, h334, e336⟩ n335
    refine v_iconst B (v := iI 0) dX12_takesNext_77 rfl ?_
    refine v_istore_n B (lv' := [(3, .int (iI 0)), (2, .int (iI z303)), (0, .ref h), (1, .int (iI d))]) dX12_takesNext_78 rfl (by decide +kernel) rfl ?_
    refine v_lv [2, 3, 1, 0] rfl ?_
    have h339 := (n335 (q 84) (ne_ty (ym_84 Y) (ym_57 Y) (by decide))).trans ((n327 (q 84) (ne_ty (ym_84 Y) (ym_56 Y) (by decide))).trans ((F310 (q 84) _ (ym_84 Y) (by first | rfl | simp)).trans ((n295 (q 84) (ne_ty (ym_84 Y) (ym_54 Y) (by decide))).trans (h19))))
    have h340 := (n335 (q 85) (ne_ty (ym_85 Y) (ym_57 Y) (by decide))).trans ((n327 (q 85) (ne_ty (ym_85 Y) (ym_56 Y) (by decide))).trans ((F310 (q 85) _ (ym_85 Y) (by first | rfl | simp)).trans ((n295 (q 85) (ne_ty (ym_85 Y) (ym_54 Y) (by decide))).trans (h13))))
    have h341 := (n335 (q 86) (ne_ty (ym_86 Y) (ym_57 Y) (by decide))).trans ((n327 (q 86) (ne_ty (ym_86 Y) (ym_56 Y) (by decide))).trans ((F310 (q 86) _ (ym_86 Y) (by first | rfl | simp)).trans ((n295 (q 86) (ne_ty (ym_86 Y) (ym_54 Y) (by decide))).trans (h16))))
    have h342 := (n335 h (ne_ty Y.o (ym_57 Y) (by decide))).trans (h331)
    exact J79 _ σ333 z303 0 (Nat.le_refl _) G338 F337 h339 h340 h341 h342 ⟨by omega, by omega⟩ ⟨by omega, by omega⟩ ((At.mk h334 upd_s (by omega) ⟨by omega, by omega⟩))
set_option maxRecDepth 100000 in
theorem c_M_takesNext (l : Launch) (D : va_G) (K : Nat → ClassId) {τ : Nat → Option Ty} {dom : List Nat} (Z : Sk τ dom) (zb zL : Nat) (zx : Nat → Int32) (zs : Nat → Nat) (h : Nat) (q : Nat → Nat) (Y : MS τ h q) (d : Int) (r_d : 0 ≤ d ∧ d ≤ 1) (σ0 : Nat → va_E) (G0 : GM K h q σ0) : MZ l yX12_takesNext wp_M_takesNext ({ frames := 3, cells := 0, slots := 0, locals := 86 }) D (tysA K) [.ref h, .int (iI d)] (fd dom σ0) zb zL zx zs (Qv D (fun σ' => GM K h q σ' ∧ Fr τ [(154, 0), (156, 0), (160, 0), (186, 0), (185, 0), (182, 0), (184, 0), (157, 0), (161, 0), (167, 0), (155, 0), (177, 0), (104, 0), (105, 0), (106, 0), (178, 0), (179, 0), (158, 0)] σ0 σ') (fun σ' => fd dom σ')) 0 0 := by
  refine mz_of (cc := cX12_takesNext) (maxL := 4) (ret := none) (by decide +kernel) rfl (Nat.le_of_ble_eq_true rfl) ?_
  intro p e s m below meth c A B hr hlk _ hz
  exact b_M_takesNext ⟨Nat.le_refl _, Nat.le_refl _⟩ B Z hz h q Y d r_d σ0 G0 (fun σ' lv pc G F hd => v_vret B hr hlk σ' ⟨G, F⟩ rfl (Nat.le_refl _) (Nat.le_refl _) hd)

def wp_M_sendsLink : List Cond := .code yX12_sendsLink cX12_sendsLink 2 (some .int) :: (([.fieldLink RX12 200 "LowEnergyModel" "current" "[B", .fieldLink RX12 176 "LowEnergyModel" "sending" "[B", .fieldLink RX12 185 "LowEnergyModel" "currentMany" "[I", .methodLink RX12 29 yX12_copy, .static yX12_copy, .initialized RX12, .code yX12_copy cX12_copy 6 none, .fieldLink RX12 142 "LowEnergyModel" "access" "[B", .fieldLink RX12 109 "LowEnergyModel" "init" "[I", .fieldLink RX12 118 "LowEnergyModel" "channel" "[I", .fieldLink RX12 182 "LowEnergyModel" "currentSort" "[I", .fieldLink RX12 127 "LowEnergyModel" "nesn" "[I", .fieldLink RX12 124 "LowEnergyModel" "sn" "[I", .methodLink RX12 466 yX12_sends, .instanceMethod yX12_sends, .selects RX12 yX12_sends yX12_sends, .code yX12_sends cX12_sends 11 (some .int), .fieldLink RX12 164 "LowEnergyModel" "air" "[B", .fieldLink RX12 94 "LowEnergyModel" "lost" "[I", .fieldLink RX12 97 "LowEnergyModel" "noises" "[I", .fieldLink RX12 429 "LowEnergyModel" "packets" "I", .fieldLink RX12 167 "LowEnergyModel" "airMany" "[I", .fieldLink RX12 170 "LowEnergyModel" "airChannel" "[I", .fieldLink RX12 173 "LowEnergyModel" "airLost" "[Z", .fieldLink RX12 100 "LowEnergyModel" "noise" "[I", .methodLink RX12 425 yX12_whiten, .static yX12_whiten, .code yX12_whiten cX12_whiten 7 none, .methodLink RX12 422 yX12_crcByte, .static yX12_crcByte, .code yX12_crcByte cX12_crcByte 4 (some .int), .methodLink RX12 418 yX12_crc, .static yX12_crc, .code yX12_crc cX12_crc 7 (some .int), .constant RX12 417 (16777215), .methodLink RX12 463 yX12_takesNext, .instanceMethod yX12_takesNext, .selects RX12 yX12_takesNext yX12_takesNext, .code yX12_takesNext cX12_takesNext 4 none, .fieldLink RX12 194 "LowEnergyModel" "out" "[I", .methodLink RX12 451 yX12_macs, .instanceMethod yX12_macs, .selects RX12 yX12_macs yX12_macs, .code yX12_macs cX12_macs 10 none, .fieldLink RX12 254 "LowEnergyModel" "mac" "[B", .fieldLink RX12 257 "LowEnergyModel" "stream" "[B", .fieldLink RX12 209 "LowEnergyModel" "session" "[B", .methodLink RX12 444 yX12_e, .instanceMethod yX12_e, .selects RX12 yX12_e yX12_e, .code yX12_e cX12_e 13 none, .fieldLink RX12 33 "LowEnergyModel" "cells" "[B", .fieldLink RX12 26 "LowEnergyModel" "round" "[B", .fieldLink RX12 36 "LowEnergyModel" "moved" "[B", .methodLink RX12 14 yX12_twice, .static yX12_twice, .code yX12_twice cX12_twice 1 (some .int), .fieldLink RX12 22 "LowEnergyModel" "box" "[I", .methodLink RX12 440 yX12_nonce, .instanceMethod yX12_nonce, .selects RX12 yX12_nonce yX12_nonce, .code yX12_nonce cX12_nonce 7 none, .fieldLink RX12 251 "LowEnergyModel" "block" "[B", .methodLink RX12 432 yX12_number, .static yX12_number, .code yX12_number cX12_number 6 none, .fieldLink RX12 212 "LowEnergyModel" "iv" "[B", .methodLink RX12 455 yX12_turns, .instanceMethod yX12_turns, .selects RX12 yX12_turns yX12_turns, .code yX12_turns cX12_turns 9 none, .fieldLink RX12 233 "LowEnergyModel" "sealsOut" "[Z", .fieldLink RX12 45 "LowEnergyModel" "state" "[I", .fieldLink RX12 188 "LowEnergyModel" "currentOp" "[I", .fieldLink RX12 191 "LowEnergyModel" "controls" "[I", .fieldLink RX12 203 "LowEnergyModel" "control" "[B", .fieldLink RX12 221 "LowEnergyModel" "controlMany" "[I", .fieldLink RX12 224 "LowEnergyModel" "held" "[Z", .fieldLink RX12 275 "LowEnergyModel" "messages" "[I", .fieldLink RX12 272 "LowEnergyModel" "messageMany" "[I", .fieldLink RX12 278 "LowEnergyModel" "taken" "[I", .methodLink RX12 404 Lib.Math.min.name, .static Lib.Math.min.name, .initialized "java/lang/Math", .code Lib.Math.min.name Lib.Math.min.code 2 (some .int), .fieldLink RX12 266 "LowEnergyModel" "message" "[B", .methodLink RX12 448 yX12_drops, .instanceMethod yX12_drops, .selects RX12 yX12_drops yX12_drops, .code yX12_drops cX12_drops 4 none, .fieldLink RX12 136 "LowEnergyModel" "ending" "[I", .methodLink RX12 459 yX12_reasons, .instanceMethod yX12_reasons, .selects RX12 yX12_reasons yX12_reasons, .code yX12_reasons cX12_reasons 3 none, .fieldLink RX12 133 "LowEnergyModel" "reason" "[I"] : List Cond) ++ (wsX120 ++ ([])))
theorem hi_M_sendsLink_X12 : ∀ x ∈ u_ws RX12 TX12 123, x ∈ wp_M_sendsLink := fun _ h => List.mem_cons_of_mem _ (List.mem_append_right _ (List.mem_append_left _ h))
set_option maxRecDepth 100000 in
theorem gd_M_sendsLink_M_copy_29 : GoodIn wp_M_sendsLink (va_wsS RX12 29 yX12_copy wp_M_copy) := goodIn_app (goodIn_r _ [4, 5, 6] rfl rfl) (goodIn_ca (goodIn_r _ [7] rfl rfl) (goodIn_nil))
set_option maxRecDepth 100000 in
theorem gd_M_sendsLink_M_sends_466 : GoodIn wp_M_sendsLink (wsV RX12 466 RX12 yX12_sends wp_M_sends) := goodIn_app (goodIn_r _ [14, 15, 16, 6] rfl rfl) (goodIn_ca (goodIn_r _ [17, 2, 18, 4, 5, 6, 7, 19, 20, 21, 22, 23, 24, 25, 26, 27, 28, 29, 30, 31, 32, 33, 34, 35] rfl rfl) (goodIn_app (goodIn_cls hi_M_sendsLink_X12 gw_X12) (goodIn_nil)))
set_option maxRecDepth 100000 in
theorem gd_M_sendsLink_M_takesNext_463 : GoodIn wp_M_sendsLink (wsV RX12 463 RX12 yX12_takesNext wp_M_takesNext) := goodIn_app (goodIn_r _ [36, 37, 38, 6] rfl rfl) (goodIn_ca (goodIn_r _ [39, 1, 40, 11, 41, 42, 43, 6, 44, 45, 46, 47, 48, 49, 50, 51, 52, 53, 54, 55, 56, 57, 58, 4, 5, 7, 59, 60, 61, 62, 63, 64, 65, 66, 67, 68, 69, 70, 71, 3, 72, 73, 74, 75, 76, 77, 78, 79, 80, 81, 82, 83, 84, 85, 86, 87, 88, 89, 90] rfl rfl) (goodIn_app (goodIn_cls hi_M_sendsLink_X12 gw_X12) (goodIn_nil)))
set_option maxRecDepth 100000 in
theorem gd_M_sendsLink_M_reasons_459 : GoodIn wp_M_sendsLink (wsV RX12 459 RX12 yX12_reasons wp_M_reasons) := goodIn_app (goodIn_r _ [92, 93, 94, 6] rfl rfl) (goodIn_ca (goodIn_r _ [95, 96] rfl rfl) (goodIn_app (goodIn_cls hi_M_sendsLink_X12 gw_X12) (goodIn_nil)))
set_option maxHeartbeats 4000000 in
set_option maxRecDepth 100000 in
theorem b_M_sendsLink {p : Program} {l : Launch} {e : Env} {R : Room} {s : State} {m : MethodId} {args : Array Value} {below : List Frame} {meth : Method} {c : Code} {D : va_G} {K : Nat → ClassId} {A : Nat → Prop} {Q : State → Prop} {τ : Nat → Option Ty} {dom : List Nat} {zb zL : Nat} {zx : Nat → Int32} {zs : Nat → Nat} (hR : 4 ≤ R.frames ∧ 109 ≤ R.locals) (B : Bx p s m args c cX12_sendsLink 2 RX12 wp_M_sendsLink D (tysA K) A) (Z : Sk τ dom) (hz : ZL zb zL zx zs A s s.heap) (h : Nat) (q : Nat → Nat) (Y : MS τ h q) (d : Int) (P : Int) (r_d : 0 ≤ d ∧ d ≤ 1) (r_P : 0 ≤ P ∧ P ≤ 15) (σ0 : Nat → va_E) (G0 : GM K h q σ0) (hp : Fld σ0 h 12 51 (fun y => y = P)) (hend : ∀ (σ' : Nat → va_E) (z : Int) (lv : List (Nat × Value)) (pc : Nat), GM K h q σ' → Fr τ [(136, 0), (154, 0), (156, 0), (160, 0), (186, 0), (185, 0), (182, 0), (184, 0), (157, 0), (161, 0), (167, 0), (155, 0), (177, 0), (104, 0), (105, 0), (106, 0), (178, 0), (179, 0), (158, 0), (152, 0), (124, 0), (50, 0), (148, 0), (149, 0), (150, 0), (123, 0), (147, 0)] σ0 σ' → (0 ≤ z ∧ z ≤ 15) → (At σ' (q 48) z.toNat 9 40 ∧ Fld σ' h 12 51 (fun y => y = P + 1)) → decode cX12_sendsLink pc = .ok (.ireturn, 1) → V p l e R s m args below meth c 2 D A Q (0, 0) (fd dom σ') lv pc [.int (iI z)]) : V p l e R s m args below meth c 2 D A Q (0, 0) (fd dom σ0) [(0, .ref h), (1, .int (iI d))] 0 [] := by
  have F0 : Fr τ [(136, 0), (154, 0), (156, 0), (160, 0), (186, 0), (185, 0), (182, 0), (184, 0), (157, 0), (161, 0), (167, 0), (155, 0), (177, 0), (104, 0), (105, 0), (106, 0), (178, 0), (179, 0), (158, 0), (152, 0), (124, 0), (50, 0), (148, 0), (149, 0), (150, 0), (123, 0), (147, 0)] σ0 σ0 := Fr.rf
  obtain ⟨z1, z2, z3, z4, z5, h6, r7, r8, r9, r10, r11⟩ := G0.t.o
  have r12 : z4 = P := hp.use h6 (j := 51) rfl (by omega)
  have J35 : ∀ (σ_35 : Nat → va_E), GM K h q σ_35 → Fr τ [(136, 0), (154, 0), (156, 0), (160, 0), (186, 0), (185, 0), (182, 0), (184, 0), (157, 0), (161, 0), (167, 0), (155, 0), (177, 0), (104, 0), (105, 0), (106, 0), (178, 0), (179, 0), (158, 0), (152, 0), (124, 0), (50, 0), (148, 0), (149, 0), (150, 0), (123, 0), (147, 0)] σ0 σ_35 → (σ_35 h = .inr (12, fsM q (iI z1) (iI z2) (iI z3) (iI z4) (iI z5))) → V p l e R s m args below meth c 2 D A Q (0, 0) (fd dom σ_35) [(0, .ref h), (1, .int (iI d))] 35 [] := by
    intro σ_35 G_35 F_35 hc35_h
    refine v_aload_n B dX12_sendsLink_35 rfl rfl ?_
    refine u_get B Z (C := RX12) (T := TX12) (N := 123) (ci := 12) hi_M_sendsLink_X12 Y.o hc35_h rfl 60 (by decide +kernel) (List.mem_of_getElem? (i := 1) rfl) rfl dX12_sendsLink_36 ?_
    refine v_bipush B (v := iI 40) dX12_sendsLink_39 (by decide +kernel) ?_
    refine v_iload_n B dX12_sendsLink_41 rfl rfl ?_
    refine v_imul B (v := iI (40 * d)) dX12_sendsLink_42 ((iI_mul _ _).trans (congrArg iI (by omega))) ?_
    refine v_aload_n B dX12_sendsLink_43 rfl rfl ?_
    refine u_get B Z (C := RX12) (T := TX12) (N := 123) (ci := 12) hi_M_sendsLink_X12 Y.o hc35_h rfl 52 (by decide +kernel) (List.mem_of_getElem? (i := 2) rfl) rfl dX12_sendsLink_44 ?_
    refine v_bipush B (v := iI 6) dX12_sendsLink_47 (by decide +kernel) ?_
    refine v_aload_n B dX12_sendsLink_49 rfl rfl ?_
    refine u_get B Z (C := RX12) (T := TX12) (N := 123) (ci := 12) hi_M_sendsLink_X12 Y.o hc35_h rfl 55 (by decide +kernel) (List.mem_of_getElem? (i := 3) rfl) rfl dX12_sendsLink_50 ?_
    refine v_iload_n B dX12_sendsLink_53 rfl rfl ?_
    obtain ⟨f13, h14, e15⟩ := ga_55 G_35.t
    obtain ⟨z16, e17, r18⟩ := e15 (d : Int).toNat
    refine u_iald B Z (t0 := 0) (ym_55 Y) h14 rfl (by omega) e17 dX12_sendsLink_54 ?_
    refine u_callSv B Z hz (n := 5) (As := [.ref (q 60), .int (iI (40 * d)), .ref (q 52), .int (iI 6), .int (iI z16)]) (rest := []) (c_M_copy l D K Z _ _ _ _ h q Y 60 80 (40 * d) 52 40 6 z16 rfl ⟨by omega, by omega⟩ rfl ⟨by omega, by omega⟩ ⟨by omega, by omega⟩ σ_35 G_35 (by omega)) gd_M_sendsLink_M_copy_29 rfl rfl rfl (by decide +kernel) ⟨Nat.le_trans (by decide +kernel) hR.1, Nat.le_trans (by decide +kernel) hR.2⟩ rfl rfl (Nat.le_of_ble_eq_true rfl) dX12_sendsLink_55 ⟨Nat.zero_le _, Nat.zero_le _⟩ (fun σ19 p20 => ?_)
    obtain ⟨G22, F23⟩ := p20
    have F24 := F_35.call F23 (by first | rfl | simp)
    refine v_aload_n B dX12_sendsLink_58 rfl rfl ?_
    refine v_iload_n B dX12_sendsLink_59 rfl rfl ?_
    refine v_aload_n B dX12_sendsLink_60 rfl rfl ?_
    have h25 := (F23 h _ Y.o (by first | rfl | simp)).trans (hc35_h)
    refine u_get B Z (C := RX12) (T := TX12) (N := 123) (ci := 12) hi_M_sendsLink_X12 Y.o h25 rfl 39 (by decide +kernel) (List.mem_of_getElem? (i := 8) rfl) rfl dX12_sendsLink_61 ?_
    refine v_iconst B (v := iI 4) dX12_sendsLink_64 rfl ?_
    refine v_iload_n B dX12_sendsLink_65 rfl rfl ?_
    refine v_imul B (v := iI (4 * d)) dX12_sendsLink_66 ((iI_mul _ _).trans (congrArg iI (by omega))) ?_
    refine v_aload_n B dX12_sendsLink_67 rfl rfl ?_
    refine u_get B Z (C := RX12) (T := TX12) (N := 123) (ci := 12) hi_M_sendsLink_X12 Y.o h25 rfl 28 (by decide +kernel) (List.mem_of_getElem? (i := 9) rfl) rfl dX12_sendsLink_68 ?_
    refine v_iload_n B dX12_sendsLink_71 rfl rfl ?_
    obtain ⟨f26, h27, e28⟩ := ga_28 G22.t
    obtain ⟨z29, e30, r31⟩ := e28 (d : Int).toNat
    refine u_iald B Z (t0 := 0) (ym_28 Y) h27 rfl (by omega) e30 dX12_sendsLink_72 ?_
    refine v_aload_n B dX12_sendsLink_73 rfl rfl ?_
    refine u_get B Z (C := RX12) (T := TX12) (N := 123) (ci := 12) hi_M_sendsLink_X12 Y.o h25 rfl 31 (by decide +kernel) (List.mem_of_getElem? (i := 10) rfl) rfl dX12_sendsLink_74 ?_
    refine v_iload_n B dX12_sendsLink_77 rfl rfl ?_
    obtain ⟨f32, h33, e34⟩ := ga_31 G22.t
    obtain ⟨z35, e36, r37⟩ := e34 (d : Int).toNat
    refine u_iald B Z (t0 := 0) (ym_31 Y) h33 rfl (by omega) e36 dX12_sendsLink_78 ?_
    refine v_aload_n B dX12_sendsLink_79 rfl rfl ?_
    refine u_get B Z (C := RX12) (T := TX12) (N := 123) (ci := 12) hi_M_sendsLink_X12 Y.o h25 rfl 54 (by decide +kernel) (List.mem_of_getElem? (i := 11) rfl) rfl dX12_sendsLink_80 ?_
    refine v_iload_n B dX12_sendsLink_83 rfl rfl ?_
    obtain ⟨f38, h39, e40⟩ := ga_54 G22.t
    obtain ⟨z41, e42, r43⟩ := e40 (d : Int).toNat
    refine u_iald B Z (t0 := 0) (ym_54 Y) h39 rfl (by omega) e42 dX12_sendsLink_84 ?_
    refine v_aload_n B dX12_sendsLink_85 rfl rfl ?_
    refine u_get B Z (C := RX12) (T := TX12) (N := 123) (ci := 12) hi_M_sendsLink_X12 Y.o h25 rfl 34 (by decide +kernel) (List.mem_of_getElem? (i := 12) rfl) rfl dX12_sendsLink_86 ?_
    refine v_iload_n B dX12_sendsLink_89 rfl rfl ?_
    obtain ⟨f44, h45, e46⟩ := ga_34 G22.t
    obtain ⟨z47, e48, r49⟩ := e46 (d : Int).toNat
    refine u_iald B Z (t0 := 0) (ym_34 Y) h45 rfl (by omega) e48 dX12_sendsLink_90 ?_
    refine v_iconst B (v := iI 2) dX12_sendsLink_91 rfl ?_
    obtain ⟨z50, e51, r52⟩ := iI_any (iI z47 <<< (iI 2 &&& 31))
    refine v_ishl B (v := iI z50) dX12_sendsLink_92 e51 ?_
    obtain ⟨z53, e54, r55⟩ := iI_any (iI z41 ||| iI z50)
    refine v_ior B (v := iI z53) dX12_sendsLink_93 e54 ?_
    refine v_aload_n B dX12_sendsLink_94 rfl rfl ?_
    refine u_get B Z (C := RX12) (T := TX12) (N := 123) (ci := 12) hi_M_sendsLink_X12 Y.o h25 rfl 33 (by decide +kernel) (List.mem_of_getElem? (i := 13) rfl) rfl dX12_sendsLink_95 ?_
    refine v_iload_n B dX12_sendsLink_98 rfl rfl ?_
    obtain ⟨f56, h57, e58⟩ := ga_33 G22.t
    obtain ⟨z59, e60, r61⟩ := e58 (d : Int).toNat
    refine u_iald B Z (t0 := 0) (ym_33 Y) h57 rfl (by omega) e60 dX12_sendsLink_99 ?_
    refine v_iconst B (v := iI 3) dX12_sendsLink_100 rfl ?_
    obtain ⟨z62, e63, r64⟩ := iI_any (iI z59 <<< (iI 3 &&& 31))
    refine v_ishl B (v := iI z62) dX12_sendsLink_101 e63 ?_
    obtain ⟨z65, e66, r67⟩ := iI_any (iI z53 ||| iI z62)
    refine v_ior B (v := iI z65) dX12_sendsLink_102 e66 ?_
    refine v_aload_n B dX12_sendsLink_103 rfl rfl ?_
    refine u_get B Z (C := RX12) (T := TX12) (N := 123) (ci := 12) hi_M_sendsLink_X12 Y.o h25 rfl 55 (by decide +kernel) (List.mem_of_getElem? (i := 3) rfl) rfl dX12_sendsLink_104 ?_
    refine v_iload_n B dX12_sendsLink_107 rfl rfl ?_
    have h68 := (F23 (q 55) _ (ym_55 Y) (by first | rfl | simp)).trans (h14)
    refine u_iald B Z (t0 := 0) (ym_55 Y) h68 rfl (by omega) e17 dX12_sendsLink_108 ?_
    refine u_callVi B Z hz (n := 7) (As := [.int (iI d), .ref (q 39), .int (iI (4 * d)), .int (iI z29), .int (iI z35), .int (iI z65), .int (iI z16)]) (rest := []) (c_M_sends l D K Z _ _ _ _ h q Y d 39 8 (4 * d) z29 z35 z65 z16 z4 ⟨by omega, by omega⟩ rfl ⟨by omega, by omega⟩ ⟨by omega, by omega⟩ ⟨by omega, by omega⟩ ⟨by omega, by omega⟩ ⟨by omega, by omega⟩ ⟨by omega, by omega⟩ σ19 G22 (by omega) (Fld.mk h25 (j := 51) rfl (by omega) rfl)) gd_M_sendsLink_M_sends_466 rfl rfl rfl (by decide +kernel) ⟨Nat.le_trans (by decide +kernel) hR.1, Nat.le_trans (by decide +kernel) hR.2⟩ Y.o (clsM G22.t) rfl rfl rfl rfl (Nat.le_of_ble_eq_true rfl) dX12_sendsLink_109 ⟨Nat.zero_le _, Nat.zero_le _⟩ (fun v71 σ69 p70 => ?_)
    obtain ⟨G77, F78, z72, e73, r74, po75, po76⟩ := p70
    subst e73
    have F79 := F24.call F78 (by first | rfl | simp)
    obtain ⟨z80, z81, z82, z83, z84, h85, r86, r87, r88, r89, r90⟩ := G77.t.o
    have r91 : z83 = z4 + 1 := po76.use h85 (j := 51) rfl (by omega)
    obtain ⟨f92, h93, e94⟩ := ga_48 G77.t
    obtain ⟨z95, e96, r97⟩ := e94 (z72 : Int).toNat
    have r98 := po75.use h93 e96 (by omega)
    exact hend σ69 z72 _ _ G77 F79 ⟨by omega, by omega⟩ ⟨(At.mk h93 e96 (by omega) ⟨by omega, by omega⟩), (Fld.mk h85 (j := 51) rfl (by omega) (show z83 = P + 1 from by omega))⟩ dX12_sendsLink_112
  have J21 : ∀ (σ_21 : Nat → va_E), GM K h q σ_21 → Fr τ [(136, 0), (154, 0), (156, 0), (160, 0), (186, 0), (185, 0), (182, 0), (184, 0), (157, 0), (161, 0), (167, 0), (155, 0), (177, 0), (104, 0), (105, 0), (106, 0), (178, 0), (179, 0), (158, 0), (152, 0), (124, 0), (50, 0), (148, 0), (149, 0), (150, 0), (123, 0), (147, 0)] σ0 σ_21 → (σ_21 h = .inr (12, fsM q (iI z1) (iI z2) (iI z3) (iI z4) (iI z5))) → V p l e R s m args below meth c 2 D A Q (0, 0) (fd dom σ_21) [(0, .ref h), (1, .int (iI d))] 21 [] := by
    intro σ_21 G_21 F_21 hc21_h
    refine v_aload_n B dX12_sendsLink_21 rfl rfl ?_
    refine u_get B Z (C := RX12) (T := TX12) (N := 123) (ci := 12) hi_M_sendsLink_X12 Y.o hc21_h rfl 54 (by decide +kernel) (List.mem_of_getElem? (i := 11) rfl) rfl dX12_sendsLink_22 ?_
    refine v_iload_n B dX12_sendsLink_25 rfl rfl ?_
    obtain ⟨f99, h100, e101⟩ := ga_54 G_21.t
    obtain ⟨z102, e103, r104⟩ := e101 (d : Int).toNat
    refine u_iald B Z (t0 := 0) (ym_54 Y) h100 rfl (by omega) e103 dX12_sendsLink_26 ?_
    refine u_if_ne B (tgt := 35) (by omega) dX12_sendsLink_27 (by decide +kernel) (fun c105 => ?_) (fun c105 => ?_)
    · exact J35 σ_21 G_21 F_21 hc21_h
    · refine v_aload_n B dX12_sendsLink_30 rfl rfl ?_
      refine v_iload_n B dX12_sendsLink_31 rfl rfl ?_
      refine u_callVv B Z hz (n := 1) (As := [.int (iI d)]) (rest := []) (c_M_takesNext l D K Z _ _ _ _ h q Y d ⟨by omega, by omega⟩ σ_21 G_21) gd_M_sendsLink_M_takesNext_463 rfl rfl rfl (by decide +kernel) ⟨Nat.le_trans (by decide +kernel) hR.1, Nat.le_trans (by decide +kernel) hR.2⟩ Y.o (clsM G_21.t) rfl rfl rfl rfl (Nat.le_of_ble_eq_true rfl) dX12_sendsLink_32 ⟨Nat.zero_le _, Nat.zero_le _⟩ (fun σ106 p107 => ?_)
      obtain ⟨G109, F110⟩ := p107
      have F111 := F_21.call F110 (by first | rfl | simp)
      have h112 := (F110 h _ Y.o (by first | rfl | simp)).trans (hc21_h)
      exact J35 σ106 G109 F111 h112
  refine v_aload_n B dX12_sendsLink_0 rfl rfl ?_
  refine u_get B Z (C := RX12) (T := TX12) (N := 123) (ci := 12) hi_M_sendsLink_X12 Y.o h6 rfl 37 (by decide +kernel) (List.mem_of_getElem? (i := 91) rfl) rfl dX12_sendsLink_1 ?_
  refine v_iload_n B dX12_sendsLink_4 rfl rfl ?_
  obtain ⟨f113, h114, e115⟩ := ga_37 G0.t
  obtain ⟨z116, e117, r118⟩ := e115 (d : Int).toNat
  refine u_iald B Z (t0 := 0) (ym_37 Y) h114 rfl (by omega) e117 dX12_sendsLink_5 ?_
  refine v_iconst B (v := iI (-1)) dX12_sendsLink_6 rfl ?_
  refine u_icmp_eq B (tgt := 21) (by omega) (by omega) dX12_sendsLink_7 (by decide +kernel) (fun c119 => ?_) (fun c119 => ?_)
  · exact J21 σ0 G0 F0 h6
  · refine v_aload_n B dX12_sendsLink_10 rfl rfl ?_
    refine v_iload_n B dX12_sendsLink_11 rfl rfl ?_
    refine v_aload_n B dX12_sendsLink_12 rfl rfl ?_
    refine u_get B Z (C := RX12) (T := TX12) (N := 123) (ci := 12) hi_M_sendsLink_X12 Y.o h6 rfl 37 (by decide +kernel) (List.mem_of_getElem? (i := 91) rfl) rfl dX12_sendsLink_13 ?_
    refine v_iload_n B dX12_sendsLink_16 rfl rfl ?_
    refine u_iald B Z (t0 := 0) (ym_37 Y) h114 rfl (by omega) e117 dX12_sendsLink_17 ?_
    refine u_callVv B Z hz (n := 2) (As := [.int (iI d), .int (iI z116)]) (rest := []) (c_M_reasons l D K Z _ _ _ _ h q Y d z116 ⟨by omega, by omega⟩ ⟨by omega, by omega⟩ σ0 G0) gd_M_sendsLink_M_reasons_459 rfl rfl rfl (by decide +kernel) ⟨Nat.le_trans (by decide +kernel) hR.1, Nat.le_trans (by decide +kernel) hR.2⟩ Y.o (clsM G0.t) rfl rfl rfl rfl (Nat.le_of_ble_eq_true rfl) dX12_sendsLink_18 ⟨Nat.zero_le _, Nat.zero_le _⟩ (fun σ120 p121 => ?_)
    obtain ⟨G123, F124⟩ := p121
    have F125 := F0.call F124 (by first | rfl | simp)
    have h126 := (F124 h _ Y.o (by first | rfl | simp)).trans (h6)
    exact J21 σ120 G123 F125 h126
set_option maxRecDepth 100000 in
theorem c_M_sendsLink (l : Launch) (D : va_G) (K : Nat → ClassId) {τ : Nat → Option Ty} {dom : List Nat} (Z : Sk τ dom) (zb zL : Nat) (zx : Nat → Int32) (zs : Nat → Nat) (h : Nat) (q : Nat → Nat) (Y : MS τ h q) (d : Int) (P : Int) (r_d : 0 ≤ d ∧ d ≤ 1) (r_P : 0 ≤ P ∧ P ≤ 15) (σ0 : Nat → va_E) (G0 : GM K h q σ0) (hp : Fld σ0 h 12 51 (fun y => y = P)) : MZ l yX12_sendsLink wp_M_sendsLink ({ frames := 4, cells := 0, slots := 0, locals := 109 }) D (tysA K) [.ref h, .int (iI d)] (fd dom σ0) zb zL zx zs (Qi D (fun r σ' => GM K h q σ' ∧ Fr τ [(136, 0), (154, 0), (156, 0), (160, 0), (186, 0), (185, 0), (182, 0), (184, 0), (157, 0), (161, 0), (167, 0), (155, 0), (177, 0), (104, 0), (105, 0), (106, 0), (178, 0), (179, 0), (158, 0), (152, 0), (124, 0), (50, 0), (148, 0), (149, 0), (150, 0), (123, 0), (147, 0)] σ0 σ' ∧ ∃ z : Int, r = iI z ∧ (0 ≤ z ∧ z ≤ 15) ∧ (At σ' (q 48) z.toNat 9 40 ∧ Fld σ' h 12 51 (fun y => y = P + 1))) (fun σ' => fd dom σ')) 0 0 := by
  refine mz_of (cc := cX12_sendsLink) (maxL := 2) (ret := (some .int)) (by decide +kernel) rfl (Nat.le_of_ble_eq_true rfl) ?_
  intro p e s m below meth c A B hr hlk _ hz
  exact b_M_sendsLink ⟨Nat.le_refl _, Nat.le_refl _⟩ B Z hz h q Y d P r_d r_P σ0 G0 hp (fun σ' z lv pc G F hZ hP hd => v_iret B hr hlk σ' ⟨G, F, z, rfl, hZ, hP⟩ rfl (Nat.le_refl _) (Nat.le_refl _) hd)
