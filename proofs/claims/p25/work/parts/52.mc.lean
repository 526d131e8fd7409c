def wp_M_fillBox : List Cond := .code yX12_fillBox cX12_fillBox 5 none :: (([.fieldLink RX12 22 "LowEnergyModel" "box" "[I", .methodLink RX12 18 yX12_times, .static yX12_times, .initialized RX12, .code yX12_times cX12_times 5 (some .int), .methodLink RX12 14 yX12_twice, .static yX12_twice, .code yX12_twice cX12_twice 1 (some .int)] : List Cond) ++ (wsX120 ++ ([])))
theorem hi_M_fillBox_X12 : ∀ x ∈ u_ws RX12 TX12 123, x ∈ wp_M_fillBox := fun _ h => List.mem_cons_of_mem _ (List.mem_append_right _ (List.mem_append_left _ h))
set_option maxRecDepth 100000 in
theorem gd_M_fillBox_M_times_18 : GoodIn wp_M_fillBox (va_wsS RX12 18 yX12_times wp_M_times) := goodIn_app (goodIn_r _ [2, 3, 4] rfl rfl) (goodIn_ca (goodIn_r _ [5, 6, 7, 4, 8] rfl rfl) (goodIn_nil))
set_option maxHeartbeats 4000000 in
set_option maxRecDepth 100000 in
theorem b_M_fillBox {p : Program} {l : Launch} {e : Env} {R : Room} {s : State} {m : MethodId} {args : Array Value} {below : List Frame} {meth : Method} {c : Code} {D : va_G} {K : Nat → ClassId} {A : Nat → Prop} {Q : State → Prop} {τ : Nat → Option Ty} {dom : List Nat} {zb zL : Nat} {zx : Nat → Int32} {zs : Nat → Nat} (hR : 2 ≤ R.frames ∧ 44 ≤ R.locals) (B : Bx p s m args c cX12_fillBox 5 RX12 wp_M_fillBox D (tysA K) A) (Z : Sk τ dom) (hz : ZL zb zL zx zs A s s.heap) (h : Nat) (q : Nat → Nat) (Y : MS τ h q)   (σ0 : Nat → va_E) (G0 : GM K h q σ0) (hend : ∀ (σ' : Nat → va_E) (lv : List (Nat × Value)) (pc : Nat), GM K h q σ' → Fr τ [(103, 0)] σ0 σ' → decode cX12_fillBox pc = .ok (.return_, 1) → V p l e R s m args below meth c 5 D A Q (0, 0) (fd dom σ') lv pc []) : V p l e R s m args below meth c 5 D A Q (0, 0) (fd dom σ0) [(0, .ref h)] 0 [] := by
  have F0 : Fr τ [(103, 0)] σ0 σ0 := Fr.rf
  obtain ⟨z1, z2, z3, z4, z5, h6, r7, r8, r9, r10, r11⟩ := G0.t.o
  have J2 : ∀ (k2 : Nat) (σ_2 : Nat → va_E) (z2_1 : Int), (2147483648 - z2_1).toNat ≤ k2 → GM K h q σ_2 → Fr τ [(103, 0)] σ0 σ_2 → (σ_2 h = .inr (12, fsM q (iI z1) (iI z2) (iI z3) (iI z4) (iI z5))) → (0 ≤ z2_1 ∧ z2_1 ≤ 256) → V p l e R s m args below meth c 5 D A Q (0, 0) (fd dom σ_2) [(0, .ref h), (1, .int (iI z2_1))] 2 [] := by
    intro k2
    induction k2 with
    | zero => intro σ_2 z2_1 m2 G_2 F_2 hc2_h r2_1; omega
    | succ k2 IH2 =>
      intro σ_2 z2_1 m2 G_2 F_2 hc2_h r2_1
      have J42 : ∀ (k42 : Nat) (z42_2 : Int) (z42_3 : Int) (z42_4 : Int), (2147483648 - z42_4).toNat ≤ k42 → (0 ≤ z2_1 ∧ z2_1 ≤ 255) → (0 ≤ z42_2 ∧ z42_2 ≤ 255) → (0 ≤ z42_3 ∧ z42_3 ≤ 255) → (1 ≤ z42_4 ∧ z42_4 ≤ 5) → V p l e R s m args below meth c 5 D A Q (0, 0) (fd dom σ_2) [(0, .ref h), (1, .int (iI z2_1)), (2, .int (iI z42_2)), (3, .int (iI z42_3)), (4, .int (iI z42_4))] 42 [] := by
        intro k42
        induction k42 with
        | zero => intro z42_2 z42_3 z42_4 m42 rv42_z2_1 r42_2 r42_3 r42_4; omega
        | succ k42 IH42 =>
          intro z42_2 z42_3 z42_4 m42 rv42_z2_1 r42_2 r42_3 r42_4
          refine v_iload B dX12_fillBox_42 rfl ?_
          refine v_iconst B (v := iI 5) dX12_fillBox_44 rfl ?_
          refine u_icmp_ge B (tgt := 73) (by omega) (by omega) dX12_fillBox_45 (by decide +kernel) (fun c12 => ?_) (fun c12 => ?_)
          · refine v_aload_n B dX12_fillBox_73 rfl rfl ?_
            refine u_get B Z (C := RX12) (T := TX12) (N := 123) (ci := 12) hi_M_fillBox_X12 Y.o hc2_h rfl 3 (by decide +kernel) (List.mem_of_getElem? (i := 1) rfl) rfl dX12_fillBox_74 ?_
            refine v_iload_n B dX12_fillBox_77 rfl rfl ?_
            refine v_iload_n B dX12_fillBox_78 rfl rfl ?_
            refine v_bipush B (v := iI 99) dX12_fillBox_79 (by decide +kernel) ?_
            obtain ⟨z13, e14, r15⟩ := iI_xor (a := z42_3) (b := 99) 8 (by decide) (by omega) (by omega)
            refine v_ixor B (v := iI z13) dX12_fillBox_81 e14 ?_
            obtain ⟨f16, h17, e18⟩ := ga_3 G_2.t
            refine u_iast B Z (t0 := 0) (x := iI z13) (ym_3 Y) h17 rfl (by omega) dX12_fillBox_82 (fun σ19 h20 n21 => ?_)
            have e22 := el_upd (z := z13) e18 ⟨by omega, by omega⟩ (z2_1 : Int).toNat
            have F23 := F_2.put (ym_3 Y) (by simp) n21
            have G24 := gp_3 Y G_2 ⟨_, h20, e22⟩ n21
            refine v_iinc B (k := 1) (v := iI (z2_1 + 1)) (lv' := [(1, .int (iI (z2_1 + 1))), (0, .ref h), (2, .int (iI z42_2)), (3, .int (iI z42_3)), (4, .int (iI z42_4))]) dX12_fillBox_83 rfl ((iI_add _ _).trans (congrArg iI (by omega))) (by decide +kernel) rfl ?_
            refine v_goto B (tgt := 2) dX12_fillBox_86 (by decide +kernel) ?_
            refine v_lv [1, 0] rfl ?_
            have h25 := (n21 h (ne_ty Y.o (ym_3 Y) (by decide))).trans (hc2_h)
            exact IH2 σ19 (z2_1 + 1) (by omega) G24 F23 h25 ⟨by omega, by omega⟩
          · refine v_iload_n B dX12_fillBox_48 rfl rfl ?_
            refine v_iload_n B dX12_fillBox_49 rfl rfl ?_
            refine v_iload B dX12_fillBox_50 rfl ?_
            obtain ⟨z26, e27, r28⟩ := iI_shlv (a := z42_2) (c := z42_4) (A := 255) 4 (by decide) (by omega) (by omega)
            refine v_ishl B (v := iI z26) dX12_fillBox_52 e27 ?_
            refine v_iload_n B dX12_fillBox_53 rfl rfl ?_
            refine v_bipush B (v := iI 8) dX12_fillBox_54 (by decide +kernel) ?_
            refine v_iload B dX12_fillBox_56 rfl ?_
            refine v_isub B (v := iI ((-1) * z42_4 + 8)) dX12_fillBox_58 ((iI_sub _ _).trans (congrArg iI (by omega))) ?_
            obtain ⟨z29, e30, r31⟩ := iI_any (iI z42_2 >>> (iI ((-1) * z42_4 + 8) &&& 31))
            refine v_ishr B (v := iI z29) dX12_fillBox_59 e30 ?_
            obtain ⟨z32, e33, r34⟩ := iI_any (iI z26 ||| iI z29)
            refine v_ior B (v := iI z32) dX12_fillBox_60 e33 ?_
            refine v_sipush B (v := iI 255) dX12_fillBox_61 (by decide +kernel) ?_
            obtain ⟨z35, e36, r37⟩ := iI_and z32 (c := 255) (by decide) (by decide)
            refine v_iand B (v := iI z35) dX12_fillBox_64 e36 ?_
            obtain ⟨z38, e39, r40⟩ := iI_xor (a := z42_3) (b := z35) 8 (by decide) (by omega) (by omega)
            refine v_ixor B (v := iI z38) dX12_fillBox_65 e39 ?_
            refine v_istore_n B (lv' := [(3, .int (iI z38)), (0, .ref h), (1, .int (iI z2_1)), (2, .int (iI z42_2)), (4, .int (iI z42_4))]) dX12_fillBox_66 rfl (by decide +kernel) rfl ?_
            refine v_iinc B (k := 4) (v := iI (z42_4 + 1)) (lv' := [(4, .int (iI (z42_4 + 1))), (3, .int (iI z38)), (0, .ref h), (1, .int (iI z2_1)), (2, .int (iI z42_2))]) dX12_fillBox_67 rfl ((iI_add _ _).trans (congrArg iI (by omega))) (by decide +kernel) rfl ?_
            refine v_goto B (tgt := 42) dX12_fillBox_70 (by decide +kernel) ?_
            refine v_lv [2, 3, 4, 1, 0] rfl ?_
            exact IH42 z42_2 z38 (z42_4 + 1) (by omega) ⟨by omega, by omega⟩ ⟨by omega, by omega⟩ ⟨by omega, by omega⟩ ⟨by omega, by omega⟩
      have J13 : ∀ (k13 : Nat) (z13_2 : Int) (z13_3 : Int), (2147483648 - z13_3).toNat ≤ k13 → (0 ≤ z2_1 ∧ z2_1 ≤ 255) → (0 ≤ z13_2 ∧ z13_2 ≤ 255) → (1 ≤ z13_3 ∧ z13_3 ≤ 256) → V p l e R s m args below meth c 5 D A Q (0, 0) (fd dom σ_2) [(0, .ref h), (1, .int (iI z2_1)), (2, .int (iI z13_2)), (3, .int (iI z13_3))] 13 [] := by
        intro k13
        induction k13 with
        | zero => intro z13_2 z13_3 m13 rv13_z2_1 r13_2 r13_3; omega
        | succ k13 IH13 =>
          intro z13_2 z13_3 m13 rv13_z2_1 r13_2 r13_3
          have J31 : ∀ (z31_2 : Int), (1 ≤ z13_3 ∧ z13_3 ≤ 255) → (0 ≤ z31_2 ∧ z31_2 ≤ 255) → V p l e R s m args below meth c 5 D A Q (0, 0) (fd dom σ_2) [(0, .ref h), (1, .int (iI z2_1)), (2, .int (iI z31_2)), (3, .int (iI z13_3))] 31 [] := by
            intro z31_2 rv31_z13_3 r31_2
            refine v_iinc B (k := 3) (v := iI (z13_3 + 1)) (lv' := [(3, .int (iI (z13_3 + 1))), (0, .ref h), (1, .int (iI z2_1)), (2, .int (iI z31_2))]) dX12_fillBox_31 rfl ((iI_add _ _).trans (congrArg iI (by omega))) (by decide +kernel) rfl ?_
            refine v_goto B (tgt := 13) dX12_fillBox_34 (by decide +kernel) ?_
            refine v_lv [1, 2, 3, 0] rfl ?_
            exact IH13 z31_2 (z13_3 + 1) (by omega) ⟨by omega, by omega⟩ ⟨by omega, by omega⟩ ⟨by omega, by omega⟩
          refine v_iload_n B dX12_fillBox_13 rfl rfl ?_
          refine v_sipush B (v := iI 256) dX12_fillBox_14 (by decide +kernel) ?_
          refine u_icmp_ge B (tgt := 37) (by omega) (by omega) dX12_fillBox_17 (by decide +kernel) (fun c41 => ?_) (fun c41 => ?_)
          · refine v_iload_n B dX12_fillBox_37 rfl rfl ?_
            refine v_istore_n B (lv' := [(3, .int (iI z13_2)), (0, .ref h), (1, .int (iI z2_1)), (2, .int (iI z13_2))]) dX12_fillBox_38 rfl (by decide +kernel) rfl ?_
            refine v_iconst B (v := iI 1) dX12_fillBox_39 rfl ?_
            refine v_istore B (lv' := [(4, .int (iI 1)), (3, .int (iI z13_2)), (0, .ref h), (1, .int (iI z2_1)), (2, .int (iI z13_2))]) dX12_fillBox_40 (by decide +kernel) rfl ?_
            refine v_lv [2, 3, 4, 1, 0] rfl ?_
            exact J42 _ z13_2 z13_2 1 (Nat.le_refl _) ⟨by omega, by omega⟩ ⟨by omega, by omega⟩ ⟨by omega, by omega⟩ ⟨by omega, by omega⟩
          · refine v_iload_n B dX12_fillBox_20 rfl rfl ?_
            refine v_iload_n B dX12_fillBox_21 rfl rfl ?_
            refine u_callSi B Z hz (n := 2) (As := [.int (iI z2_1), .int (iI z13_3)]) (rest := []) (c_M_times l D K Z _ _ _ _ h q Y z2_1 z13_3 ⟨by omega, by omega⟩ ⟨by omega, by omega⟩ σ_2 (G_2.t)) gd_M_fillBox_M_times_18 rfl rfl rfl (by decide +kernel) ⟨Nat.le_trans (by decide +kernel) hR.1, Nat.le_trans (by decide +kernel) hR.2⟩ rfl rfl (Nat.le_of_ble_eq_true rfl) dX12_fillBox_22 ⟨Nat.zero_le _, Nat.zero_le _⟩ (fun v44 σ42 p43 => ?_)
            obtain ⟨rfl, z45, e46, r47⟩ := p43
            subst e46
            refine v_iconst B (v := iI 1) dX12_fillBox_25 rfl ?_
            refine u_icmp_ne B (tgt := 31) (by omega) (by omega) dX12_fillBox_26 (by decide +kernel) (fun c48 => ?_) (fun c48 => ?_)
            · exact J31 z13_2 ⟨by omega, by omega⟩ ⟨by omega, by omega⟩
            · refine v_iload_n B dX12_fillBox_29 rfl rfl ?_
              refine v_istore_n B (lv' := [(2, .int (iI z13_3)), (0, .ref h), (1, .int (iI z2_1)), (3, .int (iI z13_3))]) dX12_fillBox_30 rfl (by decide +kernel) rfl ?_
              refine v_lv [1, 2, 0, 3] rfl ?_
              exact J31 z13_3 ⟨by omega, by omega⟩ ⟨by omega, by omega⟩
      refine v_iload_n B dX12_fillBox_2 rfl rfl ?_
      refine v_sipush B (v := iI 256) dX12_fillBox_3 (by decide +kernel) ?_
      refine u_icmp_ge B (tgt := 89) (by omega) (by omega) dX12_fillBox_6 (by decide +kernel) (fun c49 => ?_) (fun c49 => ?_)
      · exact hend σ_2 _ _ G_2 F_2 dX12_fillBox_89
      · refine v_iconst B (v := iI 0) dX12_fillBox_9 rfl ?_
        refine v_istore_n B (lv' := [(2, .int (iI 0)), (0, .ref h), (1, .int (iI z2_1))]) dX12_fillBox_10 rfl (by decide +kernel) rfl ?_
        refine v_iconst B (v := iI 1) dX12_fillBox_11 rfl ?_
        refine v_istore_n B (lv' := [(3, .int (iI 1)), (2, .int (iI 0)), (0, .ref h), (1, .int (iI z2_1))]) dX12_fillBox_12 rfl (by decide +kernel) rfl ?_
        refine v_lv [2, 3, 1, 0] rfl ?_
        exact J13 _ 0 1 (Nat.le_refl _) ⟨by omega, by omega⟩ ⟨by omega, by omega⟩ ⟨by omega, by omega⟩
  refine v_iconst B (v := iI 0) dX12_fillBox_0 rfl ?_
  refine v_istore_n B (lv' := [(1, .int (iI 0)), (0, .ref h)]) dX12_fillBox_1 rfl (by decide +kernel) rfl ?_
  refine v_lv [1, 0] rfl ?_
  exact J2 _ σ0 0 (Nat.le_refl _) G0 F0 h6 ⟨by omega, by omega⟩
set_option maxRecDepth 100000 in
theorem c_M_fillBox (l : Launch) (D : va_G) (K : Nat → ClassId) {τ : Nat → Option Ty} {dom : List Nat} (Z : Sk τ dom) (zb zL : Nat) (zx : Nat → Int32) (zs : Nat → Nat) (h : Nat) (q : Nat → Nat) (Y : MS τ h q)   (σ0 : Nat → va_E) (G0 : GM K h q σ0) : MZ l yX12_fillBox wp_M_fillBox ({ frames := 2, cells := 0, slots := 0, locals := 44 }) D (tysA K) [.ref h] (fd dom σ0) zb zL zx zs (Qv D (fun σ' => GM K h q σ' ∧ Fr τ [(103, 0)] σ0 σ') (fun σ' => fd dom σ')) 0 0 := by
  refine mz_of (cc := cX12_fillBox) (maxL := 5) (ret := none) (by decide +kernel) rfl (Nat.le_of_ble_eq_true rfl) ?_
  intro p e s m below meth c A B hr hlk _ hz
  exact b_M_fillBox ⟨Nat.le_refl _, Nat.le_refl _⟩ B Z hz h q Y  σ0 G0 (fun σ' lv pc G F hd => v_vret B hr hlk σ' ⟨G, F⟩ rfl (Nat.le_refl _) (Nat.le_refl _) hd)

def wp_M_e : List Cond := .code yX12_e cX12_e 13 none :: (([.fieldLink RX12 33 "LowEnergyModel" "cells" "[B", .fieldLink RX12 26 "LowEnergyModel" "round" "[B", .fieldLink RX12 36 "LowEnergyModel" "moved" "[B", .methodLink RX12 14 yX12_twice, .static yX12_twice, .initialized RX12, .code yX12_twice cX12_twice 1 (some .int), .fieldLink RX12 22 "LowEnergyModel" "box" "[I", .methodLink RX12 29 yX12_copy, .static yX12_copy, .code yX12_copy cX12_copy 6 none] : List Cond) ++ (wsX120 ++ ([])))
theorem hi_M_e_X12 : ∀ x ∈ u_ws RX12 TX12 123, x ∈ wp_M_e := fun _ h => List.mem_cons_of_mem _ (List.mem_append_right _ (List.mem_append_left _ h))
set_option maxRecDepth 100000 in
theorem gd_M_e_M_twice_14 : GoodIn wp_M_e (va_wsS RX12 14 yX12_twice wp_M_twice) := goodIn_app (goodIn_r _ [4, 5, 6] rfl rfl) (goodIn_ca (goodIn_r _ [7] rfl rfl) (goodIn_nil))
set_option maxRecDepth 100000 in
theorem gd_M_e_M_copy_29 : GoodIn wp_M_e (va_wsS RX12 29 yX12_copy wp_M_copy) := goodIn_app (goodIn_r _ [9, 10, 6] rfl rfl) (goodIn_ca (goodIn_r _ [11] rfl rfl) (goodIn_nil))
set_option maxHeartbeats 4000000 in
set_option maxRecDepth 100000 in
theorem b_M_e {p : Program} {l : Launch} {e : Env} {R : Room} {s : State} {m : MethodId} {args : Array Value} {below : List Frame} {meth : Method} {c : Code} {D : va_G} {K : Nat → ClassId} {A : Nat → Prop} {Q : State → Prop} {τ : Nat → Option Ty} {dom : List Nat} {zb zL : Nat} {zx : Nat → Int32} {zs : Nat → Nat} (hR : 1 ≤ R.frames ∧ 25 ≤ R.locals) (B : Bx p s m args c cX12_e 13 RX12 wp_M_e D (tysA K) A) (Z : Sk τ dom) (hz : ZL zb zL zx zs A s s.heap) (h : Nat) (q : Nat → Nat) (Y : MS τ h q) (j1 Nj1 : Nat) (x2 : Int) (j3 Nj3 : Nat) (x4 : Int) (j5 Nj5 : Nat) (x6 : Int) (hj_j1 : tabM[j1]? = some (2, Nj1, -128, 127)) (r_x2 : 0 ≤ x2 ∧ x2 ≤ 1600) (hj_j3 : tabM[j3]? = some (2, Nj3, -128, 127)) (r_x4 : 0 ≤ x4 ∧ x4 ≤ 1600) (hj_j5 : tabM[j5]? = some (2, Nj5, -128, 127)) (r_x6 : 0 ≤ x6 ∧ x6 ≤ 1600) (σ0 : Nat → va_E) (G0 : GM K h q σ0) (hc : x2 + 16 ≤ (Nj1 : Int) ∧ x4 + 16 ≤ (Nj3 : Int) ∧ x6 + 16 ≤ (Nj5 : Int)) (hend : ∀ (σ' : Nat → va_E) (lv : List (Nat × Value)) (pc : Nat), GM K h q σ' → Fr τ [(104, 0), (105, 0), (106, 0), (100 + j5, 0)] σ0 σ' → decode cX12_e pc = .ok (.return_, 1) → V p l e R s m args below meth c 13 D A Q (0, 0) (fd dom σ') lv pc []) : V p l e R s m args below meth c 13 D A Q (0, 0) (fd dom σ0) [(0, .ref h), (1, .ref (q j1)), (2, .int (iI x2)), (3, .ref (q j3)), (4, .int (iI x4)), (5, .ref (q j5)), (6, .int (iI x6))] 0 [] := by
  have F0 : Fr τ [(104, 0), (105, 0), (106, 0), (100 + j5, 0)] σ0 σ0 := Fr.rf
  have hN_j1 := lenB hj_j1
  have hN_j3 := lenB hj_j3
  have hN_j5 := lenB hj_j5
  obtain ⟨z1, z2, z3, z4, z5, h6, r7, r8, r9, r10, r11⟩ := G0.t.o
  have J57 : ∀ (k57 : Nat) (σ_57 : Nat → va_E) (z57_7 : Int) (z57_8 : Int), (2147483648 - z57_8).toNat ≤ k57 → GM K h q σ_57 → Fr τ [(104, 0), (105, 0), (106, 0), (100 + j5, 0)] σ0 σ_57 → (σ_57 h = .inr (12, fsM q (iI z1) (iI z2) (iI z3) (iI z4) (iI z5))) → (0 ≤ z57_7 ∧ z57_7 ≤ 255) → (1 ≤ z57_8 ∧ z57_8 ≤ 11) → V p l e R s m args below meth c 13 D A Q (0, 0) (fd dom σ_57) [(0, .ref h), (5, .ref (q j5)), (6, .int (iI x6)), (7, .int (iI z57_7)), (8, .int (iI z57_8))] 57 [] := by
    intro k57
    induction k57 with
    | zero => intro σ_57 z57_7 z57_8 m57 G_57 F_57 hc57_h r57_7 r57_8; omega
    | succ k57 IH57 =>
      intro σ_57 z57_7 z57_8 m57 G_57 F_57 hc57_h r57_7 r57_8
      have J222 : ∀ (k222 : Nat) (σ_222 : Nat → va_E) (z222_7 : Int) (z222_9 : Int), (2147483648 - z222_9).toNat ≤ k222 → GM K h q σ_222 → Fr τ [(104, 0), (105, 0), (106, 0), (100 + j5, 0)] σ0 σ_222 → (σ_222 h = .inr (12, fsM q (iI z1) (iI z2) (iI z3) (iI z4) (iI z5))) → (1 ≤ z57_8 ∧ z57_8 ≤ 10) → (0 ≤ z222_7 ∧ z222_7 ≤ 255) → (0 ≤ z222_9 ∧ z222_9 ≤ 16) → V p l e R s m args below meth c 13 D A Q (0, 0) (fd dom σ_222) [(0, .ref h), (5, .ref (q j5)), (6, .int (iI x6)), (7, .int (iI z222_7)), (8, .int (iI z57_8)), (9, .int (iI z222_9))] 222 [] := by
        intro k222
        induction k222 with
        | zero => intro σ_222 z222_7 z222_9 m222 G_222 F_222 hc222_h rv222_z57_8 r222_7 r222_9; omega
        | succ k222 IH222 =>
          intro σ_222 z222_7 z222_9 m222 G_222 F_222 hc222_h rv222_z57_8 r222_7 r222_9
          have J332 : ∀ (z332_11 : Int), (0 ≤ z222_9 ∧ z222_9 ≤ 15) → (0 ≤ z332_11 ∧ z332_11 ≤ 255) → V p l e R s m args below meth c 13 D A Q (0, 0) (fd dom σ_222) [(0, .ref h), (5, .ref (q j5)), (6, .int (iI x6)), (7, .int (iI z222_7)), (8, .int (iI z57_8)), (9, .int (iI z222_9)), (11, .int (iI z332_11))] 332 [] := by
            intro z332_11 rv332_z222_9 r332_11
            refine v_aload_n B dX12_e_332 rfl rfl ?_
            refine u_get B Z (C := RX12) (T := TX12) (N := 123) (ci := 12) hi_M_e_X12 Y.o hc222_h rfl 5 (by decide +kernel) (List.mem_of_getElem? (i := 1) rfl) rfl dX12_e_333 ?_
            refine v_iload B dX12_e_336 rfl ?_
            refine v_iload B dX12_e_338 rfl ?_
            refine v_aload_n B dX12_e_340 rfl rfl ?_
            refine u_get B Z (C := RX12) (T := TX12) (N := 123) (ci := 12) hi_M_e_X12 Y.o hc222_h rfl 4 (by decide +kernel) (List.mem_of_getElem? (i := 2) rfl) rfl dX12_e_341 ?_
            refine v_iload B dX12_e_344 rfl ?_
            obtain ⟨f12, h13, e14⟩ := ga_4 G_222.t
            obtain ⟨z15, e16, r17⟩ := e14 (z222_9 : Int).toNat
            refine u_bald B Z (t0 := 2) (ym_4 Y) h13 rfl (by omega) e16 dX12_e_346 ?_
            obtain ⟨z18, e19, r20⟩ := iI_any (iI z332_11 ^^^ iI z15)
            refine v_ixor B (v := iI z18) dX12_e_347 e19 ?_
            obtain ⟨z21, e22, r23⟩ := iI_i8 z18
            refine v_i2b B (v := iI z21) dX12_e_348 e22 ?_
            obtain ⟨f24, h25, e26⟩ := ga_5 G_222.t
            refine u_bast B Z (t0 := 2) (x := iI z21) (y := iI z21) (ym_5 Y) h25 rfl (by omega) (nar8 (by omega)) dX12_e_349 (fun σ27 h28 n29 => ?_)
            have F30 := F_222.put (ym_5 Y) (by simp) n29
            have G31 := gp_5 Y G_222 ⟨_, h28, el_upd (z := z21) e26 ⟨by omega, by omega⟩ _⟩ n29
            refine v_iinc B (k := 5) (v := iI (z222_9 + 1)) (lv' := [(9, .int (iI (z222_9 + 1))), (0, .ref h), (5, .ref (q j5)), (6, .int (iI x6)), (7, .int (iI z222_7)), (8, .int (iI z57_8)), (11, .int (iI z332_11))]) dX12_e_350 rfl ((iI_add _ _).trans (congrArg iI (by omega))) (by decide +kernel) rfl ?_
            refine v_goto B (tgt := 222) dX12_e_353 (by decide +kernel) ?_
            refine v_lv [1, 2, 3, 4, 5, 0] rfl ?_
            have h32 := (n29 h (ne_ty Y.o (ym_5 Y) (by decide))).trans (hc222_h)
            exact IH222 σ27 z222_7 (z222_9 + 1) (by omega) G31 F30 h32 ⟨by omega, by omega⟩ ⟨by omega, by omega⟩ ⟨by omega, by omega⟩
          refine v_iload B dX12_e_222 rfl ?_
          refine v_bipush B (v := iI 16) dX12_e_224 (by decide +kernel) ?_
          refine u_icmp_ge B (tgt := 356) (by omega) (by omega) dX12_e_226 (by decide +kernel) (fun c33 => ?_) (fun c33 => ?_)
          · refine v_iinc B (k := 4) (v := iI (z57_8 + 1)) (lv' := [(8, .int (iI (z57_8 + 1))), (0, .ref h), (5, .ref (q j5)), (6, .int (iI x6)), (7, .int (iI z222_7)), (9, .int (iI z222_9))]) dX12_e_356 rfl ((iI_add _ _).trans (congrArg iI (by omega))) (by decide +kernel) rfl ?_
            refine v_goto B (tgt := 57) dX12_e_359 (by decide +kernel) ?_
            refine v_lv [1, 2, 3, 4, 0] rfl ?_
            exact IH57 σ_222 z222_7 (z57_8 + 1) (by omega) G_222 F_222 hc222_h ⟨by omega, by omega⟩ ⟨by omega, by omega⟩
          · refine v_iload B dX12_e_229 rfl ?_
            refine v_iload B dX12_e_231 rfl ?_
            refine v_iconst B (v := iI 4) dX12_e_233 rfl ?_
            obtain ⟨z34, e35⟩ : ∃ z : Int, z = z222_9 % 4 := ⟨_, rfl⟩
            refine v_irem B (v := iI z34) dX12_e_234 (fun q => absurd ((iI_eq (a := 4) (b := 0) (by omega) (by omega)).mp q) (by omega)) ((iI_rem (a := z222_9) (b := 4) (by omega) (by omega)).trans (congrArg iI e35.symm)) ?_
            refine v_isub B (v := iI (z222_9 + (-1) * z34)) dX12_e_235 ((iI_sub _ _).trans (congrArg iI (by omega))) ?_
            refine v_istore B (lv' := [(10, .int (iI (z222_9 + (-1) * z34))), (0, .ref h), (5, .ref (q j5)), (6, .int (iI x6)), (7, .int (iI z222_7)), (8, .int (iI z57_8)), (9, .int (iI z222_9))]) dX12_e_236 (by decide +kernel) rfl ?_
            refine v_aload_n B dX12_e_238 rfl rfl ?_
            refine u_get B Z (C := RX12) (T := TX12) (N := 123) (ci := 12) hi_M_e_X12 Y.o hc222_h rfl 6 (by decide +kernel) (List.mem_of_getElem? (i := 3) rfl) rfl dX12_e_239 ?_
            refine v_iload B dX12_e_242 rfl ?_
            obtain ⟨f36, h37, e38⟩ := ga_6 G_222.t
            obtain ⟨z39, e40, r41⟩ := e38 (z222_9 : Int).toNat
            refine u_bald B Z (t0 := 2) (ym_6 Y) h37 rfl (by omega) e40 dX12_e_244 ?_
            refine v_sipush B (v := iI 255) dX12_e_245 (by decide +kernel) ?_
            obtain ⟨z42, e43, r44⟩ := iI_and z39 (c := 255) (by decide) (by decide)
            refine v_iand B (v := iI z42) dX12_e_248 e43 ?_
            refine v_istore B (lv' := [(11, .int (iI z42)), (10, .int (iI (z222_9 + (-1) * z34))), (0, .ref h), (5, .ref (q j5)), (6, .int (iI x6)), (7, .int (iI z222_7)), (8, .int (iI z57_8)), (9, .int (iI z222_9))]) dX12_e_249 (by decide +kernel) rfl ?_
            refine v_iload B dX12_e_251 rfl ?_
            refine v_bipush B (v := iI 10) dX12_e_253 (by decide +kernel) ?_
            refine u_icmp_ge B (tgt := 332) (by omega) (by omega) dX12_e_255 (by decide +kernel) (fun c45 => ?_) (fun c45 => ?_)
            · refine v_lv [2, 3, 4, 5, 6, 7, 0] rfl ?_
              exact J332 z42 ⟨by omega, by omega⟩ ⟨by omega, by omega⟩
            · refine v_aload_n B dX12_e_258 rfl rfl ?_
              refine u_get B Z (C := RX12) (T := TX12) (N := 123) (ci := 12) hi_M_e_X12 Y.o hc222_h rfl 6 (by decide +kernel) (List.mem_of_getElem? (i := 3) rfl) rfl dX12_e_259 ?_
              refine v_iload B dX12_e_262 rfl ?_
              refine v_iload B dX12_e_264 rfl ?_
              refine v_iconst B (v := iI 1) dX12_e_266 rfl ?_
              refine v_iadd B (v := iI (z222_9 + 1)) dX12_e_267 ((iI_add _ _).trans (congrArg iI (by omega))) ?_
              refine v_iconst B (v := iI 4) dX12_e_268 rfl ?_
              obtain ⟨z46, e47⟩ : ∃ z : Int, z = (z222_9 + 1) % 4 := ⟨_, rfl⟩
              refine v_irem B (v := iI z46) dX12_e_269 (fun q => absurd ((iI_eq (a := 4) (b := 0) (by omega) (by omega)).mp q) (by omega)) ((iI_rem (a := (z222_9 + 1)) (b := 4) (by omega) (by omega)).trans (congrArg iI e47.symm)) ?_
              refine v_iadd B (v := iI (z222_9 + (-1) * z34 + z46)) dX12_e_270 ((iI_add _ _).trans (congrArg iI (by omega))) ?_
              obtain ⟨z48, e49, r50⟩ := e38 ((z222_9 + (-1) * z34 + z46) : Int).toNat
              refine u_bald B Z (t0 := 2) (ym_6 Y) h37 rfl (by omega) e49 dX12_e_271 ?_
              refine v_sipush B (v := iI 255) dX12_e_272 (by decide +kernel) ?_
              obtain ⟨z51, e52, r53⟩ := iI_and z48 (c := 255) (by decide) (by decide)
              refine v_iand B (v := iI z51) dX12_e_275 e52 ?_
              refine v_istore B (lv' := [(12, .int (iI z51)), (11, .int (iI z42)), (10, .int (iI (z222_9 + (-1) * z34))), (0, .ref h), (5, .ref (q j5)), (6, .int (iI x6)), (7, .int (iI z222_7)), (8, .int (iI z57_8)), (9, .int (iI z222_9))]) dX12_e_276 (by decide +kernel) rfl ?_
              refine v_iload B dX12_e_278 rfl ?_
              refine u_callSi B Z hz (n := 1) (As := [.int (iI z42)]) (rest := []) (c_M_twice l D K Z _ _ _ _ h q Y z42 ⟨by omega, by omega⟩ σ_222 (G_222.t)) gd_M_e_M_twice_14 rfl rfl rfl (by decide +kernel) ⟨Nat.le_trans (by decide +kernel) hR.1, Nat.le_trans (by decide +kernel) hR.2⟩ rfl rfl (Nat.le_of_ble_eq_true rfl) dX12_e_280 ⟨Nat.zero_le _, Nat.zero_le _⟩ (fun v56 σ54 p55 => ?_)
              obtain ⟨rfl, z57, e58, r59⟩ := p55
              subst e58
              refine v_iload B dX12_e_283 rfl ?_
              refine u_callSi B Z hz (n := 1) (As := [.int (iI z51)]) (rest := [.int (iI z57)]) (c_M_twice l D K Z _ _ _ _ h q Y z51 ⟨by omega, by omega⟩ σ_222 (G_222.t)) gd_M_e_M_twice_14 rfl rfl rfl (by decide +kernel) ⟨Nat.le_trans (by decide +kernel) hR.1, Nat.le_trans (by decide +kernel) hR.2⟩ rfl rfl (Nat.le_of_ble_eq_true rfl) dX12_e_285 ⟨Nat.zero_le _, Nat.zero_le _⟩ (fun v62 σ60 p61 => ?_)
              obtain ⟨rfl, z63, e64, r65⟩ := p61
              subst e64
              obtain ⟨z66, e67, r68⟩ := iI_xor (a := z57) (b := z63) 8 (by decide) (by omega) (by omega)
              refine v_ixor B (v := iI z66) dX12_e_288 e67 ?_
              refine v_iload B dX12_e_289 rfl ?_
              obtain ⟨z69, e70, r71⟩ := iI_xor (a := z66) (b := z51) 8 (by decide) (by omega) (by omega)
              refine v_ixor B (v := iI z69) dX12_e_291 e70 ?_
              refine v_aload_n B dX12_e_292 rfl rfl ?_
              refine u_get B Z (C := RX12) (T := TX12) (N := 123) (ci := 12) hi_M_e_X12 Y.o hc222_h rfl 6 (by decide +kernel) (List.mem_of_getElem? (i := 3) rfl) rfl dX12_e_293 ?_
              refine v_iload B dX12_e_296 rfl ?_
              refine v_iload B dX12_e_298 rfl ?_
              refine v_iconst B (v := iI 2) dX12_e_300 rfl ?_
              refine v_iadd B (v := iI (z222_9 + 2)) dX12_e_301 ((iI_add _ _).trans (congrArg iI (by omega))) ?_
              refine v_iconst B (v := iI 4) dX12_e_302 rfl ?_
              obtain ⟨z72, e73⟩ : ∃ z : Int, z = (z222_9 + 2) % 4 := ⟨_, rfl⟩
              refine v_irem B (v := iI z72) dX12_e_303 (fun q => absurd ((iI_eq (a := 4) (b := 0) (by omega) (by omega)).mp q) (by omega)) ((iI_rem (a := (z222_9 + 2)) (b := 4) (by omega) (by omega)).trans (congrArg iI e73.symm)) ?_
              refine v_iadd B (v := iI (z222_9 + (-1) * z34 + z72)) dX12_e_304 ((iI_add _ _).trans (congrArg iI (by omega))) ?_
              obtain ⟨z74, e75, r76⟩ := e38 ((z222_9 + (-1) * z34 + z72) : Int).toNat
              refine u_bald B Z (t0 := 2) (ym_6 Y) h37 rfl (by omega) e75 dX12_e_305 ?_
              refine v_sipush B (v := iI 255) dX12_e_306 (by decide +kernel) ?_
              obtain ⟨z77, e78, r79⟩ := iI_and z74 (c := 255) (by decide) (by decide)
              refine v_iand B (v := iI z77) dX12_e_309 e78 ?_
              obtain ⟨z80, e81, r82⟩ := iI_xor (a := z69) (b := z77) 8 (by decide) (by omega) (by omega)
              refine v_ixor B (v := iI z80) dX12_e_310 e81 ?_
              refine v_aload_n B dX12_e_311 rfl rfl ?_
              refine u_get B Z (C := RX12) (T := TX12) (N := 123) (ci := 12) hi_M_e_X12 Y.o hc222_h rfl 6 (by decide +kernel) (List.mem_of_getElem? (i := 3) rfl) rfl dX12_e_312 ?_
              refine v_iload B dX12_e_315 rfl ?_
              refine v_iload B dX12_e_317 rfl ?_
              refine v_iconst B (v := iI 3) dX12_e_319 rfl ?_
              refine v_iadd B (v := iI (z222_9 + 3)) dX12_e_320 ((iI_add _ _).trans (congrArg iI (by omega))) ?_
              refine v_iconst B (v := iI 4) dX12_e_321 rfl ?_
              obtain ⟨z83, e84⟩ : ∃ z : Int, z = (z222_9 + 3) % 4 := ⟨_, rfl⟩
              refine v_irem B (v := iI z83) dX12_e_322 (fun q => absurd ((iI_eq (a := 4) (b := 0) (by omega) (by omega)).mp q) (by omega)) ((iI_rem (a := (z222_9 + 3)) (b := 4) (by omega) (by omega)).trans (congrArg iI e84.symm)) ?_
              refine v_iadd B (v := iI (z222_9 + (-1) * z34 + z83)) dX12_e_323 ((iI_add _ _).trans (congrArg iI (by omega))) ?_
              obtain ⟨z85, e86, r87⟩ := e38 ((z222_9 + (-1) * z34 + z83) : Int).toNat
              refine u_bald B Z (t0 := 2) (ym_6 Y) h37 rfl (by omega) e86 dX12_e_324 ?_
              refine v_sipush B (v := iI 255) dX12_e_325 (by decide +kernel) ?_
              obtain ⟨z88, e89, r90⟩ := iI_and z85 (c := 255) (by decide) (by decide)
              refine v_iand B (v := iI z88) dX12_e_328 e89 ?_
              obtain ⟨z91, e92, r93⟩ := iI_xor (a := z80) (b := z88) 8 (by decide) (by omega) (by omega)
              refine v_ixor B (v := iI z91) dX12_e_329 e92 ?_
              refine v_istore B (lv' := [(11, .int (iI z91)), (12, .int (iI z51)), (10, .int (iI (z222_9 + (-1) * z34))), (0, .ref h), (5, .ref (q j5)), (6, .int (iI x6)), (7, .int (iI z222_7)), (8, .int (iI z57_8)), (9, .int (iI z222_9))]) dX12_e_330 (by decide +kernel) rfl ?_
              refine v_lv [3, 4, 5, 6, 7, 8, 0] rfl ?_
              exact J332 z91 ⟨by omega, by omega⟩ ⟨by omega, by omega⟩
      have J172 : ∀ (k172 : Nat) (σ_172 : Nat → va_E) (z172_7 : Int) (z172_9 : Int), (2147483648 - z172_9).toNat ≤ k172 → GM K h q σ_172 → Fr τ [(104, 0), (105, 0), (106, 0), (100 + j5, 0)] σ0 σ_172 → (σ_172 h = .inr (12, fsM q (iI z1) (iI z2) (iI z3) (iI z4) (iI z5))) → (1 ≤ z57_8 ∧ z57_8 ≤ 10) → (0 ≤ z172_7 ∧ z172_7 ≤ 255) → (0 ≤ z172_9 ∧ z172_9 ≤ 16) → V p l e R s m args below meth c 13 D A Q (0, 0) (fd dom σ_172) [(0, .ref h), (5, .ref (q j5)), (6, .int (iI x6)), (7, .int (iI z172_7)), (8, .int (iI z57_8)), (9, .int (iI z172_9))] 172 [] := by
        intro k172
        induction k172 with
        | zero => intro σ_172 z172_7 z172_9 m172 G_172 F_172 hc172_h rv172_z57_8 r172_7 r172_9; omega
        | succ k172 IH172 =>
          intro σ_172 z172_7 z172_9 m172 G_172 F_172 hc172_h rv172_z57_8 r172_7 r172_9
          refine v_iload B dX12_e_172 rfl ?_
          refine v_bipush B (v := iI 16) dX12_e_174 (by decide +kernel) ?_
          refine u_icmp_ge B (tgt := 219) (by omega) (by omega) dX12_e_176 (by decide +kernel) (fun c94 => ?_) (fun c94 => ?_)
          · refine v_iconst B (v := iI 0) dX12_e_219 rfl ?_
            refine v_istore B (lv' := [(9, .int (iI 0)), (0, .ref h), (5, .ref (q j5)), (6, .int (iI x6)), (7, .int (iI z172_7)), (8, .int (iI z57_8))]) dX12_e_220 (by decide +kernel) rfl ?_
            refine v_lv [1, 2, 3, 4, 5, 0] rfl ?_
            exact J222 _ σ_172 z172_7 0 (Nat.le_refl _) G_172 F_172 hc172_h ⟨by omega, by omega⟩ ⟨by omega, by omega⟩ ⟨by omega, by omega⟩
          · refine v_aload_n B dX12_e_179 rfl rfl ?_
            refine u_get B Z (C := RX12) (T := TX12) (N := 123) (ci := 12) hi_M_e_X12 Y.o hc172_h rfl 6 (by decide +kernel) (List.mem_of_getElem? (i := 3) rfl) rfl dX12_e_180 ?_
            refine v_iload B dX12_e_183 rfl ?_
            refine v_aload_n B dX12_e_185 rfl rfl ?_
            refine u_get B Z (C := RX12) (T := TX12) (N := 123) (ci := 12) hi_M_e_X12 Y.o hc172_h rfl 3 (by decide +kernel) (List.mem_of_getElem? (i := 8) rfl) rfl dX12_e_186 ?_
            refine v_aload_n B dX12_e_189 rfl rfl ?_
            refine u_get B Z (C := RX12) (T := TX12) (N := 123) (ci := 12) hi_M_e_X12 Y.o hc172_h rfl 5 (by decide +kernel) (List.mem_of_getElem? (i := 1) rfl) rfl dX12_e_190 ?_
            refine v_iload B dX12_e_193 rfl ?_
            refine v_iconst B (v := iI 4) dX12_e_195 rfl ?_
            refine v_iload B dX12_e_196 rfl ?_
            refine v_iconst B (v := iI 4) dX12_e_198 rfl ?_
            obtain ⟨z95, e96⟩ : ∃ z : Int, z = z172_9 % 4 := ⟨_, rfl⟩
            refine v_irem B (v := iI z95) dX12_e_199 (fun q => absurd ((iI_eq (a := 4) (b := 0) (by omega) (by omega)).mp q) (by omega)) ((iI_rem (a := z172_9) (b := 4) (by omega) (by omega)).trans (congrArg iI e96.symm)) ?_
            refine v_imul B (v := iI (4 * z95)) dX12_e_200 ((iI_mul _ _).trans (congrArg iI (by omega))) ?_
            refine v_iadd B (v := iI (z172_9 + 4 * z95)) dX12_e_201 ((iI_add _ _).trans (congrArg iI (by omega))) ?_
            refine v_bipush B (v := iI 16) dX12_e_202 (by decide +kernel) ?_
            obtain ⟨z97, e98⟩ : ∃ z : Int, z = (z172_9 + 4 * z95) % 16 := ⟨_, rfl⟩
            refine v_irem B (v := iI z97) dX12_e_204 (fun q => absurd ((iI_eq (a := 16) (b := 0) (by omega) (by omega)).mp q) (by omega)) ((iI_rem (a := (z172_9 + 4 * z95)) (b := 16) (by omega) (by omega)).trans (congrArg iI e98.symm)) ?_
            obtain ⟨f99, h100, e101⟩ := ga_5 G_172.t
            obtain ⟨z102, e103, r104⟩ := e101 (z97 : Int).toNat
            refine u_bald B Z (t0 := 2) (ym_5 Y) h100 rfl (by omega) e103 dX12_e_205 ?_
            refine v_sipush B (v := iI 255) dX12_e_206 (by decide +kernel) ?_
            obtain ⟨z105, e106, r107⟩ := iI_and z102 (c := 255) (by decide) (by decide)
            refine v_iand B (v := iI z105) dX12_e_209 e106 ?_
            obtain ⟨f108, h109, e110⟩ := ga_3 G_172.t
            obtain ⟨z111, e112, r113⟩ := e110 (z105 : Int).toNat
            refine u_iald B Z (t0 := 0) (ym_3 Y) h109 rfl (by omega) e112 dX12_e_210 ?_
            obtain ⟨z114, e115, r116⟩ := iI_i8 z111
            refine v_i2b B (v := iI z114) dX12_e_211 e115 ?_
            obtain ⟨f117, h118, e119⟩ := ga_6 G_172.t
            refine u_bast B Z (t0 := 2) (x := iI z114) (y := iI z114) (ym_6 Y) h118 rfl (by omega) (nar8 (by omega)) dX12_e_212 (fun σ120 h121 n122 => ?_)
            have F123 := F_172.put (ym_6 Y) (by simp) n122
            have G124 := gp_6 Y G_172 ⟨_, h121, el_upd (z := z114) e119 ⟨by omega, by omega⟩ _⟩ n122
            refine v_iinc B (k := 5) (v := iI (z172_9 + 1)) (lv' := [(9, .int (iI (z172_9 + 1))), (0, .ref h), (5, .ref (q j5)), (6, .int (iI x6)), (7, .int (iI z172_7)), (8, .int (iI z57_8))]) dX12_e_213 rfl ((iI_add _ _).trans (congrArg iI (by omega))) (by decide +kernel) rfl ?_
            refine v_goto B (tgt := 172) dX12_e_216 (by decide +kernel) ?_
            refine v_lv [1, 2, 3, 4, 5, 0] rfl ?_
            have h125 := (n122 h (ne_ty Y.o (ym_6 Y) (by decide))).trans (hc172_h)
            exact IH172 σ120 z172_7 (z172_9 + 1) (by omega) G124 F123 h125 ⟨by omega, by omega⟩ ⟨by omega, by omega⟩ ⟨by omega, by omega⟩
      have J129 : ∀ (k129 : Nat) (σ_129 : Nat → va_E) (z129_9 : Int), (2147483648 - z129_9).toNat ≤ k129 → GM K h q σ_129 → Fr τ [(104, 0), (105, 0), (106, 0), (100 + j5, 0)] σ0 σ_129 → (σ_129 h = .inr (12, fsM q (iI z1) (iI z2) (iI z3) (iI z4) (iI z5))) → (1 ≤ z57_8 ∧ z57_8 ≤ 10) → (4 ≤ z129_9 ∧ z129_9 ≤ 16) → V p l e R s m args below meth c 13 D A Q (0, 0) (fd dom σ_129) [(0, .ref h), (5, .ref (q j5)), (6, .int (iI x6)), (7, .int (iI z57_7)), (8, .int (iI z57_8)), (9, .int (iI z129_9))] 129 [] := by
        intro k129
        induction k129 with
        | zero => intro σ_129 z129_9 m129 G_129 F_129 hc129_h rv129_z57_8 r129_9; omega
        | succ k129 IH129 =>
          intro σ_129 z129_9 m129 G_129 F_129 hc129_h rv129_z57_8 r129_9
          refine v_iload B dX12_e_129 rfl ?_
          refine v_bipush B (v := iI 16) dX12_e_131 (by decide +kernel) ?_
          refine u_icmp_ge B (tgt := 162) (by omega) (by omega) dX12_e_133 (by decide +kernel) (fun c126 => ?_) (fun c126 => ?_)
          · refine v_iload B dX12_e_162 rfl ?_
            refine u_callSi B Z hz (n := 1) (As := [.int (iI z57_7)]) (rest := []) (c_M_twice l D K Z _ _ _ _ h q Y z57_7 ⟨by omega, by omega⟩ σ_129 (G_129.t)) gd_M_e_M_twice_14 rfl rfl rfl (by decide +kernel) ⟨Nat.le_trans (by decide +kernel) hR.1, Nat.le_trans (by decide +kernel) hR.2⟩ rfl rfl (Nat.le_of_ble_eq_true rfl) dX12_e_164 ⟨Nat.zero_le _, Nat.zero_le _⟩ (fun v129 σ127 p128 => ?_)
            obtain ⟨rfl, z130, e131, r132⟩ := p128
            subst e131
            refine v_istore B (lv' := [(7, .int (iI z130)), (0, .ref h), (5, .ref (q j5)), (6, .int (iI x6)), (8, .int (iI z57_8)), (9, .int (iI z129_9))]) dX12_e_167 (by decide +kernel) rfl ?_
            refine v_iconst B (v := iI 0) dX12_e_169 rfl ?_
            refine v_istore B (lv' := [(9, .int (iI 0)), (7, .int (iI z130)), (0, .ref h), (5, .ref (q j5)), (6, .int (iI x6)), (8, .int (iI z57_8))]) dX12_e_170 (by decide +kernel) rfl ?_
            refine v_lv [2, 3, 4, 1, 5, 0] rfl ?_
            exact J172 _ σ_129 z130 0 (Nat.le_refl _) G_129 F_129 hc129_h ⟨by omega, by omega⟩ ⟨by omega, by omega⟩ ⟨by omega, by omega⟩
          · refine v_aload_n B dX12_e_136 rfl rfl ?_
            refine u_get B Z (C := RX12) (T := TX12) (N := 123) (ci := 12) hi_M_e_X12 Y.o hc129_h rfl 4 (by decide +kernel) (List.mem_of_getElem? (i := 2) rfl) rfl dX12_e_137 ?_
            refine v_iload B dX12_e_140 rfl ?_
            refine v_dup2 B dX12_e_142 rfl rfl ?_
            obtain ⟨f133, h134, e135⟩ := ga_4 G_129.t
            obtain ⟨z136, e137, r138⟩ := e135 (z129_9 : Int).toNat
            refine u_bald B Z (t0 := 2) (ym_4 Y) h134 rfl (by omega) e137 dX12_e_143 ?_
            refine v_aload_n B dX12_e_144 rfl rfl ?_
            refine u_get B Z (C := RX12) (T := TX12) (N := 123) (ci := 12) hi_M_e_X12 Y.o hc129_h rfl 4 (by decide +kernel) (List.mem_of_getElem? (i := 2) rfl) rfl dX12_e_145 ?_
            refine v_iload B dX12_e_148 rfl ?_
            refine v_iconst B (v := iI 4) dX12_e_150 rfl ?_
            refine v_isub B (v := iI (z129_9 + (-4))) dX12_e_151 ((iI_sub _ _).trans (congrArg iI (by omega))) ?_
            obtain ⟨z139, e140, r141⟩ := e135 ((z129_9 + (-4)) : Int).toNat
            refine u_bald B Z (t0 := 2) (ym_4 Y) h134 rfl (by omega) e140 dX12_e_152 ?_
            obtain ⟨z142, e143, r144⟩ := iI_any (iI z136 ^^^ iI z139)
            refine v_ixor B (v := iI z142) dX12_e_153 e143 ?_
            obtain ⟨z145, e146, r147⟩ := iI_i8 z142
            refine v_i2b B (v := iI z145) dX12_e_154 e146 ?_
            refine u_bast B Z (t0 := 2) (x := iI z145) (y := iI z145) (ym_4 Y) h134 rfl (by omega) (nar8 (by omega)) dX12_e_155 (fun σ148 h149 n150 => ?_)
            have F151 := F_129.put (ym_4 Y) (by simp) n150
            have G152 := gp_4 Y G_129 ⟨_, h149, el_upd (z := z145) e135 ⟨by omega, by omega⟩ _⟩ n150
            refine v_iinc B (k := 5) (v := iI (z129_9 + 1)) (lv' := [(9, .int (iI (z129_9 + 1))), (0, .ref h), (5, .ref (q j5)), (6, .int (iI x6)), (7, .int (iI z57_7)), (8, .int (iI z57_8))]) dX12_e_156 rfl ((iI_add _ _).trans (congrArg iI (by omega))) (by decide +kernel) rfl ?_
            refine v_goto B (tgt := 129) dX12_e_159 (by decide +kernel) ?_
            refine v_lv [1, 2, 3, 4, 5, 0] rfl ?_
            have h153 := (n150 h (ne_ty Y.o (ym_4 Y) (by decide))).trans (hc129_h)
            exact IH129 σ148 (z129_9 + 1) (by omega) G152 F151 h153 ⟨by omega, by omega⟩ ⟨by omega, by omega⟩
      have J67 : ∀ (k67 : Nat) (σ_67 : Nat → va_E) (z67_9 : Int), (2147483648 - z67_9).toNat ≤ k67 → GM K h q σ_67 → Fr τ [(104, 0), (105, 0), (106, 0), (100 + j5, 0)] σ0 σ_67 → (σ_67 h = .inr (12, fsM q (iI z1) (iI z2) (iI z3) (iI z4) (iI z5))) → (1 ≤ z57_8 ∧ z57_8 ≤ 10) → (0 ≤ z67_9 ∧ z67_9 ≤ 4) → V p l e R s m args below meth c 13 D A Q (0, 0) (fd dom σ_67) [(0, .ref h), (5, .ref (q j5)), (6, .int (iI x6)), (7, .int (iI z57_7)), (8, .int (iI z57_8)), (9, .int (iI z67_9))] 67 [] := by
        intro k67
        induction k67 with
        | zero => intro σ_67 z67_9 m67 G_67 F_67 hc67_h rv67_z57_8 r67_9; omega
        | succ k67 IH67 =>
          intro σ_67 z67_9 m67 G_67 F_67 hc67_h rv67_z57_8 r67_9
          have J115 : ∀ (z115_s0 : Int) (z115_s1 : Int) (z115_s2 : Int) (z115_s3 : Int), (0 ≤ z67_9 ∧ z67_9 ≤ 3) → (0 ≤ z115_s0 ∧ z115_s0 ≤ 255) → (0 ≤ z115_s1 ∧ z115_s1 ≤ 255) → (-128 ≤ z115_s2 ∧ z115_s2 ≤ 127) → (0 ≤ z115_s3 ∧ z115_s3 ≤ 3) → V p l e R s m args below meth c 13 D A Q (0, 0) (fd dom σ_67) [(0, .ref h), (5, .ref (q j5)), (6, .int (iI x6)), (7, .int (iI z57_7)), (8, .int (iI z57_8)), (9, .int (iI z67_9))] 115 [.int (iI z115_s0), .int (iI z115_s1), .int (iI z115_s2), .int (iI z115_s3), .ref (q 4)] := by
            intro z115_s0 z115_s1 z115_s2 z115_s3 rv115_z67_9 r115_s0 r115_s1 r115_s2 r115_s3
            obtain ⟨z154, e155, r156⟩ := iI_xor (a := z115_s1) (b := z115_s0) 8 (by decide) (by omega) (by omega)
            refine v_ixor B (v := iI z154) dX12_e_115 e155 ?_
            obtain ⟨z157, e158, r159⟩ := iI_i8 z154
            refine v_i2b B (v := iI z157) dX12_e_116 e158 ?_
            obtain ⟨z160, e161, r162⟩ := iI_any (iI z115_s2 ^^^ iI z157)
            refine v_ixor B (v := iI z160) dX12_e_117 e161 ?_
            obtain ⟨z163, e164, r165⟩ := iI_i8 z160
            refine v_i2b B (v := iI z163) dX12_e_118 e164 ?_
            obtain ⟨f166, h167, e168⟩ := ga_4 G_67.t
            refine u_bast B Z (t0 := 2) (x := iI z163) (y := iI z163) (ym_4 Y) h167 rfl (by omega) (nar8 (by omega)) dX12_e_119 (fun σ169 h170 n171 => ?_)
            have F172 := F_67.put (ym_4 Y) (by simp) n171
            have G173 := gp_4 Y G_67 ⟨_, h170, el_upd (z := z163) e168 ⟨by omega, by omega⟩ _⟩ n171
            refine v_iinc B (k := 5) (v := iI (z67_9 + 1)) (lv' := [(9, .int (iI (z67_9 + 1))), (0, .ref h), (5, .ref (q j5)), (6, .int (iI x6)), (7, .int (iI z57_7)), (8, .int (iI z57_8))]) dX12_e_120 rfl ((iI_add _ _).trans (congrArg iI (by omega))) (by decide +kernel) rfl ?_
            refine v_goto B (tgt := 67) dX12_e_123 (by decide +kernel) ?_
            refine v_lv [1, 2, 3, 4, 5, 0] rfl ?_
            have h174 := (n171 h (ne_ty Y.o (ym_4 Y) (by decide))).trans (hc67_h)
            exact IH67 σ169 (z67_9 + 1) (by omega) G173 F172 h174 ⟨by omega, by omega⟩ ⟨by omega, by omega⟩
          refine v_iload B dX12_e_67 rfl ?_
          refine v_iconst B (v := iI 4) dX12_e_69 rfl ?_
          refine u_icmp_ge B (tgt := 126) (by omega) (by omega) dX12_e_70 (by decide +kernel) (fun c175 => ?_) (fun c175 => ?_)
          · refine v_iconst B (v := iI 4) dX12_e_126 rfl ?_
            refine v_istore B (lv' := [(9, .int (iI 4)), (0, .ref h), (5, .ref (q j5)), (6, .int (iI x6)), (7, .int (iI z57_7)), (8, .int (iI z57_8))]) dX12_e_127 (by decide +kernel) rfl ?_
            refine v_lv [1, 2, 3, 4, 5, 0] rfl ?_
            exact J129 _ σ_67 4 (Nat.le_refl _) G_67 F_67 hc67_h ⟨by omega, by omega⟩ ⟨by omega, by omega⟩
          · refine v_aload_n B dX12_e_73 rfl rfl ?_
            refine u_get B Z (C := RX12) (T := TX12) (N := 123) (ci := 12) hi_M_e_X12 Y.o hc67_h rfl 4 (by decide +kernel) (List.mem_of_getElem? (i := 2) rfl) rfl dX12_e_74 ?_
            refine v_iload B dX12_e_77 rfl ?_
            refine v_dup2 B dX12_e_79 rfl rfl ?_
            obtain ⟨f176, h177, e178⟩ := ga_4 G_67.t
            obtain ⟨z179, e180, r181⟩ := e178 (z67_9 : Int).toNat
            refine u_bald B Z (t0 := 2) (ym_4 Y) h177 rfl (by omega) e180 dX12_e_80 ?_
            refine v_aload_n B dX12_e_81 rfl rfl ?_
            refine u_get B Z (C := RX12) (T := TX12) (N := 123) (ci := 12) hi_M_e_X12 Y.o hc67_h rfl 3 (by decide +kernel) (List.mem_of_getElem? (i := 8) rfl) rfl dX12_e_82 ?_
            refine v_aload_n B dX12_e_85 rfl rfl ?_
            refine u_get B Z (C := RX12) (T := TX12) (N := 123) (ci := 12) hi_M_e_X12 Y.o hc67_h rfl 4 (by decide +kernel) (List.mem_of_getElem? (i := 2) rfl) rfl dX12_e_86 ?_
            refine v_bipush B (v := iI 12) dX12_e_89 (by decide +kernel) ?_
            refine v_iload B dX12_e_91 rfl ?_
            refine v_iconst B (v := iI 1) dX12_e_93 rfl ?_
            refine v_iadd B (v := iI (z67_9 + 1)) dX12_e_94 ((iI_add _ _).trans (congrArg iI (by omega))) ?_
            refine v_iconst B (v := iI 4) dX12_e_95 rfl ?_
            obtain ⟨z182, e183⟩ : ∃ z : Int, z = (z67_9 + 1) % 4 := ⟨_, rfl⟩
            refine v_irem B (v := iI z182) dX12_e_96 (fun q => absurd ((iI_eq (a := 4) (b := 0) (by omega) (by omega)).mp q) (by omega)) ((iI_rem (a := (z67_9 + 1)) (b := 4) (by omega) (by omega)).trans (congrArg iI e183.symm)) ?_
            refine v_iadd B (v := iI (z182 + 12)) dX12_e_97 ((iI_add _ _).trans (congrArg iI (by omega))) ?_
            obtain ⟨z184, e185, r186⟩ := e178 ((z182 + 12) : Int).toNat
            refine u_bald B Z (t0 := 2) (ym_4 Y) h177 rfl (by omega) e185 dX12_e_98 ?_
            refine v_sipush B (v := iI 255) dX12_e_99 (by decide +kernel) ?_
            obtain ⟨z187, e188, r189⟩ := iI_and z184 (c := 255) (by decide) (by decide)
            refine v_iand B (v := iI z187) dX12_e_102 e188 ?_
            obtain ⟨f190, h191, e192⟩ := ga_3 G_67.t
            obtain ⟨z193, e194, r195⟩ := e192 (z187 : Int).toNat
            refine u_iald B Z (t0 := 0) (ym_3 Y) h191 rfl (by omega) e194 dX12_e_103 ?_
            refine v_iload B dX12_e_104 rfl ?_
            refine u_if_ne B (tgt := 114) (by omega) dX12_e_106 (by decide +kernel) (fun c196 => ?_) (fun c196 => ?_)
            · refine v_iconst B (v := iI 0) dX12_e_114 rfl ?_
              exact J115 0 z193 z179 z67_9 ⟨by omega, by omega⟩ ⟨by omega, by omega⟩ ⟨by omega, by omega⟩ ⟨by omega, by omega⟩ ⟨by omega, by omega⟩
            · refine v_iload B dX12_e_109 rfl ?_
              refine v_goto B (tgt := 115) dX12_e_111 (by decide +kernel) ?_
              exact J115 z57_7 z193 z179 z67_9 ⟨by omega, by omega⟩ ⟨by omega, by omega⟩ ⟨by omega, by omega⟩ ⟨by omega, by omega⟩ ⟨by omega, by omega⟩
      refine v_iload B dX12_e_57 rfl ?_
      refine v_bipush B (v := iI 11) dX12_e_59 (by decide +kernel) ?_
      refine u_icmp_ge B (tgt := 362) (by omega) (by omega) dX12_e_61 (by decide +kernel) (fun c197 => ?_) (fun c197 => ?_)
      · refine v_aload_n B dX12_e_362 rfl rfl ?_
        refine u_get B Z (C := RX12) (T := TX12) (N := 123) (ci := 12) hi_M_e_X12 Y.o hc57_h rfl 5 (by decide +kernel) (List.mem_of_getElem? (i := 1) rfl) rfl dX12_e_363 ?_
        refine v_iconst B (v := iI 0) dX12_e_366 rfl ?_
        refine v_aload B dX12_e_367 rfl ?_
        refine v_iload B dX12_e_369 rfl ?_
        refine v_bipush B (v := iI 16) dX12_e_371 (by decide +kernel) ?_
        refine u_callSv B Z hz (n := 5) (As := [.ref (q 5), .int (iI 0), .ref (q j5), .int (iI x6), .int (iI 16)]) (rest := []) (c_M_copy l D K Z _ _ _ _ h q Y 5 16 0 j5 Nj5 x6 16 rfl ⟨by omega, by omega⟩ hj_j5 ⟨by omega, by omega⟩ ⟨by omega, by omega⟩ σ_57 G_57 (by omega)) gd_M_e_M_copy_29 rfl rfl rfl (by decide +kernel) ⟨Nat.le_trans (by decide +kernel) hR.1, Nat.le_trans (by decide +kernel) hR.2⟩ rfl rfl (Nat.le_of_ble_eq_true rfl) dX12_e_373 ⟨Nat.zero_le _, Nat.zero_le _⟩ (fun σ198 p199 => ?_)
        obtain ⟨G201, F202⟩ := p199
        have F203 := F_57.call F202 (by first | rfl | simp)
        exact hend σ198 _ _ G201 F203 dX12_e_376
      · refine v_iconst B (v := iI 0) dX12_e_64 rfl ?_
        refine v_istore B (lv' := [(9, .int (iI 0)), (0, .ref h), (5, .ref (q j5)), (6, .int (iI x6)), (7, .int (iI z57_7)), (8, .int (iI z57_8))]) dX12_e_65 (by decide +kernel) rfl ?_
        refine v_lv [1, 2, 3, 4, 5, 0] rfl ?_
        exact J67 _ σ_57 0 (Nat.le_refl _) G_57 F_57 hc57_h ⟨by omega, by omega⟩ ⟨by omega, by omega⟩
  have J15 : ∀ (k15 : Nat) (σ_15 : Nat → va_E) (z15_7 : Int), (2147483648 - z15_7).toNat ≤ k15 → GM K h q σ_15 → Fr τ [(104, 0), (105, 0), (106, 0), (100 + j5, 0)] σ0 σ_15 → (σ_15 h = .inr (12, fsM q (iI z1) (iI z2) (iI z3) (iI z4) (iI z5))) → (0 ≤ z15_7 ∧ z15_7 ≤ 16) → V p l e R s m args below meth c 13 D A Q (0, 0) (fd dom σ_15) [(0, .ref h), (3, .ref (q j3)), (4, .int (iI x4)), (5, .ref (q j5)), (6, .int (iI x6)), (7, .int (iI z15_7))] 15 [] := by
    intro k15
    induction k15 with
    | zero => intro σ_15 z15_7 m15 G_15 F_15 hc15_h r15_7; omega
    | succ k15 IH15 =>
      intro σ_15 z15_7 m15 G_15 F_15 hc15_h r15_7
      refine v_iload B dX12_e_15 rfl ?_
      refine v_bipush B (v := iI 16) dX12_e_17 (by decide +kernel) ?_
      refine u_icmp_ge B (tgt := 51) (by omega) (by omega) dX12_e_19 (by decide +kernel) (fun c204 => ?_) (fun c204 => ?_)
      · refine v_iconst B (v := iI 1) dX12_e_51 rfl ?_
        refine v_istore B (lv' := [(7, .int (iI 1)), (0, .ref h), (3, .ref (q j3)), (4, .int (iI x4)), (5, .ref (q j5)), (6, .int (iI x6))]) dX12_e_52 (by decide +kernel) rfl ?_
        refine v_iconst B (v := iI 1) dX12_e_54 rfl ?_
        refine v_istore B (lv' := [(8, .int (iI 1)), (7, .int (iI 1)), (0, .ref h), (3, .ref (q j3)), (4, .int (iI x4)), (5, .ref (q j5)), (6, .int (iI x6))]) dX12_e_55 (by decide +kernel) rfl ?_
        refine v_lv [2, 5, 6, 1, 0] rfl ?_
        exact J57 _ σ_15 1 1 (Nat.le_refl _) G_15 F_15 hc15_h ⟨by omega, by omega⟩ ⟨by omega, by omega⟩
      · refine v_aload_n B dX12_e_22 rfl rfl ?_
        refine u_get B Z (C := RX12) (T := TX12) (N := 123) (ci := 12) hi_M_e_X12 Y.o hc15_h rfl 5 (by decide +kernel) (List.mem_of_getElem? (i := 1) rfl) rfl dX12_e_23 ?_
        refine v_iload B dX12_e_26 rfl ?_
        refine v_aload_n B dX12_e_28 rfl rfl ?_
        refine v_iload B dX12_e_29 rfl ?_
        refine v_iload B dX12_e_31 rfl ?_
        refine v_iadd B (v := iI (x4 + z15_7)) dX12_e_33 ((iI_add _ _).trans (congrArg iI (by omega))) ?_
        obtain ⟨f205, h206, e207⟩ := G_15.t.byte hj_j3
        obtain ⟨z208, e209, r210⟩ := e207 ((x4 + z15_7) : Int).toNat
        refine u_bald B Z (t0 := 2) (Y.byte hj_j3) h206 rfl (by omega) e209 dX12_e_34 ?_
        refine v_aload_n B dX12_e_35 rfl rfl ?_
        refine u_get B Z (C := RX12) (T := TX12) (N := 123) (ci := 12) hi_M_e_X12 Y.o hc15_h rfl 4 (by decide +kernel) (List.mem_of_getElem? (i := 2) rfl) rfl dX12_e_36 ?_
        refine v_iload B dX12_e_39 rfl ?_
        obtain ⟨f211, h212, e213⟩ := ga_4 G_15.t
        obtain ⟨z214, e215, r216⟩ := e213 (z15_7 : Int).toNat
        refine u_bald B Z (t0 := 2) (ym_4 Y) h212 rfl (by omega) e215 dX12_e_41 ?_
        obtain ⟨z217, e218, r219⟩ := iI_any (iI z208 ^^^ iI z214)
        refine v_ixor B (v := iI z217) dX12_e_42 e218 ?_
        obtain ⟨z220, e221, r222⟩ := iI_i8 z217
        refine v_i2b B (v := iI z220) dX12_e_43 e221 ?_
        obtain ⟨f223, h224, e225⟩ := ga_5 G_15.t
        refine u_bast B Z (t0 := 2) (x := iI z220) (y := iI z220) (ym_5 Y) h224 rfl (by omega) (nar8 (by omega)) dX12_e_44 (fun σ226 h227 n228 => ?_)
        have F229 := F_15.put (ym_5 Y) (by simp) n228
        have G230 := gp_5 Y G_15 ⟨_, h227, el_upd (z := z220) e225 ⟨by omega, by omega⟩ _⟩ n228
        refine v_iinc B (k := 5) (v := iI (z15_7 + 1)) (lv' := [(7, .int (iI (z15_7 + 1))), (0, .ref h), (3, .ref (q j3)), (4, .int (iI x4)), (5, .ref (q j5)), (6, .int (iI x6))]) dX12_e_45 rfl ((iI_add _ _).trans (congrArg iI (by omega))) (by decide +kernel) rfl ?_
        refine v_goto B (tgt := 15) dX12_e_48 (by decide +kernel) ?_
        refine v_lv [1, 2, 3, 4, 5, 0] rfl ?_
        have h231 := (n228 h (ne_ty Y.o (ym_5 Y) (by decide))).trans (hc15_h)
        exact IH15 σ226 (z15_7 + 1) (by omega) G230 F229 h231 ⟨by omega, by omega⟩
  refine v_aload_n B dX12_e_0 rfl rfl ?_
  refine v_iload_n B dX12_e_1 rfl rfl ?_
  refine v_aload_n B dX12_e_2 rfl rfl ?_
  refine u_get B Z (C := RX12) (T := TX12) (N := 123) (ci := 12) hi_M_e_X12 Y.o h6 rfl 4 (by decide +kernel) (List.mem_of_getElem? (i := 2) rfl) rfl dX12_e_3 ?_
  refine v_iconst B (v := iI 0) dX12_e_6 rfl ?_
  refine v_bipush B (v := iI 16) dX12_e_7 (by decide +kernel) ?_
  refine u_callSv B Z hz (n := 5) (As := [.ref (q j1), .int (iI x2), .ref (q 4), .int (iI 0), .int (iI 16)]) (rest := []) (c_M_copy l D K Z _ _ _ _ h q Y j1 Nj1 x2 4 16 0 16 hj_j1 ⟨by omega, by omega⟩ rfl ⟨by omega, by omega⟩ ⟨by omega, by omega⟩ σ0 G0 (by omega)) gd_M_e_M_copy_29 rfl rfl rfl (by decide +kernel) ⟨Nat.le_trans (by decide +kernel) hR.1, Nat.le_trans (by decide +kernel) hR.2⟩ rfl rfl (Nat.le_of_ble_eq_true rfl) dX12_e_9 ⟨Nat.zero_le _, Nat.zero_le _⟩ (fun σ232 p233 => ?_)
  obtain ⟨G235, F236⟩ := p233
  have F237 := F0.call F236 (by first | rfl | simp)
  refine v_iconst B (v := iI 0) dX12_e_12 rfl ?_
  refine v_istore B (lv' := [(7, .int (iI 0)), (0, .ref h), (1, .ref (q j1)), (2, .int (iI x2)), (3, .ref (q j3)), (4, .int (iI x4)), (5, .ref (q j5)), (6, .int (iI x6))]) dX12_e_13 (by decide +kernel) rfl ?_
  refine v_lv [1, 4, 5, 6, 7, 0] rfl ?_
  have h238 := (F236 h _ Y.o (by first | rfl | simp)).trans (h6)
  exact J15 _ σ232 0 (Nat.le_refl _) G235 F237 h238 ⟨by omega, by omega⟩
set_option maxRecDepth 100000 in
theorem c_M_e (l : Launch) (D : va_G) (K : Nat → ClassId) {τ : Nat → Option Ty} {dom : List Nat} (Z : Sk τ dom) (zb zL : Nat) (zx : Nat → Int32) (zs : Nat → Nat) (h : Nat) (q : Nat → Nat) (Y : MS τ h q) (j1 Nj1 : Nat) (x2 : Int) (j3 Nj3 : Nat) (x4 : Int) (j5 Nj5 : Nat) (x6 : Int) (hj_j1 : tabM[j1]? = some (2, Nj1, -128, 127)) (r_x2 : 0 ≤ x2 ∧ x2 ≤ 1600) (hj_j3 : tabM[j3]? = some (2, Nj3, -128, 127)) (r_x4 : 0 ≤ x4 ∧ x4 ≤ 1600) (hj_j5 : tabM[j5]? = some (2, Nj5, -128, 127)) (r_x6 : 0 ≤ x6 ∧ x6 ≤ 1600) (σ0 : Nat → va_E) (G0 : GM K h q σ0) (hc : x2 + 16 ≤ (Nj1 : Int) ∧ x4 + 16 ≤ (Nj3 : Int) ∧ x6 + 16 ≤ (Nj5 : Int)) : MZ l yX12_e wp_M_e ({ frames := 1, cells := 0, slots := 0, locals := 25 }) D (tysA K) [.ref h, .ref (q j1), .int (iI x2), .ref (q j3), .int (iI x4), .ref (q j5), .int (iI x6)] (fd dom σ0) zb zL zx zs (Qv D (fun σ' => GM K h q σ' ∧ Fr τ [(104, 0), (105, 0), (106, 0), (100 + j5, 0)] σ0 σ') (fun σ' => fd dom σ')) 0 0 := by
  refine mz_of (cc := cX12_e) (maxL := 13) (ret := none) (by decide +kernel) rfl (Nat.le_of_ble_eq_true rfl) ?_
  intro p e s m below meth c A B hr hlk _ hz
  exact b_M_e ⟨Nat.le_refl _, Nat.le_refl _⟩ B Z hz h q Y j1 Nj1 x2 j3 Nj3 x4 j5 Nj5 x6 hj_j1 r_x2 hj_j3 r_x4 hj_j5 r_x6 σ0 G0 hc (fun σ' lv pc G F hd => v_vret B hr hlk σ' ⟨G, F⟩ rfl (Nat.le_refl _) (Nat.le_refl _) hd)

def wp_M_draw : List Cond := .code yX12_draw cX12_draw 2 (some .int) :: (([.fieldLink RX12 48 "LowEnergyModel" "x" "[I", .constant RX12 395 (1103515245)] : List Cond) ++ (wsX120 ++ ([])))
theorem hi_M_draw_X12 : ∀ x ∈ u_ws RX12 TX12 123, x ∈ wp_M_draw := fun _ h => List.mem_cons_of_mem _ (List.mem_append_right _ (List.mem_append_left _ h))
set_option maxHeartbeats 4000000 in
set_option maxRecDepth 100000 in
theorem b_M_draw {p : Program} {l : Launch} {e : Env} {R : Room} {s : State} {m : MethodId} {args : Array Value} {below : List Frame} {meth : Method} {c : Code} {D : va_G} {K : Nat → ClassId} {A : Nat → Prop} {Q : State → Prop} {τ : Nat → Option Ty} {dom : List Nat} {zb zL : Nat} {zx : Nat → Int32} {zs : Nat → Nat} (hR : 0 ≤ R.frames ∧ 0 ≤ R.locals) (B : Bx p s m args c cX12_draw 2 RX12 wp_M_draw D (tysA K) A) (Z : Sk τ dom) (hz : ZL zb zL zx zs A s s.heap) (h : Nat) (q : Nat → Nat) (Y : MS τ h q) (d : Int) (r_d : 0 ≤ d ∧ d ≤ 1) (σ0 : Nat → va_E) (G0 : GM K h q σ0) (hend : ∀ (σ' : Nat → va_E) (z : Int) (lv : List (Nat × Value)) (pc : Nat), GM K h q σ' → Fr τ [(108, 0)] σ0 σ' → (0 ≤ z ∧ z ≤ 255) → decode cX12_draw pc = .ok (.ireturn, 1) → V p l e R s m args below meth c 2 D A Q (0, 0) (fd dom σ') lv pc [.int (iI z)]) : V p l e R s m args below meth c 2 D A Q (0, 0) (fd dom σ0) [(0, .ref h), (1, .int (iI d))] 0 [] := by
  have F0 : Fr τ [(108, 0)] σ0 σ0 := Fr.rf
  obtain ⟨z1, z2, z3, z4, z5, h6, r7, r8, r9, r10, r11⟩ := G0.t.o
  refine v_aload_n B dX12_draw_0 rfl rfl ?_
  refine u_get B Z (C := RX12) (T := TX12) (N := 123) (ci := 12) hi_M_draw_X12 Y.o h6 rfl 8 (by decide +kernel) (List.mem_of_getElem? (i := 1) rfl) rfl dX12_draw_1 ?_
  refine v_iload_n B dX12_draw_4 rfl rfl ?_
  refine v_aload_n B dX12_draw_5 rfl rfl ?_
  refine u_get B Z (C := RX12) (T := TX12) (N := 123) (ci := 12) hi_M_draw_X12 Y.o h6 rfl 8 (by decide +kernel) (List.mem_of_getElem? (i := 1) rfl) rfl dX12_draw_6 ?_
  refine v_iload_n B dX12_draw_9 rfl rfl ?_
  obtain ⟨f12, h13, e14⟩ := ga_8 G0.t
  obtain ⟨z15, e16, r17⟩ := e14 (d : Int).toNat
  refine u_iald B Z (t0 := 0) (ym_8 Y) h13 rfl (by omega) e16 dX12_draw_10 ?_
  refine v_ldcw B (v := iI 1103515245) (u_ci (List.mem_of_getElem? (i := 2) rfl) (by decide +kernel)) dX12_draw_11 ?_
  obtain ⟨z18, e19, r20⟩ := iI_any (iI z15 * iI 1103515245)
  refine v_imul B (v := iI z18) dX12_draw_14 e19 ?_
  refine v_sipush B (v := iI 12345) dX12_draw_15 (by decide +kernel) ?_
  obtain ⟨z21, e22, r23⟩ := iI_any (iI z18 + iI 12345)
  refine v_iadd B (v := iI z21) dX12_draw_18 e22 ?_
  refine u_iast B Z (t0 := 0) (x := iI z21) (ym_8 Y) h13 rfl (by omega) dX12_draw_19 (fun σ24 h25 n26 => ?_)
  have e27 := el_upd (z := z21) e14 ⟨by omega, by omega⟩ (d : Int).toNat
  have F28 := F0.put (ym_8 Y) (by simp) n26
  have G29 := gp_8 Y G0 ⟨_, h25, e27⟩ n26
  refine v_aload_n B dX12_draw_20 rfl rfl ?_
  have h30 := (n26 h (ne_ty Y.o (ym_8 Y) (by decide))).trans (h6)
  refine u_get B Z (C := RX12) (T := TX12) (N := 123) (ci := 12) hi_M_draw_X12 Y.o h30 rfl 8 (by decide +kernel) (List.mem_of_getElem? (i := 1) rfl) rfl dX12_draw_21 ?_
  refine v_iload_n B dX12_draw_24 rfl rfl ?_
  refine u_iald B Z (t0 := 0) (ym_8 Y) h25 rfl (by omega) upd_s dX12_draw_25 ?_
  refine v_bipush B (v := iI 16) dX12_draw_26 (by decide +kernel) ?_
  obtain ⟨z31, e32, r33⟩ := iI_any (((iI z21).toUInt32 >>> ((iI 16).toUInt32 &&& Int32.toUInt32 31)).toInt32)
  refine v_iushr B (v := iI z31) dX12_draw_28 e32 ?_
  refine v_sipush B (v := iI 255) dX12_draw_29 (by decide +kernel) ?_
  obtain ⟨z34, e35, r36⟩ := iI_and z31 (c := 255) (by decide) (by decide)
  refine v_iand B (v := iI z34) dX12_draw_32 e35 ?_
  exact hend σ24 z34 _ _ G29 F28 ⟨by omega, by omega⟩ dX12_draw_33
set_option maxRecDepth 100000 in
theorem c_M_draw (l : Launch) (D : va_G) (K : Nat → ClassId) {τ : Nat → Option Ty} {dom : List Nat} (Z : Sk τ dom) (zb zL : Nat) (zx : Nat → Int32) (zs : Nat → Nat) (h : Nat) (q : Nat → Nat) (Y : MS τ h q) (d : Int) (r_d : 0 ≤ d ∧ d ≤ 1) (σ0 : Nat → va_E) (G0 : GM K h q σ0) : MZ l yX12_draw wp_M_draw ({ frames := 0, cells := 0, slots := 0, locals := 0 }) D (tysA K) [.ref h, .int (iI d)] (fd dom σ0) zb zL zx zs (Qi D (fun r σ' => GM K h q σ' ∧ Fr τ [(108, 0)] σ0 σ' ∧ ∃ z : Int, r = iI z ∧ (0 ≤ z ∧ z ≤ 255)) (fun σ' => fd dom σ')) 0 0 := by
  refine mz_of (cc := cX12_draw) (maxL := 2) (ret := (some .int)) (by decide +kernel) rfl (Nat.le_of_ble_eq_true rfl) ?_
  intro p e s m below meth c A B hr hlk _ hz
  exact b_M_draw ⟨Nat.le_refl _, Nat.le_refl _⟩ B Z hz h q Y d r_d σ0 G0 (fun σ' z lv pc G F hZ hd => v_iret B hr hlk σ' ⟨G, F, z, rfl, hZ⟩ rfl (Nat.le_refl _) (Nat.le_refl _) hd)

def wp_M_isLinked : List Cond := .code yX12_isLinked cX12_isLinked 2 (some .boolean) :: (([.fieldLink RX12 45 "LowEnergyModel" "state" "[I"] : List Cond) ++ (wsX120 ++ ([])))
theorem hi_M_isLinked_X12 : ∀ x ∈ u_ws RX12 TX12 123, x ∈ wp_M_isLinked := fun _ h => List.mem_cons_of_mem _ (List.mem_append_right _ (List.mem_append_left _ h))
set_option maxHeartbeats 4000000 in
set_option maxRecDepth 100000 in
theorem b_M_isLinked {p : Program} {l : Launch} {e : Env} {R : Room} {s : State} {m : MethodId} {args : Array Value} {below : List Frame} {meth : Method} {c : Code} {D : va_G} {K : Nat → ClassId} {A : Nat → Prop} {Q : State → Prop} {τ : Nat → Option Ty} {dom : List Nat} {zb zL : Nat} {zx : Nat → Int32} {zs : Nat → Nat} (hR : 0 ≤ R.frames ∧ 0 ≤ R.locals) (B : Bx p s m args c cX12_isLinked 2 RX12 wp_M_isLinked D (tysA K) A) (Z : Sk τ dom) (hz : ZL zb zL zx zs A s s.heap) (h : Nat) (q : Nat → Nat) (Y : MS τ h q) (d : Int) (r_d : 0 ≤ d ∧ d ≤ 1) (σ0 : Nat → va_E) (G0 : GT K h q σ0) (hend : ∀ (z : Int) (lv : List (Nat × Value)) (pc : Nat), (0 ≤ z ∧ z ≤ 1) → (z = 1 → At σ0 (q 7) d.toNat 4 5) → decode cX12_isLinked pc = .ok (.ireturn, 1) → V p l e R s m args below meth c 2 D A Q (0, 0) (fd dom σ0) lv pc [.int (iI z)]) : V p l e R s m args below meth c 2 D A Q (0, 0) (fd dom σ0) [(0, .ref h), (1, .int (iI d))] 0 [] := by
  obtain ⟨z1, z2, z3, z4, z5, h6, r7, r8, r9, r10, r11⟩ := G0.o
  obtain ⟨f12, h13, e14⟩ := ga_7 G0
  obtain ⟨z15, e16, r17⟩ := e14 (d : Int).toNat
  refine v_aload_n B dX12_isLinked_0 rfl rfl ?_
  refine u_get B Z (C := RX12) (T := TX12) (N := 123) (ci := 12) hi_M_isLinked_X12 Y.o h6 rfl 7 (by decide +kernel) (List.mem_of_getElem? (i := 1) rfl) rfl dX12_isLinked_1 ?_
  refine v_iload_n B dX12_isLinked_4 rfl rfl ?_
  refine u_iald B Z (t0 := 0) (ym_7 Y) h13 rfl (by omega) e16 dX12_isLinked_5 ?_
  refine v_iconst B (v := iI 4) dX12_isLinked_6 rfl ?_
  refine u_icmp_eq B (tgt := 20) (by omega) (by omega) dX12_isLinked_7 (by decide +kernel) (fun c18 => ?_) (fun c18 => ?_)
  · refine v_iconst B (v := iI 1) dX12_isLinked_20 rfl ?_
    refine v_goto B (tgt := 25) dX12_isLinked_21 (by decide +kernel) ?_
    exact hend 1 _ _ ⟨by omega, by omega⟩ (fun q => (At.mk h13 e16 (by omega) ⟨by omega, by omega⟩)) dX12_isLinked_25
  · refine v_aload_n B dX12_isLinked_10 rfl rfl ?_
    refine u_get B Z (C := RX12) (T := TX12) (N := 123) (ci := 12) hi_M_isLinked_X12 Y.o h6 rfl 7 (by decide +kernel) (List.mem_of_getElem? (i := 1) rfl) rfl dX12_isLinked_11 ?_
    refine v_iload_n B dX12_isLinked_14 rfl rfl ?_
    refine u_iald B Z (t0 := 0) (ym_7 Y) h13 rfl (by omega) e16 dX12_isLinked_15 ?_
    refine v_iconst B (v := iI 5) dX12_isLinked_16 rfl ?_
    refine u_icmp_ne B (tgt := 24) (by omega) (by omega) dX12_isLinked_17 (by decide +kernel) (fun c19 => ?_) (fun c19 => ?_)
    · refine v_iconst B (v := iI 0) dX12_isLinked_24 rfl ?_
      exact hend 0 _ _ ⟨by omega, by omega⟩ (fun q => by omega) dX12_isLinked_25
    · refine v_iconst B (v := iI 1) dX12_isLinked_20 rfl ?_
      refine v_goto B (tgt := 25) dX12_isLinked_21 (by decide +kernel) ?_
      exact hend 1 _ _ ⟨by omega, by omega⟩ (fun q => (At.mk h13 e16 (by omega) ⟨by omega, by omega⟩)) dX12_isLinked_25
set_option maxRecDepth 100000 in
theorem c_M_isLinked (l : Launch) (D : va_G) (K : Nat → ClassId) {τ : Nat → Option Ty} {dom : List Nat} (Z : Sk τ dom) (zb zL : Nat) (zx : Nat → Int32) (zs : Nat → Nat) (h : Nat) (q : Nat → Nat) (Y : MS τ h q) (d : Int) (r_d : 0 ≤ d ∧ d ≤ 1) (σ0 : Nat → va_E) (G0 : GT K h q σ0) : MZ l yX12_isLinked wp_M_isLinked ({ frames := 0, cells := 0, slots := 0, locals := 0 }) D (tysA K) [.ref h, .int (iI d)] (fd dom σ0) zb zL zx zs (Qi D (fun r σ' => σ0 = σ' ∧ ∃ z : Int, r = iI z ∧ (0 ≤ z ∧ z ≤ 1) ∧ (z = 1 → At σ0 (q 7) d.toNat 4 5)) (fun σ' => fd dom σ')) 0 0 := by
  refine mz_of (cc := cX12_isLinked) (maxL := 2) (ret := (some .boolean)) (by decide +kernel) rfl (Nat.le_of_ble_eq_true rfl) ?_
  intro p e s m below meth c A B hr hlk _ hz
  exact b_M_isLinked ⟨Nat.le_refl _, Nat.le_refl _⟩ B Z hz h q Y d r_d σ0 G0 (fun z lv pc hZ hP hd => v_zret B hr hlk (nar01 (by omega)) σ0 ⟨rfl, z, rfl, hZ, hP⟩ rfl (Nat.le_refl _) (Nat.le_refl _) hd)

def wp_M_fresh : List Cond := .code yX12_fresh cX12_fresh 2 none :: (([.fieldLink RX12 118 "LowEnergyModel" "channel" "[I", .fieldLink RX12 133 "LowEnergyModel" "reason" "[I", .fieldLink RX12 136 "LowEnergyModel" "ending" "[I", .fieldLink RX12 145 "LowEnergyModel" "hasGood" "[Z", .fieldLink RX12 149 "LowEnergyModel" "mapWaits" "[Z", .fieldLink RX12 182 "LowEnergyModel" "currentSort" "[I", .fieldLink RX12 185 "LowEnergyModel" "currentMany" "[I", .fieldLink RX12 188 "LowEnergyModel" "currentOp" "[I", .fieldLink RX12 191 "LowEnergyModel" "controls" "[I", .fieldLink RX12 224 "LowEnergyModel" "held" "[Z", .fieldLink RX12 227 "LowEnergyModel" "asked" "[Z", .fieldLink RX12 230 "LowEnergyModel" "hasFour" "[Z", .fieldLink RX12 233 "LowEnergyModel" "sealsOut" "[Z", .fieldLink RX12 236 "LowEnergyModel" "sealsIn" "[Z", .fieldLink RX12 194 "LowEnergyModel" "out" "[I", .fieldLink RX12 197 "LowEnergyModel" "opened" "[I", .fieldLink RX12 239 "LowEnergyModel" "isSecure" "[Z", .fieldLink RX12 242 "LowEnergyModel" "hasSession" "[Z", .fieldLink RX12 248 "LowEnergyModel" "toldVersion" "[Z", .fieldLink RX12 275 "LowEnergyModel" "messages" "[I", .fieldLink RX12 278 "LowEnergyModel" "taken" "[I", .fieldLink RX12 287 "LowEnergyModel" "begun" "[Z", .fieldLink RX12 296 "LowEnergyModel" "step" "[I", .fieldLink RX12 332 "LowEnergyModel" "mtu" "[I", .fieldLink RX12 338 "LowEnergyModel" "parts" "[I", .fieldLink RX12 362 "LowEnergyModel" "waits30" "[Z", .fieldLink RX12 365 "LowEnergyModel" "job" "[I"] : List Cond) ++ (wsX120 ++ ([])))
theorem hi_M_fresh_X12 : ∀ x ∈ u_ws RX12 TX12 123, x ∈ wp_M_fresh := fun _ h => List.mem_cons_of_mem _ (List.mem_append_right _ (List.mem_append_left _ h))
set_option maxHeartbeats 4000000 in
set_option maxRecDepth 100000 in
theorem b_M_fresh {p : Program} {l : Launch} {e : Env} {R : Room} {s : State} {m : MethodId} {args : Array Value} {below : List Frame} {meth : Method} {c : Code} {D : va_G} {K : Nat → ClassId} {A : Nat → Prop} {Q : State → Prop} {τ : Nat → Option Ty} {dom : List Nat} {zb zL : Nat} {zx : Nat → Int32} {zs : Nat → Nat} (hR : 0 ≤ R.frames ∧ 0 ≤ R.locals) (B : Bx p s m args c cX12_fresh 2 RX12 wp_M_fresh D (tysA K) A) (Z : Sk τ dom) (hz : ZL zb zL zx zs A s s.heap) (h : Nat) (q : Nat → Nat) (Y : MS τ h q) (d : Int) (r_d : 0 ≤ d ∧ d ≤ 1) (σ0 : Nat → va_E) (G0 : GM K h q σ0) (hend : ∀ (σ' : Nat → va_E) (lv : List (Nat × Value)) (pc : Nat), GM K h q σ' → Fr τ [(131, 0), (136, 0), (137, 0), (140, 0), (141, 0), (154, 0), (155, 0), (156, 0), (157, 0), (168, 0), (169, 0), (170, 0), (171, 0), (172, 0), (158, 0), (159, 0), (173, 0), (174, 0), (176, 0), (185, 0), (186, 0), (189, 0), (192, 0), (204, 0), (206, 0), (214, 0), (216, 0)] σ0 σ' → decode cX12_fresh pc = .ok (.return_, 1) → V p l e R s m args below meth c 2 D A Q (0, 0) (fd dom σ') lv pc []) : V p l e R s m args below meth c 2 D A Q (0, 0) (fd dom σ0) [(0, .ref h), (1, .int (iI d))] 0 [] := by
  have F0 : Fr τ [(131, 0), (136, 0), (137, 0), (140, 0), (141, 0), (154, 0), (155, 0), (156, 0), (157, 0), (168, 0), (169, 0), (170, 0), (171, 0), (172, 0), (158, 0), (159, 0), (173, 0), (174, 0), (176, 0), (185, 0), (186, 0), (189, 0), (192, 0), (204, 0), (206, 0), (214, 0), (216, 0)] σ0 σ0 := Fr.rf
  obtain ⟨z1, z2, z3, z4, z5, h6, r7, r8, r9, r10, r11⟩ := G0.t.o
  refine v_aload_n B dX12_fresh_0 rfl rfl ?_
  refine u_get B Z (C := RX12) (T := TX12) (N := 123) (ci := 12) hi_M_fresh_X12 Y.o h6 rfl 31 (by decide +kernel) (List.mem_of_getElem? (i := 1) rfl) rfl dX12_fresh_1 ?_
  refine v_iload_n B dX12_fresh_4 rfl rfl ?_
  refine v_iconst B (v := iI (-1)) dX12_fresh_5 rfl ?_
  obtain ⟨f12, h13, e14⟩ := ga_31 G0.t
  refine u_iast B Z (t0 := 0) (x := iI (-1)) (ym_31 Y) h13 rfl (by omega) dX12_fresh_6 (fun σ15 h16 n17 => ?_)
  have e18 := el_upd (z := (-1)) e14 ⟨by omega, by omega⟩ (d : Int).toNat
  have F19 := F0.put (ym_31 Y) (by simp) n17
  have G20 := gp_31 Y G0 ⟨_, h16, e18⟩ n17
  refine v_aload_n B dX12_fresh_7 rfl rfl ?_
  have h21 := (n17 h (ne_ty Y.o (ym_31 Y) (by decide))).trans (h6)
  refine u_get B Z (C := RX12) (T := TX12) (N := 123) (ci := 12) hi_M_fresh_X12 Y.o h21 rfl 36 (by decide +kernel) (List.mem_of_getElem? (i := 2) rfl) rfl dX12_fresh_8 ?_
  refine v_iload_n B dX12_fresh_11 rfl rfl ?_
  refine v_iconst B (v := iI (-1)) dX12_fresh_12 rfl ?_
  obtain ⟨f22, h23, e24⟩ := ga_36 G20.t
  refine u_iast B Z (t0 := 0) (x := iI (-1)) (ym_36 Y) h23 rfl (by omega) dX12_fresh_13 (fun σ25 h26 n27 => ?_)
  have e28 := el_upd (z := (-1)) e24 ⟨by omega, by omega⟩ (d : Int).toNat
  have F29 := F19.put (ym_36 Y) (by simp) n27
  have G30 := gp_36 Y G20 ⟨_, h26, e28⟩ n27
  refine v_aload_n B dX12_fresh_14 rfl rfl ?_
  have h31 := (n27 h (ne_ty Y.o (ym_36 Y) (by decide))).trans (h21)
  refine u_get B Z (C := RX12) (T := TX12) (N := 123) (ci := 12) hi_M_fresh_X12 Y.o h31 rfl 37 (by decide +kernel) (List.mem_of_getElem? (i := 3) rfl) rfl dX12_fresh_15 ?_
  refine v_iload_n B dX12_fresh_18 rfl rfl ?_
  refine v_iconst B (v := iI (-1)) dX12_fresh_19 rfl ?_
  obtain ⟨f32, h33, e34⟩ := ga_37 G30.t
  refine u_iast B Z (t0 := 0) (x := iI (-1)) (ym_37 Y) h33 rfl (by omega) dX12_fresh_20 (fun σ35 h36 n37 => ?_)
  have e38 := el_upd (z := (-1)) e34 ⟨by omega, by omega⟩ (d : Int).toNat
  have F39 := F29.put (ym_37 Y) (by simp) n37
  have G40 := gp_37 Y G30 ⟨_, h36, e38⟩ n37
  refine v_aload_n B dX12_fresh_21 rfl rfl ?_
  have h41 := (n37 h (ne_ty Y.o (ym_37 Y) (by decide))).trans (h31)
  refine u_get B Z (C := RX12) (T := TX12) (N := 123) (ci := 12) hi_M_fresh_X12 Y.o h41 rfl 40 (by decide +kernel) (List.mem_of_getElem? (i := 4) rfl) rfl dX12_fresh_22 ?_
  refine v_iload_n B dX12_fresh_25 rfl rfl ?_
  refine v_iconst B (v := iI 0) dX12_fresh_26 rfl ?_
  obtain ⟨f42, h43, e44⟩ := ga_40 G40.t
  refine u_zast B Z (t0 := 3) (x := iI 0) (y := iI 0) (ym_40 Y) h43 rfl (by omega) (narZ (by omega)) dX12_fresh_27 (fun σ45 h46 n47 => ?_)
  have e48 := el_upd (z := 0) e44 ⟨by omega, by omega⟩ (d : Int).toNat
  have F49 := F39.put (ym_40 Y) (by simp) n47
  have G50 := gp_40 Y G40 ⟨_, h46, e48⟩ n47
  refine v_aload_n B dX12_fresh_28 rfl rfl ?_
  have h51 := (n47 h (ne_ty Y.o (ym_40 Y) (by decide))).trans (h41)
  refine u_get B Z (C := RX12) (T := TX12) (N := 123) (ci := 12) hi_M_fresh_X12 Y.o h51 rfl 41 (by decide +kernel) (List.mem_of_getElem? (i := 5) rfl) rfl dX12_fresh_29 ?_
  refine v_iload_n B dX12_fresh_32 rfl rfl ?_
  refine v_iconst B (v := iI 0) dX12_fresh_33 rfl ?_
  obtain ⟨f52, h53, e54⟩ := ga_41 G50.t
  obtain ⟨f55, h56⟩ := ga_16 G50.t
  have ra58 := G50.d _ _ _ _ _ _ h53 h56
  refine u_zast B Z (t0 := 3) (x := iI 0) (y := iI 0) (ym_41 Y) h53 rfl (by omega) (narZ (by omega)) dX12_fresh_34 (fun σ59 h60 n61 => ?_)
  have e62 := el_upd (z := 0) e54 ⟨by omega, by omega⟩ (d : Int).toNat
  have F63 := F49.put (ym_41 Y) (by simp) n61
  have T64 := gp_41 Y G50.t ⟨_, h60, e62⟩ n61
  have R65 := (G50.a).kept (n61 _ (ne_ty (ym_85 Y) (ym_41 Y) (by decide))) (n61 _ (ne_ty (ym_86 Y) (ym_41 Y) (by decide))) (n61 _ (ne_ty (ym_84 Y) (ym_41 Y) (by decide)))
  have R66 := (G50.b).kept (n61 _ (ne_ty (ym_106 Y) (ym_41 Y) (by decide))) (n61 _ (ne_ty (ym_110 Y) (ym_41 Y) (by decide)))
  have R67 := (G50.c).kept (n61 _ (ne_ty (ym_7 Y) (ym_41 Y) (by decide))) (n61 _ (ne_ty (ym_15 Y) (ym_41 Y) (by decide)))
  have h68 := (n61 (q 16) (ne_ty (ym_16 Y) (ym_41 Y) (by decide))).trans (h56)
  have R69 : RelD q σ59 := RelD.mk h60 h68 (RC.set ra58 (d : Int).toNat (fun i hi => upd_n hi) (fun _ _ => rfl) (fun x e1 r1 hx => by have a1 : 0 = x := (iI_eq (by omega) r1).mp ((upd_s).symm.trans e1); omega))
  have G70 : GM K h q σ59 := ⟨T64, R65, R66, R67, R69⟩
  refine v_aload_n B dX12_fresh_35 rfl rfl ?_
  have h71 := (n61 h (ne_ty Y.o (ym_41 Y) (by decide))).trans (h51)
  refine u_get B Z (C := RX12) (T := TX12) (N := 123) (ci := 12) hi_M_fresh_X12 Y.o h71 rfl 54 (by decide +kernel) (List.mem_of_getElem? (i := 6) rfl) rfl dX12_fresh_36 ?_
  refine v_iload_n B dX12_fresh_39 rfl rfl ?_
  refine v_iconst B (v := iI 0) dX12_fresh_40 rfl ?_
  obtain ⟨f72, h73, e74⟩ := ga_54 G70.t
  refine u_iast B Z (t0 := 0) (x := iI 0) (ym_54 Y) h73 rfl (by omega) dX12_fresh_41 (fun σ75 h76 n77 => ?_)
  have e78 := el_upd (z := 0) e74 ⟨by omega, by omega⟩ (d : Int).toNat
  have F79 := F63.put (ym_54 Y) (by simp) n77
  have G80 := gp_54 Y G70 ⟨_, h76, e78⟩ n77
  refine v_aload_n B dX12_fresh_42 rfl rfl ?_
  have h81 := (n77 h (ne_ty Y.o (ym_54 Y) (by decide))).trans (h71)
  refine u_get B Z (C := RX12) (T := TX12) (N := 123) (ci := 12) hi_M_fresh_X12 Y.o h81 rfl 55 (by decide +kernel) (List.mem_of_getElem? (i := 7) rfl) rfl dX12_fresh_43 ?_
  refine v_iload_n B dX12_fresh_46 rfl rfl ?_
  refine v_iconst B (v := iI 0) dX12_fresh_47 rfl ?_
  obtain ⟨f82, h83, e84⟩ := ga_55 G80.t
  refine u_iast B Z (t0 := 0) (x := iI 0) (ym_55 Y) h83 rfl (by omega) dX12_fresh_48 (fun σ85 h86 n87 => ?_)
  have e88 := el_upd (z := 0) e84 ⟨by omega, by omega⟩ (d : Int).toNat
  have F89 := F79.put (ym_55 Y) (by simp) n87
  have G90 := gp_55 Y G80 ⟨_, h86, e88⟩ n87
  refine v_aload_n B dX12_fresh_49 rfl rfl ?_
  have h91 := (n87 h (ne_ty Y.o (ym_55 Y) (by decide))).trans (h81)
  refine u_get B Z (C := RX12) (T := TX12) (N := 123) (ci := 12) hi_M_fresh_X12 Y.o h91 rfl 56 (by decide +kernel) (List.mem_of_getElem? (i := 8) rfl) rfl dX12_fresh_50 ?_
  refine v_iload_n B dX12_fresh_53 rfl rfl ?_
  refine v_iconst B (v := iI 0) dX12_fresh_54 rfl ?_
  obtain ⟨f92, h93, e94⟩ := ga_56 G90.t
  refine u_iast B Z (t0 := 0) (x := iI 0) (ym_56 Y) h93 rfl (by omega) dX12_fresh_55 (fun σ95 h96 n97 => ?_)
  have e98 := el_upd (z := 0) e94 ⟨by omega, by omega⟩ (d : Int).toNat
  have F99 := F89.put (ym_56 Y) (by simp) n97
  have G100 := gp_56 Y G90 ⟨_, h96, e98⟩ n97
  refine v_aload_n B dX12_fresh_56 rfl rfl ?_
  have h101 := (n97 h (ne_ty Y.o (ym_56 Y) (by decide))).trans (h91)
  refine u_get B Z (C := RX12) (T := TX12) (N := 123) (ci := 12) hi_M_fresh_X12 Y.o h101 rfl 57 (by decide +kernel) (List.mem_of_getElem? (i := 9) rfl) rfl dX12_fresh_57 ?_
  refine v_iload_n B dX12_fresh_60 rfl rfl ?_
  refine v_iconst B (v := iI 0) dX12_fresh_61 rfl ?_
  obtain ⟨f102, h103, e104⟩ := ga_57 G100.t
  refine u_iast B Z (t0 := 0) (x := iI 0) (ym_57 Y) h103 rfl (by omega) dX12_fresh_62 (fun σ105 h106 n107 => ?_)
  have e108 := el_upd (z := 0) e104 ⟨by omega, by omega⟩ (d : Int).toNat
  have F109 := F99.put (ym_57 Y) (by simp) n107
  have G110 := gp_57 Y G100 ⟨_, h106, e108⟩ n107
  refine v_aload_n B dX12_fresh_63 rfl rfl ?_
  have h111 := (n107 h (ne_ty Y.o (ym_57 Y) (by decide))).trans (h101)
  refine u_get B Z (C := RX12) (T := TX12) (N := 123) (ci := 12) hi_M_fresh_X12 Y.o h111 rfl 68 (by decide +kernel) (List.mem_of_getElem? (i := 10) rfl) rfl dX12_fresh_64 ?_
  refine v_iload_n B dX12_fresh_67 rfl rfl ?_
  refine v_iconst B (v := iI 0) dX12_fresh_68 rfl ?_
  obtain ⟨f112, h113, e114⟩ := ga_68 G110.t
  refine u_zast B Z (t0 := 3) (x := iI 0) (y := iI 0) (ym_68 Y) h113 rfl (by omega) (narZ (by omega)) dX12_fresh_69 (fun σ115 h116 n117 => ?_)
  have e118 := el_upd (z := 0) e114 ⟨by omega, by omega⟩ (d : Int).toNat
  have F119 := F109.put (ym_68 Y) (by simp) n117
  have G120 := gp_68 Y G110 ⟨_, h116, e118⟩ n117
  refine v_aload_n B dX12_fresh_70 rfl rfl ?_
  have h121 := (n117 h (ne_ty Y.o (ym_68 Y) (by decide))).trans (h111)
  refine u_get B Z (C := RX12) (T := TX12) (N := 123) (ci := 12) hi_M_fresh_X12 Y.o h121 rfl 69 (by decide +kernel) (List.mem_of_getElem? (i := 11) rfl) rfl dX12_fresh_71 ?_
  refine v_iload_n B dX12_fresh_74 rfl rfl ?_
  refine v_iconst B (v := iI 0) dX12_fresh_75 rfl ?_
  obtain ⟨f122, h123, e124⟩ := ga_69 G120.t
  refine u_zast B Z (t0 := 3) (x := iI 0) (y := iI 0) (ym_69 Y) h123 rfl (by omega) (narZ (by omega)) dX12_fresh_76 (fun σ125 h126 n127 => ?_)
  have e128 := el_upd (z := 0) e124 ⟨by omega, by omega⟩ (d : Int).toNat
  have F129 := F119.put (ym_69 Y) (by simp) n127
  have G130 := gp_69 Y G120 ⟨_, h126, e128⟩ n127
  refine v_aload_n B dX12_fresh_77 rfl rfl ?_
  have h131 := (n127 h (ne_ty Y.o (ym_69 Y) (by decide))).trans (h121)
  refine u_get B Z (C := RX12) (T := TX12) (N := 123) (ci := 12) hi_M_fresh_X12 Y.o h131 rfl 70 (by decide +kernel) (List.mem_of_getElem? (i := 12) rfl) rfl dX12_fresh_78 ?_
  refine v_iload_n B dX12_fresh_81 rfl rfl ?_
  refine v_iconst B (v := iI 0) dX12_fresh_82 rfl ?_
  obtain ⟨f132, h133, e134⟩ := ga_70 G130.t
  refine u_zast B Z (t0 := 3) (x := iI 0) (y := iI 0) (ym_70 Y) h133 rfl (by omega) (narZ (by omega)) dX12_fresh_83 (fun σ135 h136 n137 => ?_)
  have e138 := el_upd (z := 0) e134 ⟨by omega, by omega⟩ (d : Int).toNat
  have F139 := F129.put (ym_70 Y) (by simp) n137
  have G140 := gp_70 Y G130 ⟨_, h136, e138⟩ n137
  refine v_aload_n B dX12_fresh_84 rfl rfl ?_
  have h141 := (n137 h (ne_ty Y.o (ym_70 Y) (by decide))).trans (h131)
  refine u_get B Z (C := RX12) (T := TX12) (N := 123) (ci := 12) hi_M_fresh_X12 Y.o h141 rfl 71 (by decide +kernel) (List.mem_of_getElem? (i := 13) rfl) rfl dX12_fresh_85 ?_
  refine v_iload_n B dX12_fresh_88 rfl rfl ?_
  refine v_iconst B (v := iI 0) dX12_fresh_89 rfl ?_
  obtain ⟨f142, h143, e144⟩ := ga_71 G140.t
  refine u_zast B Z (t0 := 3) (x := iI 0) (y := iI 0) (ym_71 Y) h143 rfl (by omega) (narZ (by omega)) dX12_fresh_90 (fun σ145 h146 n147 => ?_)
  have e148 := el_upd (z := 0) e144 ⟨by omega, by omega⟩ (d : Int).toNat
  have F149 := F139.put (ym_71 Y) (by simp) n147
  have G150 := gp_71 Y G140 ⟨_, h146, e148⟩ n147
  refine v_aload_n B dX12_fresh_91 rfl rfl ?_
  have h151 := (n147 h (ne_ty Y.o (ym_71 Y) (by decide))).trans (h141)
  refine u_get B Z (C := RX12) (T := TX12) (N := 123) (ci := 12) hi_M_fresh_X12 Y.o h151 rfl 72 (by decide +kernel) (List.mem_of_getElem? (i := 14) rfl) rfl dX12_fresh_92 ?_
  refine v_iload_n B dX12_fresh_95 rfl rfl ?_
  refine v_iconst B (v := iI 0) dX12_fresh_96 rfl ?_
  obtain ⟨f152, h153, e154⟩ := ga_72 G150.t
  refine u_zast B Z (t0 := 3) (x := iI 0) (y := iI 0) (ym_72 Y) h153 rfl (by omega) (narZ (by omega)) dX12_fresh_97 (fun σ155 h156 n157 => ?_)
  have e158 := el_upd (z := 0) e154 ⟨by omega, by omega⟩ (d : Int).toNat
  have F159 := F149.put (ym_72 Y) (by simp) n157
  have G160 := gp_72 Y G150 ⟨_, h156, e158⟩ n157
  refine v_aload_n B dX12_fresh_98 rfl rfl ?_
  have h161 := (n157 h (ne_ty Y.o (ym_72 Y) (by decide))).trans (h151)
  refine u_get B Z (C := RX12) (T := TX12) (N := 123) (ci := 12) hi_M_fresh_X12 Y.o h161 rfl 58 (by decide +kernel) (List.mem_of_getElem? (i := 15) rfl) rfl dX12_fresh_99 ?_
  refine v_iload_n B dX12_fresh_102 rfl rfl ?_
  refine v_iconst B (v := iI 0) dX12_fresh_103 rfl ?_
  obtain ⟨f162, h163, e164⟩ := ga_58 G160.t
  refine u_iast B Z (t0 := 0) (x := iI 0) (ym_58 Y) h163 rfl (by omega) dX12_fresh_104 (fun σ165 h166 n167 => ?_)
  have e168 := el_upd (z := 0) e164 ⟨by omega, by omega⟩ (d : Int).toNat
  have F169 := F159.put (ym_58 Y) (by simp) n167
  have G170 := gp_58 Y G160 ⟨_, h166, e168⟩ n167
  refine v_aload_n B dX12_fresh_105 rfl rfl ?_
  have h171 := (n167 h (ne_ty Y.o (ym_58 Y) (by decide))).trans (h161)
  refine u_get B Z (C := RX12) (T := TX12) (N := 123) (ci := 12) hi_M_fresh_X12 Y.o h171 rfl 59 (by decide +kernel) (List.mem_of_getElem? (i := 16) rfl) rfl dX12_fresh_106 ?_
  refine v_iload_n B dX12_fresh_109 rfl rfl ?_
  refine v_iconst B (v := iI 0) dX12_fresh_110 rfl ?_
  obtain ⟨f172, h173, e174⟩ := ga_59 G170.t
  refine u_iast B Z (t0 := 0) (x := iI 0) (ym_59 Y) h173 rfl (by omega) dX12_fresh_111 (fun σ175 h176 n177 => ?_)
  have e178 := el_upd (z := 0) e174 ⟨by omega, by omega⟩ (d : Int).toNat
  have F179 := F169.put (ym_59 Y) (by simp) n177
  have G180 := gp_59 Y G170 ⟨_, h176, e178⟩ n177
  refine v_aload_n B dX12_fresh_112 rfl rfl ?_
  have h181 := (n177 h (ne_ty Y.o (ym_59 Y) (by decide))).trans (h171)
  refine u_get B Z (C := RX12) (T := TX12) (N := 123) (ci := 12) hi_M_fresh_X12 Y.o h181 rfl 73 (by decide +kernel) (List.mem_of_getElem? (i := 17) rfl) rfl dX12_fresh_113 ?_
  refine v_iload_n B dX12_fresh_116 rfl rfl ?_
  refine v_iconst B (v := iI 0) dX12_fresh_117 rfl ?_
  obtain ⟨f182, h183, e184⟩ := ga_73 G180.t
  refine u_zast B Z (t0 := 3) (x := iI 0) (y := iI 0) (ym_73 Y) h183 rfl (by omega) (narZ (by omega)) dX12_fresh_118 (fun σ185 h186 n187 => ?_)
  have e188 := el_upd (z := 0) e184 ⟨by omega, by omega⟩ (d : Int).toNat
  have F189 := F179.put (ym_73 Y) (by simp) n187
  have G190 := gp_73 Y G180 ⟨_, h186, e188⟩ n187
  refine v_aload_n B dX12_fresh_119 rfl rfl ?_
  have h191 := (n187 h (ne_ty Y.o (ym_73 Y) (by decide))).trans (h181)
  refine u_get B Z (C := RX12) (T := TX12) (N := 123) (ci := 12) hi_M_fresh_X12 Y.o h191 rfl 74 (by decide +kernel) (List.mem_of_getElem? (i := 18) rfl) rfl dX12_fresh_120 ?_
  refine v_iload_n B dX12_fresh_123 rfl rfl ?_
  refine v_iconst B (v := iI 0) dX12_fresh_124 rfl ?_
  obtain ⟨f192, h193, e194⟩ := ga_74 G190.t
  refine u_zast B Z (t0 := 3) (x := iI 0) (y := iI 0) (ym_74 Y) h193 rfl (by omega) (narZ (by omega)) dX12_fresh_125 (fun σ195 h196 n197 => ?_)
  have e198 := el_upd (z := 0) e194 ⟨by omega, by omega⟩ (d : Int).toNat
  have F199 := F189.put (ym_74 Y) (by simp) n197
  have G200 := gp_74 Y G190 ⟨_, h196, e198⟩ n197
  refine v_aload_n B dX12_fresh_126 rfl rfl ?_
  have h201 := (n197 h (ne_ty Y.o (ym_74 Y) (by decide))).trans (h191)
  refine u_get B Z (C := RX12) (T := TX12) (N := 123) (ci := 12) hi_M_fresh_X12 Y.o h201 rfl 76 (by decide +kernel) (List.mem_of_getElem? (i := 19) rfl) rfl dX12_fresh_127 ?_
  refine v_iload_n B dX12_fresh_130 rfl rfl ?_
  refine v_iconst B (v := iI 0) dX12_fresh_131 rfl ?_
  obtain ⟨f202, h203, e204⟩ := ga_76 G200.t
  refine u_zast B Z (t0 := 3) (x := iI 0) (y := iI 0) (ym_76 Y) h203 rfl (by omega) (narZ (by omega)) dX12_fresh_132 (fun σ205 h206 n207 => ?_)
  have e208 := el_upd (z := 0) e204 ⟨by omega, by omega⟩ (d : Int).toNat
  have F209 := F199.put (ym_76 Y) (by simp) n207
  have G210 := gp_76 Y G200 ⟨_, h206, e208⟩ n207
  refine v_aload_n B dX12_fresh_133 rfl rfl ?_
  have h211 := (n207 h (ne_ty Y.o (ym_76 Y) (by decide))).trans (h201)
  refine u_get B Z (C := RX12) (T := TX12) (N := 123) (ci := 12) hi_M_fresh_X12 Y.o h211 rfl 85 (by decide +kernel) (List.mem_of_getElem? (i := 20) rfl) rfl dX12_fresh_134 ?_
  refine v_iload_n B dX12_fresh_137 rfl rfl ?_
  refine v_iconst B (v := iI 0) dX12_fresh_138 rfl ?_
  obtain ⟨f212, h213, e214⟩ := ga_85 G210.t
  obtain ⟨f215, h216, e217⟩ := ga_86 G210.t
  obtain ⟨f218, h219, e220⟩ := ga_84 G210.t
  obtain ⟨z221, e222, r223⟩ := e214 (d : Int).toNat
  obtain ⟨z224, e225, r226⟩ := e217 (d : Int).toNat
  have ra227 := G210.a _ _ _ _ _ _ _ _ _ h213 h216 h219
  refine u_iast B Z (t0 := 0) (x := iI 0) (ym_85 Y) h213 rfl (by omega) dX12_fresh_139 (fun σ228 h229 n230 => ?_)
  have e231 := el_upd (z := 0) e214 ⟨by omega, by omega⟩ (d : Int).toNat
  have F232 := F209.put (ym_85 Y) (by simp) n230
  have T233 := gp_85 Y G210.t ⟨_, h229, e231⟩ n230
  have R234 := (G210.b).kept (n230 _ (ne_ty (ym_106 Y) (ym_85 Y) (by decide))) (n230 _ (ne_ty (ym_110 Y) (ym_85 Y) (by decide)))
  have R235 := (G210.c).kept (n230 _ (ne_ty (ym_7 Y) (ym_85 Y) (by decide))) (n230 _ (ne_ty (ym_15 Y) (ym_85 Y) (by decide)))
  have R236 := (G210.d).kept (n230 _ (ne_ty (ym_41 Y) (ym_85 Y) (by decide))) (n230 _ (ne_ty (ym_16 Y) (ym_85 Y) (by decide)))
  refine v_aload_n B dX12_fresh_140 rfl rfl ?_
  have h237 := (n230 h (ne_ty Y.o (ym_85 Y) (by decide))).trans (h211)
  refine u_get B Z (C := RX12) (T := TX12) (N := 123) (ci := 12) hi_M_fresh_X12 Y.o h237 rfl 86 (by decide +kernel) (List.mem_of_getElem? (i := 21) rfl) rfl dX12_fresh_141 ?_
  refine v_iload_n B dX12_fresh_144 rfl rfl ?_
  refine v_iconst B (v := iI 0) dX12_fresh_145 rfl ?_
  have h238 := (n230 (q 86) (ne_ty (ym_86 Y) (ym_85 Y) (by decide))).trans (h216)
  refine u_iast B Z (t0 := 0) (x := iI 0) (ym_86 Y) h238 rfl (by omega) dX12_fresh_146 (fun σ239 h240 n241 => ?_)
  have e242 := el_upd (z := 0) e217 ⟨by omega, by omega⟩ (d : Int).toNat
  have F243 := F232.put (ym_86 Y) (by simp) n241
  have T244 := gp_86 Y T233 ⟨_, h240, e242⟩ n241
  have R245 := (R234).kept (n241 _ (ne_ty (ym_106 Y) (ym_86 Y) (by decide))) (n241 _ (ne_ty (ym_110 Y) (ym_86 Y) (by decide)))
  have R246 := (R235).kept (n241 _ (ne_ty (ym_7 Y) (ym_86 Y) (by decide))) (n241 _ (ne_ty (ym_15 Y) (ym_86 Y) (by decide)))
  have R247 := (R236).kept (n241 _ (ne_ty (ym_41 Y) (ym_86 Y) (by decide))) (n241 _ (ne_ty (ym_16 Y) (ym_86 Y) (by decide)))
  have h248 := (n241 (q 85) (ne_ty (ym_85 Y) (ym_86 Y) (by decide))).trans (h229)
  have h249 := (n241 (q 84) (ne_ty (ym_84 Y) (ym_86 Y) (by decide))).trans ((n230 (q 84) (ne_ty (ym_84 Y) (ym_85 Y) (by decide))).trans (h219))
  have R250 : RelA q σ239 := RelA.mk h248 h240 h249 (RA.set ra227 (d : Int).toNat (fun i hi => upd_n hi) (fun i hi => upd_n hi) (fun _ _ _ => rfl) (fun x y z e1 e2 e3 r1 r2 r3 => by have a1 : 0 = x := (iI_eq (by omega) r1).mp ((upd_s).symm.trans e1); have a2 : 0 = y := (iI_eq (by omega) r2).mp ((upd_s).symm.trans e2); obtain ⟨z9, e9, r9⟩ := e220 (8 * (d : Int).toNat); have ro := ra227 (d : Int).toNat (by omega) z221 z224 z9 e222 e225 e9 (by omega) (by omega) (by omega); have a3 : z9 = z := (iI_eq (by omega) r3).mp (e9.symm.trans e3); omega))
  have G251 : GM K h q σ239 := ⟨T244, R250, R245, R246, R247⟩
  refine v_aload_n B dX12_fresh_147 rfl rfl ?_
  have h252 := (n241 h (ne_ty Y.o (ym_86 Y) (by decide))).trans (h237)
  refine u_get B Z (C := RX12) (T := TX12) (N := 123) (ci := 12) hi_M_fresh_X12 Y.o h252 rfl 89 (by decide +kernel) (List.mem_of_getElem? (i := 22) rfl) rfl dX12_fresh_148 ?_
  refine v_iload_n B dX12_fresh_151 rfl rfl ?_
  refine v_iconst B (v := iI 0) dX12_fresh_152 rfl ?_
  obtain ⟨f253, h254, e255⟩ := ga_89 G251.t
  refine u_zast B Z (t0 := 3) (x := iI 0) (y := iI 0) (ym_89 Y) h254 rfl (by omega) (narZ (by omega)) dX12_fresh_153 (fun σ256 h257 n258 => ?_)
  have e259 := el_upd (z := 0) e255 ⟨by omega, by omega⟩ (d : Int).toNat
  have F260 := F243.put (ym_89 Y) (by simp) n258
  have G261 := gp_89 Y G251 ⟨_, h257, e259⟩ n258
  refine v_aload_n B dX12_fresh_154 rfl rfl ?_
  have h262 := (n258 h (ne_ty Y.o (ym_89 Y) (by decide))).trans (h252)
  refine u_get B Z (C := RX12) (T := TX12) (N := 123) (ci := 12) hi_M_fresh_X12 Y.o h262 rfl 92 (by decide +kernel) (List.mem_of_getElem? (i := 23) rfl) rfl dX12_fresh_155 ?_
  refine v_iload_n B dX12_fresh_158 rfl rfl ?_
  refine v_iconst B (v := iI 0) dX12_fresh_159 rfl ?_
  obtain ⟨f263, h264, e265⟩ := ga_92 G261.t
  refine u_iast B Z (t0 := 0) (x := iI 0) (ym_92 Y) h264 rfl (by omega) dX12_fresh_160 (fun σ266 h267 n268 => ?_)
  have e269 := el_upd (z := 0) e265 ⟨by omega, by omega⟩ (d : Int).toNat
  have F270 := F260.put (ym_92 Y) (by simp) n268
  have G271 := gp_92 Y G261 ⟨_, h267, e269⟩ n268
  refine v_aload_n B dX12_fresh_161 rfl rfl ?_
  have h272 := (n268 h (ne_ty Y.o (ym_92 Y) (by decide))).trans (h262)
  refine u_get B Z (C := RX12) (T := TX12) (N := 123) (ci := 12) hi_M_fresh_X12 Y.o h272 rfl 104 (by decide +kernel) (List.mem_of_getElem? (i := 24) rfl) rfl dX12_fresh_162 ?_
  refine v_iload_n B dX12_fresh_165 rfl rfl ?_
  refine v_bipush B (v := iI 23) dX12_fresh_166 (by decide +kernel) ?_
  obtain ⟨f273, h274, e275⟩ := ga_104 G271.t
  refine u_iast B Z (t0 := 0) (x := iI 23) (ym_104 Y) h274 rfl (by omega) dX12_fresh_168 (fun σ276 h277 n278 => ?_)
  have e279 := el_upd (z := 23) e275 ⟨by omega, by omega⟩ (d : Int).toNat
  have F280 := F270.put (ym_104 Y) (by simp) n278
  have G281 := gp_104 Y G271 ⟨_, h277, e279⟩ n278
  refine v_aload_n B dX12_fresh_169 rfl rfl ?_
  have h282 := (n278 h (ne_ty Y.o (ym_104 Y) (by decide))).trans (h272)
  refine u_get B Z (C := RX12) (T := TX12) (N := 123) (ci := 12) hi_M_fresh_X12 Y.o h282 rfl 106 (by decide +kernel) (List.mem_of_getElem? (i := 25) rfl) rfl dX12_fresh_170 ?_
  refine v_iload_n B dX12_fresh_173 rfl rfl ?_
  refine v_iconst B (v := iI 0) dX12_fresh_174 rfl ?_
  obtain ⟨f283, h284, e285⟩ := ga_106 G281.t
  obtain ⟨f286, h287, e288⟩ := ga_110 G281.t
  have ra289 := G281.b _ _ _ _ _ _ h284 h287
  refine u_iast B Z (t0 := 0) (x := iI 0) (ym_106 Y) h284 rfl (by omega) dX12_fresh_175 (fun σ290 h291 n292 => ?_)
  have e293 := el_upd (z := 0) e285 ⟨by omega, by omega⟩ (d : Int).toNat
  have F294 := F280.put (ym_106 Y) (by simp) n292
  have T295 := gp_106 Y G281.t ⟨_, h291, e293⟩ n292
  have R296 := (G281.a).kept (n292 _ (ne_ty (ym_85 Y) (ym_106 Y) (by decide))) (n292 _ (ne_ty (ym_86 Y) (ym_106 Y) (by decide))) (n292 _ (ne_ty (ym_84 Y) (ym_106 Y) (by decide)))
  have R297 := (G281.c).kept (n292 _ (ne_ty (ym_7 Y) (ym_106 Y) (by decide))) (n292 _ (ne_ty (ym_15 Y) (ym_106 Y) (by decide)))
  have R298 := (G281.d).kept (n292 _ (ne_ty (ym_41 Y) (ym_106 Y) (by decide))) (n292 _ (ne_ty (ym_16 Y) (ym_106 Y) (by decide)))
  have h299 := (n292 (q 110) (ne_ty (ym_110 Y) (ym_106 Y) (by decide))).trans (h287)
  have R300 : RelB q σ290 := RelB.mk h291 h299 (RB.set ra289 (d : Int).toNat (fun i hi => upd_n hi) (fun _ _ _ _ _ => rfl) e285 (fun x e1 r1 k hk z e3 r3 => by have a1 : 0 = x := (iI_eq (by omega) r1).mp ((upd_s).symm.trans e1); omega))
  have G301 : GM K h q σ290 := ⟨T295, R296, R300, R297, R298⟩
  refine v_aload_n B dX12_fresh_176 rfl rfl ?_
  have h302 := (n292 h (ne_ty Y.o (ym_106 Y) (by decide))).trans (h282)
  refine u_get B Z (C := RX12) (T := TX12) (N := 123) (ci := 12) hi_M_fresh_X12 Y.o h302 rfl 114 (by decide +kernel) (List.mem_of_getElem? (i := 26) rfl) rfl dX12_fresh_177 ?_
  refine v_iload_n B dX12_fresh_180 rfl rfl ?_
  refine v_iconst B (v := iI 0) dX12_fresh_181 rfl ?_
  obtain ⟨f303, h304, e305⟩ := ga_114 G301.t
  refine u_zast B Z (t0 := 3) (x := iI 0) (y := iI 0) (ym_114 Y) h304 rfl (by omega) (narZ (by omega)) dX12_fresh_182 (fun σ306 h307 n308 => ?_)
  have e309 := el_upd (z := 0) e305 ⟨by omega, by omega⟩ (d : Int).toNat
  have F310 := F294.put (ym_114 Y) (by simp) n308
  have G311 := gp_114 Y G301 ⟨_, h307, e309⟩ n308
  refine v_aload_n B dX12_fresh_183 rfl rfl ?_
  have h312 := (n308 h (ne_ty Y.o (ym_114 Y) (by decide))).trans (h302)
  refine u_get B Z (C := RX12) (T := TX12) (N := 123) (ci := 12) hi_M_fresh_X12 Y.o h312 rfl 116 (by decide +kernel) (List.mem_of_getElem? (i := 27) rfl) rfl dX12_fresh_184 ?_
  refine v_iload_n B dX12_fresh_187 rfl rfl ?_
  refine v_iconst B (v := iI (-1)) dX12_fresh_188 rfl ?_
  obtain ⟨f313, h314, e315⟩ := ga_116 G311.t
  refine u_iast B Z (t0 := 0) (x := iI (-1)) (ym_116 Y) h314 rfl (by omega) dX12_fresh_189 (fun σ316 h317 n318 => ?_)
  have e319 := el_upd (z := (-1)) e315 ⟨by omega, by omega⟩ (d : Int).toNat
  have F320 := F310.put (ym_116 Y) (by simp) n318
  have G321 := gp_116 Y G311 ⟨_, h317, e319⟩ n318
  exact hend σ316 _ _ G321 F320 dX12_fresh_190
set_option maxRecDepth 100000 in
theorem c_M_fresh (l : Launch) (D : va_G) (K : Nat → ClassId) {τ : Nat → Option Ty} {dom : List Nat} (Z : Sk τ dom) (zb zL : Nat) (zx : Nat → Int32) (zs : Nat → Nat) (h : Nat) (q : Nat → Nat) (Y : MS τ h q) (d : Int) (r_d : 0 ≤ d ∧ d ≤ 1) (σ0 : Nat → va_E) (G0 : GM K h q σ0) : MZ l yX12_fresh wp_M_fresh ({ frames := 0, cells := 0, slots := 0, locals := 0 }) D (tysA K) [.ref h, .int (iI d)] (fd dom σ0) zb zL zx zs (Qv D (fun σ' => GM K h q σ' ∧ Fr τ [(131, 0), (136, 0), (137, 0), (140, 0), (141, 0), (154, 0), (155, 0), (156, 0), (157, 0), (168, 0), (169, 0), (170, 0), (171, 0), (172, 0), (158, 0), (159, 0), (173, 0), (174, 0), (176, 0), (185, 0), (186, 0), (189, 0), (192, 0), (204, 0), (206, 0), (214, 0), (216, 0)] σ0 σ') (fun σ' => fd dom σ')) 0 0 := by
  refine mz_of (cc := cX12_fresh) (maxL := 2) (ret := none) (by decide +kernel) rfl (Nat.le_of_ble_eq_true rfl) ?_
  intro p e s m below meth c A B hr hlk _ hz
  exact b_M_fresh ⟨Nat.le_refl _, Nat.le_refl _⟩ B Z hz h q Y d r_d σ0 G0 (fun σ' lv pc G F hd => v_vret B hr hlk σ' ⟨G, F⟩ rfl (Nat.le_refl _) (Nat.le_refl _) hd)

def wp_M_complete : List Cond := .code yX12_complete cX12_complete 11 none :: (([.fieldLink RX12 155 "LowEnergyModel" "kept" "[I", .fieldLink RX12 158 "LowEnergyModel" "keptMany" "[I", .methodLink RX12 404 Lib.Math.min.name, .static Lib.Math.min.name, .initialized "java/lang/Math", .code Lib.Math.min.name Lib.Math.min.code 2 (some .int), .fieldLink RX12 161 "LowEnergyModel" "notKept" "[I"] : List Cond) ++ (wsX120 ++ ([])))
theorem hi_M_complete_X12 : ∀ x ∈ u_ws RX12 TX12 123, x ∈ wp_M_complete := fun _ h => List.mem_cons_of_mem _ (List.mem_append_right _ (List.mem_append_left _ h))
set_option maxHeartbeats 4000000 in
set_option maxRecDepth 100000 in
theorem b_M_complete {p : Program} {l : Launch} {e : Env} {R : Room} {s : State} {m : MethodId} {args : Array Value} {below : List Frame} {meth : Method} {c : Code} {D : va_G} {K : Nat → ClassId} {A : Nat → Prop} {Q : State → Prop} {τ : Nat → Option Ty} {dom : List Nat} {zb zL : Nat} {zx : Nat → Int32} {zs : Nat → Nat} (hR : 1 ≤ R.frames ∧ 15 ≤ R.locals) (B : Bx p s m args c cX12_complete 11 RX12 wp_M_complete D (tysA K) A) (Z : Sk τ dom) (hz : ZL zb zL zx zs A s s.heap) (h : Nat) (q : Nat → Nat) (Y : MS τ h q) (d : Int) (x2 : Int) (x3 : Int) (x4 : Int) (x5 : Int) (j6 Nj6 : Nat) (x7 : Int) (x8 : Int) (r_d : 0 ≤ d ∧ d ≤ 1) (r_x2 : -2147483648 ≤ x2 ∧ x2 ≤ 2147483647) (r_x3 : -2147483648 ≤ x3 ∧ x3 ≤ 2147483647) (r_x4 : -2147483648 ≤ x4 ∧ x4 ≤ 2147483647) (r_x5 : -2147483648 ≤ x5 ∧ x5 ≤ 2147483647) (hj_j6 : tabM[j6]? = some (2, Nj6, -128, 127)) (r_x7 : -3000 ≤ x7 ∧ x7 ≤ 3000) (r_x8 : -3000 ≤ x8 ∧ x8 ≤ 3000) (σ0 : Nat → va_E) (G0 : GM K h q σ0) (hc : x8 ≤ 0 ∨ (0 ≤ x7 ∧ (x7 + x8 ≤ (Nj6 : Int) ∨ x7 + 40 ≤ (Nj6 : Int)))) (hend : ∀ (σ' : Nat → va_E) (lv : List (Nat × Value)) (pc : Nat), GM K h q σ' → Fr τ [(145, 0), (144, 0), (146, 0)] σ0 σ' → decode cX12_complete pc = .ok (.return_, 1) → V p l e R s m args below meth c 11 D A Q (0, 0) (fd dom σ') lv pc []) : V p l e R s m args below meth c 11 D A Q (0, 0) (fd dom σ0) [(0, .ref h), (1, .int (iI d)), (2, .int (iI x2)), (3, .int (iI x3)), (4, .int (iI x4)), (5, .int (iI x5)), (6, .ref (q j6)), (7, .int (iI x7)), (8, .int (iI x8))] 0 [] := by
  have F0 : Fr τ [(145, 0), (144, 0), (146, 0)] σ0 σ0 := Fr.rf
  have hN_j6 := lenB hj_j6
  obtain ⟨z1, z2, z3, z4, z5, h6, r7, r8, r9, r10, r11⟩ := G0.t.o
  obtain ⟨f12, h13, e14⟩ := ga_45 G0.t
  obtain ⟨z15, e16, r17⟩ := e14 (d : Int).toNat
  have J107 : ∀ (k107 : Nat) (σ_107 : Nat → va_E) (z107_9 : Int) (z107_10 : Int), (2147483648 - z107_10).toNat ≤ k107 → GM K h q σ_107 → Fr τ [(145, 0), (144, 0), (146, 0)] σ0 σ_107 → (σ_107 h = .inr (12, fsM q (iI z1) (iI z2) (iI z3) (iI z4) (iI z5))) → (0 ≤ z15 ∧ z15 ≤ 31) → (0 ≤ z107_9 ∧ z107_9 ≤ 2835) → (0 ≤ z107_10 ∧ z107_10 ≤ 40) → (z107_9 % 45 = 0) → V p l e R s m args below meth c 11 D A Q (0, 0) (fd dom σ_107) [(0, .ref h), (6, .ref (q j6)), (7, .int (iI x7)), (8, .int (iI x8)), (9, .int (iI z107_9)), (10, .int (iI z107_10))] 107 [] := by
    intro k107
    induction k107 with
    | zero => intro σ_107 z107_9 z107_10 m107 G_107 F_107 hc107_h rv107_z15 r107_9 r107_10 i107; omega
    | succ k107 IH107 =>
      intro σ_107 z107_9 z107_10 m107 G_107 F_107 hc107_h rv107_z15 r107_9 r107_10 i107
      refine v_iload B dX12_complete_107 rfl ?_
      refine v_bipush B (v := iI 40) dX12_complete_109 (by decide +kernel) ?_
      refine u_icmp_ge B (tgt := 151) (by omega) (by omega) dX12_complete_111 (by decide +kernel) (fun c18 => ?_) (fun c18 => ?_)
      · exact hend σ_107 _ _ G_107 F_107 dX12_complete_151
      · refine v_iload B dX12_complete_114 rfl ?_
        refine v_iload B dX12_complete_116 rfl ?_
        refine u_icmp_ge B (tgt := 151) (by omega) (by omega) dX12_complete_118 (by decide +kernel) (fun c19 => ?_) (fun c19 => ?_)
        · exact hend σ_107 _ _ G_107 F_107 dX12_complete_151
        · refine v_aload_n B dX12_complete_121 rfl rfl ?_
          refine u_get B Z (C := RX12) (T := TX12) (N := 123) (ci := 12) hi_M_complete_X12 Y.o hc107_h rfl 44 (by decide +kernel) (List.mem_of_getElem? (i := 1) rfl) rfl dX12_complete_122 ?_
          refine v_iload B dX12_complete_125 rfl ?_
          refine v_iconst B (v := iI 5) dX12_complete_127 rfl ?_
          refine v_iadd B (v := iI (z107_9 + 5)) dX12_complete_128 ((iI_add _ _).trans (congrArg iI (by omega))) ?_
          refine v_iload B dX12_complete_129 rfl ?_
          refine v_iadd B (v := iI (z107_9 + z107_10 + 5)) dX12_complete_131 ((iI_add _ _).trans (congrArg iI (by omega))) ?_
          refine v_aload B dX12_complete_132 rfl ?_
          refine v_iload B dX12_complete_134 rfl ?_
          refine v_iload B dX12_complete_136 rfl ?_
          refine v_iadd B (v := iI (x7 + z107_10)) dX12_complete_138 ((iI_add _ _).trans (congrArg iI (by omega))) ?_
          obtain ⟨f20, h21, e22⟩ := G_107.t.byte hj_j6
          obtain ⟨z23, e24, r25⟩ := e22 ((x7 + z107_10) : Int).toNat
          refine u_bald B Z (t0 := 2) (Y.byte hj_j6) h21 rfl (by omega) e24 dX12_complete_139 ?_
          refine v_sipush B (v := iI 255) dX12_complete_140 (by decide +kernel) ?_
          obtain ⟨z26, e27, r28⟩ := iI_and z23 (c := 255) (by decide) (by decide)
          refine v_iand B (v := iI z26) dX12_complete_143 e27 ?_
          obtain ⟨f29, h30, e31⟩ := ga_44 G_107.t
          refine u_iast B Z (t0 := 0) (x := iI z26) (ym_44 Y) h30 rfl (by omega) dX12_complete_144 (fun σ32 h33 n34 => ?_)
          have F35 := F_107.put (ym_44 Y) (by simp) n34
          have G36 := gp_44 Y G_107 ⟨_, h33, el_updk (z := z26) e31 _ ⟨by omega, by omega⟩⟩ n34
          refine v_iinc B (k := 5) (v := iI (z107_10 + 1)) (lv' := [(10, .int (iI (z107_10 + 1))), (0, .ref h), (6, .ref (q j6)), (7, .int (iI x7)), (8, .int (iI x8)), (9, .int (iI z107_9))]) dX12_complete_145 rfl ((iI_add _ _).trans (congrArg iI (by omega))) (by decide +kernel) rfl ?_
          refine v_goto B (tgt := 107) dX12_complete_148 (by decide +kernel) ?_
          refine v_lv [1, 2, 3, 4, 5, 0] rfl ?_
          have h37 := (n34 h (ne_ty Y.o (ym_44 Y) (by decide))).trans (hc107_h)
          exact IH107 σ32 z107_9 (z107_10 + 1) (by omega) G36 F35 h37 ⟨by omega, by omega⟩ ⟨by omega, by omega⟩ ⟨by omega, by omega⟩ (by omega)
  refine v_aload_n B dX12_complete_0 rfl rfl ?_
  refine u_get B Z (C := RX12) (T := TX12) (N := 123) (ci := 12) hi_M_complete_X12 Y.o h6 rfl 45 (by decide +kernel) (List.mem_of_getElem? (i := 2) rfl) rfl dX12_complete_1 ?_
  refine v_iload_n B dX12_complete_4 rfl rfl ?_
  refine u_iald B Z (t0 := 0) (ym_45 Y) h13 rfl (by omega) e16 dX12_complete_5 ?_
  refine v_bipush B (v := iI 32) dX12_complete_6 (by decide +kernel) ?_
  refine u_icmp_ne B (tgt := 22) (by omega) (by omega) dX12_complete_8 (by decide +kernel) (fun c38 => ?_) (fun c38 => ?_)
  · refine v_bipush B (v := iI 45) dX12_complete_22 (by decide +kernel) ?_
    refine v_bipush B (v := iI 32) dX12_complete_24 (by decide +kernel) ?_
    refine v_iload_n B dX12_complete_26 rfl rfl ?_
    refine v_imul B (v := iI (32 * d)) dX12_complete_27 ((iI_mul _ _).trans (congrArg iI (by omega))) ?_
    refine v_aload_n B dX12_complete_28 rfl rfl ?_
    refine u_get B Z (C := RX12) (T := TX12) (N := 123) (ci := 12) hi_M_complete_X12 Y.o h6 rfl 45 (by decide +kernel) (List.mem_of_getElem? (i := 2) rfl) rfl dX12_complete_29 ?_
    refine v_iload_n B dX12_complete_32 rfl rfl ?_
    refine u_iald B Z (t0 := 0) (ym_45 Y) h13 rfl (by omega) e16 dX12_complete_33 ?_
    refine v_iadd B (v := iI (32 * d + z15)) dX12_complete_34 ((iI_add _ _).trans (congrArg iI (by omega))) ?_
    refine v_imul B (v := iI (1440 * d + 45 * z15)) dX12_complete_35 ((iI_mul _ _).trans (congrArg iI (by omega))) ?_
    refine v_istore B (lv' := [(9, .int (iI (1440 * d + 45 * z15))), (0, .ref h), (1, .int (iI d)), (2, .int (iI x2)), (3, .int (iI x3)), (4, .int (iI x4)), (5, .int (iI x5)), (6, .ref (q j6)), (7, .int (iI x7)), (8, .int (iI x8))]) dX12_complete_36 (by decide +kernel) rfl ?_
    refine v_aload_n B dX12_complete_38 rfl rfl ?_
    refine u_get B Z (C := RX12) (T := TX12) (N := 123) (ci := 12) hi_M_complete_X12 Y.o h6 rfl 45 (by decide +kernel) (List.mem_of_getElem? (i := 2) rfl) rfl dX12_complete_39 ?_
    refine v_iload_n B dX12_complete_42 rfl rfl ?_
    refine v_dup2 B dX12_complete_43 rfl rfl ?_
    refine u_iald B Z (t0 := 0) (ym_45 Y) h13 rfl (by omega) e16 dX12_complete_44 ?_
    refine v_iconst B (v := iI 1) dX12_complete_45 rfl ?_
    refine v_iadd B (v := iI (z15 + 1)) dX12_complete_46 ((iI_add _ _).trans (congrArg iI (by omega))) ?_
    refine u_iast B Z (t0 := 0) (x := iI (z15 + 1)) (ym_45 Y) h13 rfl (by omega) dX12_complete_47 (fun σ39 h40 n41 => ?_)
    have e42 := el_upd (z := (z15 + 1)) e14 ⟨by omega, by omega⟩ (d : Int).toNat
    have F43 := F0.put (ym_45 Y) (by simp) n41
    have G44 := gp_45 Y G0 ⟨_, h40, e42⟩ n41
    refine v_aload_n B dX12_complete_48 rfl rfl ?_
    have h45 := (n41 h (ne_ty Y.o (ym_45 Y) (by decide))).trans (h6)
    refine u_get B Z (C := RX12) (T := TX12) (N := 123) (ci := 12) hi_M_complete_X12 Y.o h45 rfl 44 (by decide +kernel) (List.mem_of_getElem? (i := 1) rfl) rfl dX12_complete_49 ?_
    refine v_iload B dX12_complete_52 rfl ?_
    refine v_iload_n B dX12_complete_54 rfl rfl ?_
    obtain ⟨f46, h47, e48⟩ := ga_44 G44.t
    refine u_iast B Z (t0 := 0) (x := iI x2) (ym_44 Y) h47 rfl (by omega) dX12_complete_55 (fun σ49 h50 n51 => ?_)
    have F52 := F43.put (ym_44 Y) (by simp) n51
    have G53 := gp_44 Y G44 ⟨_, h50, el_updk (z := x2) e48 _ ⟨by omega, by omega⟩⟩ n51
    refine v_aload_n B dX12_complete_56 rfl rfl ?_
    have h54 := (n51 h (ne_ty Y.o (ym_44 Y) (by decide))).trans (h45)
    refine u_get B Z (C := RX12) (T := TX12) (N := 123) (ci := 12) hi_M_complete_X12 Y.o h54 rfl 44 (by decide +kernel) (List.mem_of_getElem? (i := 1) rfl) rfl dX12_complete_57 ?_
    refine v_iload B dX12_complete_60 rfl ?_
    refine v_iconst B (v := iI 1) dX12_complete_62 rfl ?_
    refine v_iadd B (v := iI (1440 * d + 45 * z15 + 1)) dX12_complete_63 ((iI_add _ _).trans (congrArg iI (by omega))) ?_
    refine v_iload_n B dX12_complete_64 rfl rfl ?_
    obtain ⟨f55, h56, e57⟩ := ga_44 G53.t
    refine u_iast B Z (t0 := 0) (x := iI x3) (ym_44 Y) h56 rfl (by omega) dX12_complete_65 (fun σ58 h59 n60 => ?_)
    have F61 := F52.put (ym_44 Y) (by simp) n60
    have G62 := gp_44 Y G53 ⟨_, h59, el_updk (z := x3) e57 _ ⟨by omega, by omega⟩⟩ n60
    refine v_aload_n B dX12_complete_66 rfl rfl ?_
    have h63 := (n60 h (ne_ty Y.o (ym_44 Y) (by decide))).trans (h54)
    refine u_get B Z (C := RX12) (T := TX12) (N := 123) (ci := 12) hi_M_complete_X12 Y.o h63 rfl 44 (by decide +kernel) (List.mem_of_getElem? (i := 1) rfl) rfl dX12_complete_67 ?_
    refine v_iload B dX12_complete_70 rfl ?_
    refine v_iconst B (v := iI 2) dX12_complete_72 rfl ?_
    refine v_iadd B (v := iI (1440 * d + 45 * z15 + 2)) dX12_complete_73 ((iI_add _ _).trans (congrArg iI (by omega))) ?_
    refine v_iload B dX12_complete_74 rfl ?_
    obtain ⟨f64, h65, e66⟩ := ga_44 G62.t
    refine u_iast B Z (t0 := 0) (x := iI x4) (ym_44 Y) h65 rfl (by omega) dX12_complete_76 (fun σ67 h68 n69 => ?_)
    have F70 := F61.put (ym_44 Y) (by simp) n69
    have G71 := gp_44 Y G62 ⟨_, h68, el_updk (z := x4) e66 _ ⟨by omega, by omega⟩⟩ n69
    refine v_aload_n B dX12_complete_77 rfl rfl ?_
    have h72 := (n69 h (ne_ty Y.o (ym_44 Y) (by decide))).trans (h63)
    refine u_get B Z (C := RX12) (T := TX12) (N := 123) (ci := 12) hi_M_complete_X12 Y.o h72 rfl 44 (by decide +kernel) (List.mem_of_getElem? (i := 1) rfl) rfl dX12_complete_78 ?_
    refine v_iload B dX12_complete_81 rfl ?_
    refine v_iconst B (v := iI 3) dX12_complete_83 rfl ?_
    refine v_iadd B (v := iI (1440 * d + 45 * z15 + 3)) dX12_complete_84 ((iI_add _ _).trans (congrArg iI (by omega))) ?_
    refine v_iload B dX12_complete_85 rfl ?_
    obtain ⟨f73, h74, e75⟩ := ga_44 G71.t
    refine u_iast B Z (t0 := 0) (x := iI x5) (ym_44 Y) h74 rfl (by omega) dX12_complete_87 (fun σ76 h77 n78 => ?_)
    have F79 := F70.put (ym_44 Y) (by simp) n78
    have G80 := gp_44 Y G71 ⟨_, h77, el_updk (z := x5) e75 _ ⟨by omega, by omega⟩⟩ n78
    refine v_aload_n B dX12_complete_88 rfl rfl ?_
    have h81 := (n78 h (ne_ty Y.o (ym_44 Y) (by decide))).trans (h72)
    refine u_get B Z (C := RX12) (T := TX12) (N := 123) (ci := 12) hi_M_complete_X12 Y.o h81 rfl 44 (by decide +kernel) (List.mem_of_getElem? (i := 1) rfl) rfl dX12_complete_89 ?_
    refine v_iload B dX12_complete_92 rfl ?_
    refine v_iconst B (v := iI 4) dX12_complete_94 rfl ?_
    refine v_iadd B (v := iI (1440 * d + 45 * z15 + 4)) dX12_complete_95 ((iI_add _ _).trans (congrArg iI (by omega))) ?_
    refine v_iload B dX12_complete_96 rfl ?_
    refine v_bipush B (v := iI 40) dX12_complete_98 (by decide +kernel) ?_
    obtain ⟨z82, e83, r84⟩ := iI_min (a := x8) (b := 40) (by omega) (by omega)
    refine v_mmin B (v := iI z82) (List.mem_of_getElem? (i := 3) rfl) (List.mem_of_getElem? (i := 4) rfl) (List.mem_of_getElem? (i := 5) rfl) (List.mem_of_getElem? (i := 6) rfl) (Nat.le_trans (by decide +kernel) hR.1) (Nat.le_trans (Nat.le_of_ble_eq_true rfl) hR.2) (Nat.zero_le _) (Nat.zero_le _) e83 dX12_complete_100 ?_
    obtain ⟨f85, h86, e87⟩ := ga_44 G80.t
    refine u_iast B Z (t0 := 0) (x := iI z82) (ym_44 Y) h86 rfl (by omega) dX12_complete_103 (fun σ88 h89 n90 => ?_)
    have F91 := F79.put (ym_44 Y) (by simp) n90
    have G92 := gp_44 Y G80 ⟨_, h89, el_updk (z := z82) e87 _ ⟨by omega, by omega⟩⟩ n90
    refine v_iconst B (v := iI 0) dX12_complete_104 rfl ?_
    refine v_istore B (lv' := [(10, .int (iI 0)), (9, .int (iI (1440 * d + 45 * z15))), (0, .ref h), (1, .int (iI d)), (2, .int (iI x2)), (3, .int (iI x3)), (4, .int (iI x4)), (5, .int (iI x5)), (6, .ref (q j6)), (7, .int (iI x7)), (8, .int (iI x8))]) dX12_complete_105 (by decide +kernel) rfl ?_
    refine v_lv [2, 8, 9, 10, 1, 0] rfl ?_
    have h93 := (n90 h (ne_ty Y.o (ym_44 Y) (by decide))).trans (h81)
    exact J107 _ σ88 (1440 * d + 45 * z15) 0 (Nat.le_refl _) G92 F91 h93 ⟨by omega, by omega⟩ ⟨by omega, by omega⟩ ⟨by omega, by omega⟩ (by omega)
  · refine v_aload_n B dX12_complete_11 rfl rfl ?_
    refine u_get B Z (C := RX12) (T := TX12) (N := 123) (ci := 12) hi_M_complete_X12 Y.o h6 rfl 46 (by decide +kernel) (List.mem_of_getElem? (i := 7) rfl) rfl dX12_complete_12 ?_
    refine v_iload_n B dX12_complete_15 rfl rfl ?_
    refine v_dup2 B dX12_complete_16 rfl rfl ?_
    obtain ⟨f94, h95, e96⟩ := ga_46 G0.t
    obtain ⟨z97, e98, r99⟩ := e96 (d : Int).toNat
    refine u_iald B Z (t0 := 0) (ym_46 Y) h95 rfl (by omega) e98 dX12_complete_17 ?_
    refine v_iconst B (v := iI 1) dX12_complete_18 rfl ?_
    obtain ⟨z100, e101, r102⟩ := iI_any (iI z97 + iI 1)
    refine v_iadd B (v := iI z100) dX12_complete_19 e101 ?_
    refine u_iast B Z (t0 := 0) (x := iI z100) (ym_46 Y) h95 rfl (by omega) dX12_complete_20 (fun σ103 h104 n105 => ?_)
    have e106 := el_upd (z := z100) e96 ⟨by omega, by omega⟩ (d : Int).toNat
    have F107 := F0.put (ym_46 Y) (by simp) n105
    have G108 := gp_46 Y G0 ⟨_, h104, e106⟩ n105
    exact hend σ103 _ _ G108 F107 dX12_complete_21
set_option maxRecDepth 100000 in
theorem c_M_complete (l : Launch) (D : va_G) (K : Nat → ClassId) {τ : Nat → Option Ty} {dom : List Nat} (Z : Sk τ dom) (zb zL : Nat) (zx : Nat → Int32) (zs : Nat → Nat) (h : Nat) (q : Nat → Nat) (Y : MS τ h q) (d : Int) (x2 : Int) (x3 : Int) (x4 : Int) (x5 : Int) (j6 Nj6 : Nat) (x7 : Int) (x8 : Int) (r_d : 0 ≤ d ∧ d ≤ 1) (r_x2 : -2147483648 ≤ x2 ∧ x2 ≤ 2147483647) (r_x3 : -2147483648 ≤ x3 ∧ x3 ≤ 2147483647) (r_x4 : -2147483648 ≤ x4 ∧ x4 ≤ 2147483647) (r_x5 : -2147483648 ≤ x5 ∧ x5 ≤ 2147483647) (hj_j6 : tabM[j6]? = some (2, Nj6, -128, 127)) (r_x7 : -3000 ≤ x7 ∧ x7 ≤ 3000) (r_x8 : -3000 ≤ x8 ∧ x8 ≤ 3000) (σ0 : Nat → va_E) (G0 : GM K h q σ0) (hc : x8 ≤ 0 ∨ (0 ≤ x7 ∧ (x7 + x8 ≤ (Nj6 : Int) ∨ x7 + 40 ≤ (Nj6 : Int)))) : MZ l yX12_complete wp_M_complete ({ frames := 1, cells := 0, slots := 0, locals := 15 }) D (tysA K) [.ref h, .int (iI d), .int (iI x2), .int (iI x3), .int (iI x4), .int (iI x5), .ref (q j6), .int (iI x7), .int (iI x8)] (fd dom σ0) zb zL zx zs (Qv D (fun σ' => GM K h q σ' ∧ Fr τ [(145, 0), (144, 0), (146, 0)] σ0 σ') (fun σ' => fd dom σ')) 0 0 := by
  refine mz_of (cc := cX12_complete) (maxL := 11) (ret := none) (by decide +kernel) rfl (Nat.le_of_ble_eq_true rfl) ?_
  intro p e s m below meth c A B hr hlk _ hz
  exact b_M_complete ⟨Nat.le_refl _, Nat.le_refl _⟩ B Z hz h q Y d x2 x3 x4 x5 j6 Nj6 x7 x8 r_d r_x2 r_x3 r_x4 r_x5 hj_j6 r_x7 r_x8 σ0 G0 hc (fun σ' lv pc G F hd => v_vret B hr hlk σ' ⟨G, F⟩ rfl (Nat.le_refl _) (Nat.le_refl _) hd)

def wp_M_complete5 : List Cond := .code yX12_complete_ cX12_complete_ 6 none :: (([.fieldLink RX12 10 "LowEnergyModel" "tape" "[B", .methodLink RX12 409 yX12_complete, .instanceMethod yX12_complete, .selects RX12 yX12_complete yX12_complete, .initialized RX12, .code yX12_complete cX12_complete 11 none, .fieldLink RX12 155 "LowEnergyModel" "kept" "[I", .fieldLink RX12 158 "LowEnergyModel" "keptMany" "[I", .methodLink RX12 404 Lib.Math.min.name, .static Lib.Math.min.name, .initialized "java/lang/Math", .code Lib.Math.min.name Lib.Math.min.code 2 (some .int), .fieldLink RX12 161 "LowEnergyModel" "notKept" "[I"] : List Cond) ++ (wsX120 ++ ([])))
theorem hi_M_complete5_X12 : ∀ x ∈ u_ws RX12 TX12 123, x ∈ wp_M_complete5 := fun _ h => List.mem_cons_of_mem _ (List.mem_append_right _ (List.mem_append_left _ h))
set_option maxRecDepth 100000 in
theorem gd_M_complete5_M_complete_409 : GoodIn wp_M_complete5 (wsV RX12 409 RX12 yX12_complete wp_M_complete) := goodIn_app (goodIn_r _ [2, 3, 4, 5] rfl rfl) (goodIn_ca (goodIn_r _ [6, 7, 8, 9, 10, 11, 12, 13] rfl rfl) (goodIn_app (goodIn_cls hi_M_complete5_X12 gw_X12) (goodIn_nil)))
set_option maxHeartbeats 4000000 in
set_option maxRecDepth 100000 in
theorem b_M_complete5 {p : Program} {l : Launch} {e : Env} {R : Room} {s : State} {m : MethodId} {args : Array Value} {below : List Frame} {meth : Method} {c : Code} {D : va_G} {K : Nat → ClassId} {A : Nat → Prop} {Q : State → Prop} {τ : Nat → Option Ty} {dom : List Nat} {zb zL : Nat} {zx : Nat → Int32} {zs : Nat → Nat} (hR : 2 ≤ R.frames ∧ 45 ≤ R.locals) (B : Bx p s m args c cX12_complete_ 6 RX12 wp_M_complete5 D (tysA K) A) (Z : Sk τ dom) (hz : ZL zb zL zx zs A s s.heap) (h : Nat) (q : Nat → Nat) (Y : MS τ h q) (d : Int) (x2 : Int) (x3 : Int) (x4 : Int) (x5 : Int) (r_d : 0 ≤ d ∧ d ≤ 1) (r_x2 : -2147483648 ≤ x2 ∧ x2 ≤ 2147483647) (r_x3 : -2147483648 ≤ x3 ∧ x3 ≤ 2147483647) (r_x4 : -2147483648 ≤ x4 ∧ x4 ≤ 2147483647) (r_x5 : -2147483648 ≤ x5 ∧ x5 ≤ 2147483647) (σ0 : Nat → va_E) (G0 : GM K h q σ0) (hend : ∀ (σ' : Nat → va_E) (lv : List (Nat × Value)) (pc : Nat), GM K h q σ' → Fr τ [(145, 0), (144, 0), (146, 0)] σ0 σ' → decode cX12_complete_ pc = .ok (.return_, 1) → V p l e R s m args below meth c 6 D A Q (0, 0) (fd dom σ') lv pc []) : V p l e R s m args below meth c 6 D A Q (0, 0) (fd dom σ0) [(0, .ref h), (1, .int (iI d)), (2, .int (iI x2)), (3, .int (iI x3)), (4, .int (iI x4)), (5, .int (iI x5))] 0 [] := by
  have F0 : Fr τ [(145, 0), (144, 0), (146, 0)] σ0 σ0 := Fr.rf
  obtain ⟨z1, z2, z3, z4, z5, h6, r7, r8, r9, r10, r11⟩ := G0.t.o
  refine v_aload_n B dX12_complete__0 rfl rfl ?_
  refine v_iload_n B dX12_complete__1 rfl rfl ?_
  refine v_iload_n B dX12_complete__2 rfl rfl ?_
  refine v_iload_n B dX12_complete__3 rfl rfl ?_
  refine v_iload B dX12_complete__4 rfl ?_
  refine v_iload B dX12_complete__6 rfl ?_
  refine v_aload_n B dX12_complete__8 rfl rfl ?_
  refine u_get B Z (C := RX12) (T := TX12) (N := 123) (ci := 12) hi_M_complete5_X12 Y.o h6 rfl 1 (by decide +kernel) (List.mem_of_getElem? (i := 1) rfl) rfl dX12_complete__9 ?_
  refine v_iconst B (v := iI 0) dX12_complete__12 rfl ?_
  refine v_iconst B (v := iI 0) dX12_complete__13 rfl ?_
  refine u_callVv B Z hz (n := 8) (As := [.int (iI d), .int (iI x2), .int (iI x3), .int (iI x4), .int (iI x5), .ref (q 1), .int (iI 0), .int (iI 0)]) (rest := []) (c_M_complete l D K Z _ _ _ _ h q Y d x2 x3 x4 x5 1 100 0 0 ⟨by omega, by omega⟩ ⟨by omega, by omega⟩ ⟨by omega, by omega⟩ ⟨by omega, by omega⟩ ⟨by omega, by omega⟩ rfl ⟨by omega, by omega⟩ ⟨by omega, by omega⟩ σ0 G0 (by omega)) gd_M_complete5_M_complete_409 rfl rfl rfl (by decide +kernel) ⟨Nat.le_trans (by decide +kernel) hR.1, Nat.le_trans (by decide +kernel) hR.2⟩ Y.o (clsM G0.t) rfl rfl rfl rfl (Nat.le_of_ble_eq_true rfl) dX12_complete__14 ⟨Nat.zero_le _, Nat.zero_le _⟩ (fun σ12 p13 => ?_)
  obtain ⟨G15, F16⟩ := p13
  have F17 := F0.call F16 (by first | rfl | simp)
  exact hend σ12 _ _ G15 F17 dX12_complete__17
set_option maxRecDepth 100000 in
theorem c_M_complete5 (l : Launch) (D : va_G) (K : Nat → ClassId) {τ : Nat → Option Ty} {dom : List Nat} (Z : Sk τ dom) (zb zL : Nat) (zx : Nat → Int32) (zs : Nat → Nat) (h : Nat) (q : Nat → Nat) (Y : MS τ h q) (d : Int) (x2 : Int) (x3 : Int) (x4 : Int) (x5 : Int) (r_d : 0 ≤ d ∧ d ≤ 1) (r_x2 : -2147483648 ≤ x2 ∧ x2 ≤ 2147483647) (r_x3 : -2147483648 ≤ x3 ∧ x3 ≤ 2147483647) (r_x4 : -2147483648 ≤ x4 ∧ x4 ≤ 2147483647) (r_x5 : -2147483648 ≤ x5 ∧ x5 ≤ 2147483647) (σ0 : Nat → va_E) (G0 : GM K h q σ0) : MZ l yX12_complete_ wp_M_complete5 ({ frames := 2, cells := 0, slots := 0, locals := 45 }) D (tysA K) [.ref h, .int (iI d), .int (iI x2), .int (iI x3), .int (iI x4), .int (iI x5)] (fd dom σ0) zb zL zx zs (Qv D (fun σ' => GM K h q σ' ∧ Fr τ [(145, 0), (144, 0), (146, 0)] σ0 σ') (fun σ' => fd dom σ')) 0 0 := by
  refine mz_of (cc := cX12_complete_) (maxL := 6) (ret := none) (by decide +kernel) rfl (Nat.le_of_ble_eq_true rfl) ?_
  intro p e s m below meth c A B hr hlk _ hz
  exact b_M_complete5 ⟨Nat.le_refl _, Nat.le_refl _⟩ B Z hz h q Y d x2 x3 x4 x5 r_d r_x2 r_x3 r_x4 r_x5 σ0 G0 (fun σ' lv pc G F hd => v_vret B hr hlk σ' ⟨G, F⟩ rfl (Nat.le_refl _) (Nat.le_refl _) hd)

def wp_M_completion : List Cond := .code yX12_completion cX12_completion 4 (some .int) :: (([.fieldLink RX12 1 "LowEnergyModel" "thrown" "I", .methodLink RX12 413 yX12_in, .static yX12_in, .initialized RX12, .code yX12_in cX12_in 2 (some .boolean), .fieldLink RX12 158 "LowEnergyModel" "keptMany" "[I", .fieldLink RX12 155 "LowEnergyModel" "kept" "[I"] : List Cond) ++ (wsX120 ++ ([])))
theorem hi_M_completion_X12 : ∀ x ∈ u_ws RX12 TX12 123, x ∈ wp_M_completion := fun _ h => List.mem_cons_of_mem _ (List.mem_append_right _ (List.mem_append_left _ h))
set_option maxRecDepth 100000 in
theorem gd_M_completion_M_in_413 : GoodIn wp_M_completion (va_wsS RX12 413 yX12_in wp_M_in) := goodIn_app (goodIn_r _ [2, 3, 4] rfl rfl) (goodIn_ca (goodIn_r _ [5] rfl rfl) (goodIn_nil))
set_option maxHeartbeats 4000000 in
set_option maxRecDepth 100000 in
theorem b_M_completion {p : Program} {l : Launch} {e : Env} {R : Room} {s : State} {m : MethodId} {args : Array Value} {below : List Frame} {meth : Method} {c : Code} {D : va_G} {K : Nat → ClassId} {A : Nat → Prop} {Q : State → Prop} {τ : Nat → Option Ty} {dom : List Nat} {zb zL : Nat} {zx : Nat → Int32} {zs : Nat → Nat} (hR : 1 ≤ R.frames ∧ 21 ≤ R.locals) (B : Bx p s m args c cX12_completion 4 RX12 wp_M_completion D (tysA K) A) (Z : Sk τ dom) (hz : ZL zb zL zx zs A s s.heap) (h : Nat) (q : Nat → Nat) (Y : MS τ h q) (x1 : Int) (x2 : Int) (r_x1 : -2147483648 ≤ x1 ∧ x1 ≤ 2147483647) (r_x2 : -2147483648 ≤ x2 ∧ x2 ≤ 2147483647) (σ0 : Nat → va_E) (G0 : GM K h q σ0) (hend : ∀ (σ' : Nat → va_E) (z : Int) (lv : List (Nat × Value)) (pc : Nat), GM K h q σ' → Fr τ [(50, 0)] σ0 σ' → (-2147483648 ≤ z ∧ z ≤ 2147483647) → decode cX12_completion pc = .ok (.ireturn, 1) → V p l e R s m args below meth c 4 D A Q (0, 0) (fd dom σ') lv pc [.int (iI z)]) : V p l e R s m args below meth c 4 D A Q (0, 0) (fd dom σ0) [(0, .ref h), (1, .int (iI x1)), (2, .int (iI x2))] 0 [] := by
  have F0 : Fr τ [(50, 0)] σ0 σ0 := Fr.rf
  obtain ⟨z1, z2, z3, z4, z5, h6, r7, r8, r9, r10, r11⟩ := G0.t.o
  refine v_aload_n B dX12_completion_0 rfl rfl ?_
  refine v_iconst B (v := iI 0) dX12_completion_1 rfl ?_
  refine u_put B Z (C := RX12) (T := TX12) (N := 123) (ci := 12) hi_M_completion_X12 Y.o h6 rfl 0 (by decide +kernel) tyX12 tyX12_ok nmX12 (List.mem_of_getElem? (i := 1) rfl) rfl (ty := .int) (tyX12_ok 0 (by decide +kernel)) rfl rfl (Nat.le_of_ble_eq_true rfl) (fs' := fsM q (iI 0) (iI z2) (iI z3) (iI z4) (iI z5)) rfl dX12_completion_2 (fun σ12 h13 n14 => ?_)
  have F15 := F0.put Y.o (by simp) n14
  have G16 := G0.putO Y ⟨0, z2, z3, z4, z5, h13, ⟨by omega, by omega⟩, ⟨by omega, by omega⟩, ⟨by omega, by omega⟩, ⟨by omega, by omega⟩, ⟨by omega, by omega⟩⟩ n14
  refine v_iload_n B dX12_completion_5 rfl rfl ?_
  refine v_iconst B (v := iI 2) dX12_completion_6 rfl ?_
  refine u_callSi B Z hz (n := 2) (As := [.int (iI x1), .int (iI 2)]) (rest := []) (c_M_in l D K Z _ _ _ _ h q Y x1 2 ⟨by omega, by omega⟩ ⟨by omega, by omega⟩ σ12 (G16.t)) gd_M_completion_M_in_413 rfl rfl rfl (by decide +kernel) ⟨Nat.le_trans (by decide +kernel) hR.1, Nat.le_trans (by decide +kernel) hR.2⟩ rfl rfl (Nat.le_of_ble_eq_true rfl) dX12_completion_7 ⟨Nat.zero_le _, Nat.zero_le _⟩ (fun v19 σ17 p18 => ?_)
  obtain ⟨rfl, z20, e21, r22, po23⟩ := p18
  subst e21
  refine u_if_eq B (tgt := 22) (by omega) dX12_completion_10 (by decide +kernel) (fun c24 => ?_) (fun c24 => ?_)
  · refine v_iconst B (v := iI (-1)) dX12_completion_22 rfl ?_
    exact hend σ12 (-1) _ _ G16 F15 ⟨by omega, by omega⟩ dX12_completion_23
  · refine v_aload_n B dX12_completion_13 rfl rfl ?_
    refine u_get B Z (C := RX12) (T := TX12) (N := 123) (ci := 12) hi_M_completion_X12 Y.o h13 rfl 45 (by decide +kernel) (List.mem_of_getElem? (i := 6) rfl) rfl dX12_completion_14 ?_
    refine v_iload_n B dX12_completion_17 rfl rfl ?_
    obtain ⟨f25, h26, e27⟩ := ga_45 G16.t
    obtain ⟨z28, e29, r30⟩ := e27 (x1 : Int).toNat
    refine u_iald B Z (t0 := 0) (ym_45 Y) h26 rfl (by omega) e29 dX12_completion_18 ?_
    refine u_if_ne B (tgt := 24) (by omega) dX12_completion_19 (by decide +kernel) (fun c31 => ?_) (fun c31 => ?_)
    · refine v_sipush B (v := iI 1440) dX12_completion_24 (by decide +kernel) ?_
      refine v_iload_n B dX12_completion_27 rfl rfl ?_
      refine v_imul B (v := iI (1440 * x1)) dX12_completion_28 ((iI_mul _ _).trans (congrArg iI (by omega))) ?_
      refine v_istore_n B (lv' := [(3, .int (iI (1440 * x1))), (0, .ref h), (1, .int (iI x1)), (2, .int (iI x2))]) dX12_completion_29 rfl (by decide +kernel) rfl ?_
      refine v_iload_n B dX12_completion_30 rfl rfl ?_
      refine v_iconst B (v := iI 5) dX12_completion_31 rfl ?_
      refine u_callSi B Z hz (n := 2) (As := [.int (iI x2), .int (iI 5)]) (rest := []) (c_M_in l D K Z _ _ _ _ h q Y x2 5 ⟨by omega, by omega⟩ ⟨by omega, by omega⟩ σ12 (G16.t)) gd_M_completion_M_in_413 rfl rfl rfl (by decide +kernel) ⟨Nat.le_trans (by decide +kernel) hR.1, Nat.le_trans (by decide +kernel) hR.2⟩ rfl rfl (Nat.le_of_ble_eq_true rfl) dX12_completion_32 ⟨Nat.zero_le _, Nat.zero_le _⟩ (fun v34 σ32 p33 => ?_)
      obtain ⟨rfl, z35, e36, r37, po38⟩ := p33
      subst e36
      refine u_if_eq B (tgt := 47) (by omega) dX12_completion_35 (by decide +kernel) (fun c39 => ?_) (fun c39 => ?_)
      · refine v_iload_n B dX12_completion_47 rfl rfl ?_
        refine v_bipush B (v := iI 10) dX12_completion_48 (by decide +kernel) ?_
        refine u_icmp_lt B (tgt := 81) (by omega) (by omega) dX12_completion_50 (by decide +kernel) (fun c40 => ?_) (fun c40 => ?_)
        · refine v_iconst B (v := iI (-1)) dX12_completion_81 rfl ?_
          exact hend σ12 (-1) _ _ G16 F15 ⟨by omega, by omega⟩ dX12_completion_82
        · refine v_iload_n B dX12_completion_53 rfl rfl ?_
          refine v_bipush B (v := iI 10) dX12_completion_54 (by decide +kernel) ?_
          refine v_isub B (v := iI (x2 + (-10))) dX12_completion_56 ((iI_sub _ _).trans (congrArg iI (by omega))) ?_
          refine v_aload_n B dX12_completion_57 rfl rfl ?_
          refine u_get B Z (C := RX12) (T := TX12) (N := 123) (ci := 12) hi_M_completion_X12 Y.o h13 rfl 44 (by decide +kernel) (List.mem_of_getElem? (i := 7) rfl) rfl dX12_completion_58 ?_
          refine v_iload_n B dX12_completion_61 rfl rfl ?_
          refine v_iconst B (v := iI 4) dX12_completion_62 rfl ?_
          refine v_iadd B (v := iI (1440 * x1 + 4)) dX12_completion_63 ((iI_add _ _).trans (congrArg iI (by omega))) ?_
          obtain ⟨f41, h42, e43⟩ := ga_44 G16.t
          obtain ⟨z44, e45, r46⟩ := e43 ((1440 * x1 + 4) : Int).toNat
          have r47 := r46.2 (by omega)
          refine u_iald B Z (t0 := 0) (ym_44 Y) h42 rfl (by omega) e45 dX12_completion_64 ?_
          refine u_icmp_ge B (tgt := 81) (by omega) (by omega) dX12_completion_65 (by decide +kernel) (fun c48 => ?_) (fun c48 => ?_)
          · refine v_iconst B (v := iI (-1)) dX12_completion_81 rfl ?_
            exact hend σ12 (-1) _ _ G16 F15 ⟨by omega, by omega⟩ dX12_completion_82
          · refine v_aload_n B dX12_completion_68 rfl rfl ?_
            refine u_get B Z (C := RX12) (T := TX12) (N := 123) (ci := 12) hi_M_completion_X12 Y.o h13 rfl 44 (by decide +kernel) (List.mem_of_getElem? (i := 7) rfl) rfl dX12_completion_69 ?_
            refine v_iload_n B dX12_completion_72 rfl rfl ?_
            refine v_iload_n B dX12_completion_73 rfl rfl ?_
            refine v_iadd B (v := iI (1440 * x1 + x2)) dX12_completion_74 ((iI_add _ _).trans (congrArg iI (by omega))) ?_
            refine v_iconst B (v := iI 5) dX12_completion_75 rfl ?_
            refine v_isub B (v := iI (1440 * x1 + x2 + (-5))) dX12_completion_76 ((iI_sub _ _).trans (congrArg iI (by omega))) ?_
            obtain ⟨z49, e50, r51⟩ := e43 ((1440 * x1 + x2 + (-5)) : Int).toNat
            refine u_iald B Z (t0 := 0) (ym_44 Y) h42 rfl (by omega) e50 dX12_completion_77 ?_
            refine v_goto B (tgt := 82) dX12_completion_78 (by decide +kernel) ?_
            exact hend σ12 z49 _ _ G16 F15 ⟨by omega, by omega⟩ dX12_completion_82
      · refine v_aload_n B dX12_completion_38 rfl rfl ?_
        refine u_get B Z (C := RX12) (T := TX12) (N := 123) (ci := 12) hi_M_completion_X12 Y.o h13 rfl 44 (by decide +kernel) (List.mem_of_getElem? (i := 7) rfl) rfl dX12_completion_39 ?_
        refine v_iload_n B dX12_completion_42 rfl rfl ?_
        refine v_iload_n B dX12_completion_43 rfl rfl ?_
        refine v_iadd B (v := iI (1440 * x1 + x2)) dX12_completion_44 ((iI_add _ _).trans (congrArg iI (by omega))) ?_
        obtain ⟨f52, h53, e54⟩ := ga_44 G16.t
        obtain ⟨z55, e56, r57⟩ := e54 ((1440 * x1 + x2) : Int).toNat
        refine u_iald B Z (t0 := 0) (ym_44 Y) h53 rfl (by omega) e56 dX12_completion_45 ?_
        exact hend σ12 z55 _ _ G16 F15 ⟨by omega, by omega⟩ dX12_completion_46
    · refine v_iconst B (v := iI (-1)) dX12_completion_22 rfl ?_
      exact hend σ12 (-1) _ _ G16 F15 ⟨by omega, by omega⟩ dX12_completion_23
set_option maxRecDepth 100000 in
theorem c_M_completion (l : Launch) (D : va_G) (K : Nat → ClassId) {τ : Nat → Option Ty} {dom : List Nat} (Z : Sk τ dom) (zb zL : Nat) (zx : Nat → Int32) (zs : Nat → Nat) (h : Nat) (q : Nat → Nat) (Y : MS τ h q) (x1 : Int) (x2 : Int) (r_x1 : -2147483648 ≤ x1 ∧ x1 ≤ 2147483647) (r_x2 : -2147483648 ≤ x2 ∧ x2 ≤ 2147483647) (σ0 : Nat → va_E) (G0 : GM K h q σ0) : MZ l yX12_completion wp_M_completion ({ frames := 1, cells := 0, slots := 0, locals := 21 }) D (tysA K) [.ref h, .int (iI x1), .int (iI x2)] (fd dom σ0) zb zL zx zs (Qi D (fun r σ' => GM K h q σ' ∧ Fr τ [(50, 0)] σ0 σ' ∧ ∃ z : Int, r = iI z ∧ (-2147483648 ≤ z ∧ z ≤ 2147483647)) (fun σ' => fd dom σ')) 0 0 := by
  refine mz_of (cc := cX12_completion) (maxL := 4) (ret := (some .int)) (by decide +kernel) rfl (Nat.le_of_ble_eq_true rfl) ?_
  intro p e s m below meth c A B hr hlk _ hz
  exact b_M_completion ⟨Nat.le_refl _, Nat.le_refl _⟩ B Z hz h q Y x1 x2 r_x1 r_x2 σ0 G0 (fun σ' z lv pc G F hZ hd => v_iret B hr hlk σ' ⟨G, F, z, rfl, hZ⟩ rfl (Nat.le_refl _) (Nat.le_refl _) hd)

def wp_M_take : List Cond := .code yX12_take cX12_take 4 (some .boolean) :: (([.fieldLink RX12 158 "LowEnergyModel" "keptMany" "[I", .fieldLink RX12 155 "LowEnergyModel" "kept" "[I", .fieldLink RX12 1 "LowEnergyModel" "thrown" "I", .methodLink RX12 413 yX12_in, .static yX12_in, .initialized RX12, .code yX12_in cX12_in 2 (some .boolean)] : List Cond) ++ (wsX120 ++ ([])))
theorem hi_M_take_X12 : ∀ x ∈ u_ws RX12 TX12 123, x ∈ wp_M_take := fun _ h => List.mem_cons_of_mem _ (List.mem_append_right _ (List.mem_append_left _ h))
set_option maxRecDepth 100000 in
theorem gd_M_take_M_in_413 : GoodIn wp_M_take (va_wsS RX12 413 yX12_in wp_M_in) := goodIn_app (goodIn_r _ [4, 5, 6] rfl rfl) (goodIn_ca (goodIn_r _ [7] rfl rfl) (goodIn_nil))
set_option maxHeartbeats 4000000 in
set_option maxRecDepth 100000 in
theorem b_M_take {p : Program} {l : Launch} {e : Env} {R : Room} {s : State} {m : MethodId} {args : Array Value} {below : List Frame} {meth : Method} {c : Code} {D : va_G} {K : Nat → ClassId} {A : Nat → Prop} {Q : State → Prop} {τ : Nat → Option Ty} {dom : List Nat} {zb zL : Nat} {zx : Nat → Int32} {zs : Nat → Nat} (hR : 1 ≤ R.frames ∧ 21 ≤ R.locals) (B : Bx p s m args c cX12_take 4 RX12 wp_M_take D (tysA K) A) (Z : Sk τ dom) (hz : ZL zb zL zx zs A s s.heap) (h : Nat) (q : Nat → Nat) (Y : MS τ h q) (x1 : Int) (r_x1 : -2147483648 ≤ x1 ∧ x1 ≤ 2147483647) (σ0 : Nat → va_E) (G0 : GM K h q σ0) (hend : ∀ (σ' : Nat → va_E) (z : Int) (lv : List (Nat × Value)) (pc : Nat), GM K h q σ' → Fr τ [(50, 0), (145, 0), (144, 0)] σ0 σ' → (0 ≤ z ∧ z ≤ 1) → decode cX12_take pc = .ok (.ireturn, 1) → V p l e R s m args below meth c 4 D A Q (0, 0) (fd dom σ') lv pc [.int (iI z)]) : V p l e R s m args below meth c 4 D A Q (0, 0) (fd dom σ0) [(0, .ref h), (1, .int (iI x1))] 0 [] := by
  have F0 : Fr τ [(50, 0), (145, 0), (144, 0)] σ0 σ0 := Fr.rf
  obtain ⟨z1, z2, z3, z4, z5, h6, r7, r8, r9, r10, r11⟩ := G0.t.o
  have J42 : ∀ (k42 : Nat) (σ_42 : Nat → va_E) (z42_2 : Int) (z42_3 : Int), (2147483648 - z42_3).toNat ≤ k42 → GM K h q σ_42 → Fr τ [(50, 0), (145, 0), (144, 0)] σ0 σ_42 → (0 ≤ x1 ∧ x1 ≤ 1) → (0 ≤ z42_2 ∧ z42_2 ≤ 1440) → (0 ≤ z42_3 ∧ z42_3 ≤ 1395) → (At σ_42 (q 45) (x1 : Int).toNat (0) (31)) → V p l e R s m args below meth c 4 D A Q (0, 0) (fd dom σ_42) [(0, .ref h), (1, .int (iI x1)), (2, .int (iI z42_2)), (3, .int (iI z42_3))] 42 [] := by
    intro k42
    induction k42 with
    | zero => intro σ_42 z42_2 z42_3 m42 G_42 F_42 rv42_x1 r42_2 r42_3 i42; omega
    | succ k42 IH42 =>
      intro σ_42 z42_2 z42_3 m42 G_42 F_42 rv42_x1 r42_2 r42_3 i42
      obtain ⟨f12, h13, e14⟩ := ga_45 G_42.t
      obtain ⟨z15, e16, r17⟩ := e14 (x1 : Int).toNat
      have r18 := (i42).use h13 e16 (by omega)
      refine v_iload_n B dX12_take_42 rfl rfl ?_
      refine v_bipush B (v := iI 45) dX12_take_43 (by decide +kernel) ?_
      refine v_aload_n B dX12_take_45 rfl rfl ?_
      obtain ⟨z19, z20, z21, z22, z23, h24, r25, r26, r27, r28, r29⟩ := G_42.t.o
      refine u_get B Z (C := RX12) (T := TX12) (N := 123) (ci := 12) hi_M_take_X12 Y.o h24 rfl 45 (by decide +kernel) (List.mem_of_getElem? (i := 1) rfl) rfl dX12_take_46 ?_
      refine v_iload_n B dX12_take_49 rfl rfl ?_
      refine u_iald B Z (t0 := 0) (ym_45 Y) h13 rfl (by omega) e16 dX12_take_50 ?_
      refine v_imul B (v := iI (45 * z15)) dX12_take_51 ((iI_mul _ _).trans (congrArg iI (by omega))) ?_
      refine u_icmp_ge B (tgt := 80) (by omega) (by omega) dX12_take_52 (by decide +kernel) (fun c30 => ?_) (fun c30 => ?_)
      · refine v_iconst B (v := iI 1) dX12_take_80 rfl ?_
        exact hend σ_42 1 _ _ G_42 F_42 ⟨by omega, by omega⟩ dX12_take_81
      · refine v_aload_n B dX12_take_55 rfl rfl ?_
        refine u_get B Z (C := RX12) (T := TX12) (N := 123) (ci := 12) hi_M_take_X12 Y.o h24 rfl 44 (by decide +kernel) (List.mem_of_getElem? (i := 2) rfl) rfl dX12_take_56 ?_
        refine v_iload_n B dX12_take_59 rfl rfl ?_
        refine v_iload_n B dX12_take_60 rfl rfl ?_
        refine v_iadd B (v := iI (z42_2 + z42_3)) dX12_take_61 ((iI_add _ _).trans (congrArg iI (by omega))) ?_
        refine v_aload_n B dX12_take_62 rfl rfl ?_
        refine u_get B Z (C := RX12) (T := TX12) (N := 123) (ci := 12) hi_M_take_X12 Y.o h24 rfl 44 (by decide +kernel) (List.mem_of_getElem? (i := 2) rfl) rfl dX12_take_63 ?_
        refine v_iload_n B dX12_take_66 rfl rfl ?_
        refine v_bipush B (v := iI 45) dX12_take_67 (by decide +kernel) ?_
        refine v_iadd B (v := iI (z42_2 + 45)) dX12_take_69 ((iI_add _ _).trans (congrArg iI (by omega))) ?_
        refine v_iload_n B dX12_take_70 rfl rfl ?_
        refine v_iadd B (v := iI (z42_2 + z42_3 + 45)) dX12_take_71 ((iI_add _ _).trans (congrArg iI (by omega))) ?_
        obtain ⟨f31, h32, e33⟩ := ga_44 G_42.t
        obtain ⟨z34, e35, r36⟩ := e33 ((z42_2 + z42_3 + 45) : Int).toNat
        refine u_iald B Z (t0 := 0) (ym_44 Y) h32 rfl (by omega) e35 dX12_take_72 ?_
        refine u_iast B Z (t0 := 0) (x := iI z34) (ym_44 Y) h32 rfl (by omega) dX12_take_73 (fun σ37 h38 n39 => ?_)
        have F40 := F_42.put (ym_44 Y) (by simp) n39
        have G41 := gp_44 Y G_42 ⟨_, h38, el_updk (z := z34) e33 _ ⟨by omega, by omega⟩⟩ n39
        refine v_iinc B (k := 3) (v := iI (z42_3 + 1)) (lv' := [(3, .int (iI (z42_3 + 1))), (0, .ref h), (1, .int (iI x1)), (2, .int (iI z42_2))]) dX12_take_74 rfl ((iI_add _ _).trans (congrArg iI (by omega))) (by decide +kernel) rfl ?_
        refine v_goto B (tgt := 42) dX12_take_77 (by decide +kernel) ?_
        refine v_lv [1, 2, 3, 0] rfl ?_
        have h42 := (n39 (q 45) (ne_ty (ym_45 Y) (ym_44 Y) (by decide))).trans (h13)
        exact IH42 σ37 z42_2 (z42_3 + 1) (by omega) G41 F40 ⟨by omega, by omega⟩ ⟨by omega, by omega⟩ ⟨by omega, by omega⟩ ((At.mk h42 e16 (by omega) ⟨by omega, by omega⟩))
  refine v_aload_n B dX12_take_0 rfl rfl ?_
  refine v_iconst B (v := iI 0) dX12_take_1 rfl ?_
  refine u_put B Z (C := RX12) (T := TX12) (N := 123) (ci := 12) hi_M_take_X12 Y.o h6 rfl 0 (by decide +kernel) tyX12 tyX12_ok nmX12 (List.mem_of_getElem? (i := 3) rfl) rfl (ty := .int) (tyX12_ok 0 (by decide +kernel)) rfl rfl (Nat.le_of_ble_eq_true rfl) (fs' := fsM q (iI 0) (iI z2) (iI z3) (iI z4) (iI z5)) rfl dX12_take_2 (fun σ43 h44 n45 => ?_)
  have F46 := F0.put Y.o (by simp) n45
  have G47 := G0.putO Y ⟨0, z2, z3, z4, z5, h44, ⟨by omega, by omega⟩, ⟨by omega, by omega⟩, ⟨by omega, by omega⟩, ⟨by omega, by omega⟩, ⟨by omega, by omega⟩⟩ n45
  refine v_iload_n B dX12_take_5 rfl rfl ?_
  refine v_iconst B (v := iI 2) dX12_take_6 rfl ?_
  refine u_callSi B Z hz (n := 2) (As := [.int (iI x1), .int (iI 2)]) (rest := []) (c_M_in l D K Z _ _ _ _ h q Y x1 2 ⟨by omega, by omega⟩ ⟨by omega, by omega⟩ σ43 (G47.t)) gd_M_take_M_in_413 rfl rfl rfl (by decide +kernel) ⟨Nat.le_trans (by decide +kernel) hR.1, Nat.le_trans (by decide +kernel) hR.2⟩ rfl rfl (Nat.le_of_ble_eq_true rfl) dX12_take_7 ⟨Nat.zero_le _, Nat.zero_le _⟩ (fun v50 σ48 p49 => ?_)
  obtain ⟨rfl, z51, e52, r53, po54⟩ := p49
  subst e52
  refine u_if_eq B (tgt := 22) (by omega) dX12_take_10 (by decide +kernel) (fun c55 => ?_) (fun c55 => ?_)
  · refine v_iconst B (v := iI 0) dX12_take_22 rfl ?_
    exact hend σ43 0 _ _ G47 F46 ⟨by omega, by omega⟩ dX12_take_23
  · refine v_aload_n B dX12_take_13 rfl rfl ?_
    refine u_get B Z (C := RX12) (T := TX12) (N := 123) (ci := 12) hi_M_take_X12 Y.o h44 rfl 45 (by decide +kernel) (List.mem_of_getElem? (i := 1) rfl) rfl dX12_take_14 ?_
    refine v_iload_n B dX12_take_17 rfl rfl ?_
    obtain ⟨f56, h57, e58⟩ := ga_45 G47.t
    obtain ⟨z59, e60, r61⟩ := e58 (x1 : Int).toNat
    refine u_iald B Z (t0 := 0) (ym_45 Y) h57 rfl (by omega) e60 dX12_take_18 ?_
    refine u_if_ne B (tgt := 24) (by omega) dX12_take_19 (by decide +kernel) (fun c62 => ?_) (fun c62 => ?_)
    · refine v_sipush B (v := iI 1440) dX12_take_24 (by decide +kernel) ?_
      refine v_iload_n B dX12_take_27 rfl rfl ?_
      refine v_imul B (v := iI (1440 * x1)) dX12_take_28 ((iI_mul _ _).trans (congrArg iI (by omega))) ?_
      refine v_istore_n B (lv' := [(2, .int (iI (1440 * x1))), (0, .ref h), (1, .int (iI x1))]) dX12_take_29 rfl (by decide +kernel) rfl ?_
      refine v_aload_n B dX12_take_30 rfl rfl ?_
      refine u_get B Z (C := RX12) (T := TX12) (N := 123) (ci := 12) hi_M_take_X12 Y.o h44 rfl 45 (by decide +kernel) (List.mem_of_getElem? (i := 1) rfl) rfl dX12_take_31 ?_
      refine v_iload_n B dX12_take_34 rfl rfl ?_
      refine v_dup2 B dX12_take_35 rfl rfl ?_
      refine u_iald B Z (t0 := 0) (ym_45 Y) h57 rfl (by omega) e60 dX12_take_36 ?_
      refine v_iconst B (v := iI 1) dX12_take_37 rfl ?_
      refine v_isub B (v := iI (z59 + (-1))) dX12_take_38 ((iI_sub _ _).trans (congrArg iI (by omega))) ?_
      refine u_iast B Z (t0 := 0) (x := iI (z59 + (-1))) (ym_45 Y) h57 rfl (by omega) dX12_take_39 (fun σ63 h64 n65 => ?_)
      have e66 := el_upd (z := (z59 + (-1))) e58 ⟨by omega, by omega⟩ (x1 : Int).toNat
      have F67 := F46.put (ym_45 Y) (by simp) n65
      have G68 := gp_45 Y G47 ⟨_, h64, e66⟩ n65
      refine v_iconst B (v := iI 0) dX12_take_40 rfl ?_
      refine v_istore_n B (lv' := [(3, .int (iI 0)), (2, .int (iI (1440 * x1))), (0, .ref h), (1, .int (iI x1))]) dX12_take_41 rfl (by decide +kernel) rfl ?_
      refine v_lv [2, 3, 1, 0] rfl ?_
      exact J42 _ σ63 (1440 * x1) 0 (Nat.le_refl _) G68 F67 ⟨by omega, by omega⟩ ⟨by omega, by omega⟩ ⟨by omega, by omega⟩ ((At.mk h64 upd_s (by omega) ⟨by omega, by omega⟩))
    · refine v_iconst B (v := iI 0) dX12_take_22 rfl ?_
      exact hend σ43 0 _ _ G47 F46 ⟨by omega, by omega⟩ dX12_take_23
set_option maxRecDepth 100000 in
theorem c_M_take (l : Launch) (D : va_G) (K : Nat → ClassId) {τ : Nat → Option Ty} {dom : List Nat} (Z : Sk τ dom) (zb zL : Nat) (zx : Nat → Int32) (zs : Nat → Nat) (h : Nat) (q : Nat → Nat) (Y : MS τ h q) (x1 : Int) (r_x1 : -2147483648 ≤ x1 ∧ x1 ≤ 2147483647) (σ0 : Nat → va_E) (G0 : GM K h q σ0) : MZ l yX12_take wp_M_take ({ frames := 1, cells := 0, slots := 0, locals := 21 }) D (tysA K) [.ref h, .int (iI x1)] (fd dom σ0) zb zL zx zs (Qi D (fun r σ' => GM K h q σ' ∧ Fr τ [(50, 0), (145, 0), (144, 0)] σ0 σ' ∧ ∃ z : Int, r = iI z ∧ (0 ≤ z ∧ z ≤ 1)) (fun σ' => fd dom σ')) 0 0 := by
  refine mz_of (cc := cX12_take) (maxL := 4) (ret := (some .boolean)) (by decide +kernel) rfl (Nat.le_of_ble_eq_true rfl) ?_
  intro p e s m below meth c A B hr hlk _ hz
  exact b_M_take ⟨Nat.le_refl _, Nat.le_refl _⟩ B Z hz h q Y x1 r_x1 σ0 G0 (fun σ' z lv pc G F hZ hd => v_zret B hr hlk (nar01 (by omega)) σ' ⟨G, F, z, rfl, hZ⟩ rfl (Nat.le_refl _) (Nat.le_refl _) hd)

def wp_M_reasons : List Cond := .code yX12_reasons cX12_reasons 3 none :: (([.fieldLink RX12 133 "LowEnergyModel" "reason" "[I"] : List Cond) ++ (wsX120 ++ ([])))
theorem hi_M_reasons_X12 : ∀ x ∈ u_ws RX12 TX12 123, x ∈ wp_M_reasons := fun _ h => List.mem_cons_of_mem _ (List.mem_append_right _ (List.mem_append_left _ h))
set_option maxHeartbeats 4000000 in
set_option maxRecDepth 100000 in
theorem b_M_reasons {p : Program} {l : Launch} {e : Env} {R : Room} {s : State} {m : MethodId} {args : Array Value} {below : List Frame} {meth : Method} {c : Code} {D : va_G} {K : Nat → ClassId} {A : Nat → Prop} {Q : State → Prop} {τ : Nat → Option Ty} {dom : List Nat} {zb zL : Nat} {zx : Nat → Int32} {zs : Nat → Nat} (hR : 0 ≤ R.frames ∧ 0 ≤ R.locals) (B : Bx p s m args c cX12_reasons 3 RX12 wp_M_reasons D (tysA K) A) (Z : Sk τ dom) (hz : ZL zb zL zx zs A s s.heap) (h : Nat) (q : Nat → Nat) (Y : MS τ h q) (d : Int) (x2 : Int) (r_d : 0 ≤ d ∧ d ≤ 1) (r_x2 : -2147483648 ≤ x2 ∧ x2 ≤ 2147483647) (σ0 : Nat → va_E) (G0 : GM K h q σ0) (hend : ∀ (σ' : Nat → va_E) (lv : List (Nat × Value)) (pc : Nat), GM K h q σ' → Fr τ [(136, 0)] σ0 σ' → decode cX12_reasons pc = .ok (.return_, 1) → V p l e R s m args below meth c 3 D A Q (0, 0) (fd dom σ') lv pc []) : V p l e R s m args below meth c 3 D A Q (0, 0) (fd dom σ0) [(0, .ref h), (1, .int (iI d)), (2, .int (iI x2))] 0 [] := by
  have F0 : Fr τ [(136, 0)] σ0 σ0 := Fr.rf
  obtain ⟨z1, z2, z3, z4, z5, h6, r7, r8, r9, r10, r11⟩ := G0.t.o
  have J25 : ∀ (z25_s0 : Int) (z25_s1 : Int), (-2147483648 ≤ z25_s0 ∧ z25_s0 ≤ 2147483647) → (0 ≤ z25_s1 ∧ z25_s1 ≤ 1) → V p l e R s m args below meth c 3 D A Q (0, 0) (fd dom σ0) [] 25 [.int (iI z25_s0), .int (iI z25_s1), .ref (q 36)] := by
    intro z25_s0 z25_s1 r25_s0 r25_s1
    obtain ⟨f12, h13, e14⟩ := ga_36 G0.t
    refine u_iast B Z (t0 := 0) (x := iI z25_s0) (ym_36 Y) h13 rfl (by omega) dX12_reasons_25 (fun σ15 h16 n17 => ?_)
    have e18 := el_upd (z := z25_s0) e14 ⟨by omega, by omega⟩ (z25_s1 : Int).toNat
    have F19 := F0.put (ym_36 Y) (by simp) n17
    have G20 := gp_36 Y G0 ⟨_, h16, e18⟩ n17
    exact hend σ15 _ _ G20 F19 dX12_reasons_26
  refine v_aload_n B dX12_reasons_0 rfl rfl ?_
  refine u_get B Z (C := RX12) (T := TX12) (N := 123) (ci := 12) hi_M_reasons_X12 Y.o h6 rfl 36 (by decide +kernel) (List.mem_of_getElem? (i := 1) rfl) rfl dX12_reasons_1 ?_
  refine v_iload_n B dX12_reasons_4 rfl rfl ?_
  refine v_aload_n B dX12_reasons_5 rfl rfl ?_
  refine u_get B Z (C := RX12) (T := TX12) (N := 123) (ci := 12) hi_M_reasons_X12 Y.o h6 rfl 36 (by decide +kernel) (List.mem_of_getElem? (i := 1) rfl) rfl dX12_reasons_6 ?_
  refine v_iload_n B dX12_reasons_9 rfl rfl ?_
  obtain ⟨f21, h22, e23⟩ := ga_36 G0.t
  obtain ⟨z24, e25, r26⟩ := e23 (d : Int).toNat
  refine u_iald B Z (t0 := 0) (ym_36 Y) h22 rfl (by omega) e25 dX12_reasons_10 ?_
  refine v_iconst B (v := iI (-1)) dX12_reasons_11 rfl ?_
  refine u_icmp_ne B (tgt := 19) (by omega) (by omega) dX12_reasons_12 (by decide +kernel) (fun c27 => ?_) (fun c27 => ?_)
  · refine v_aload_n B dX12_reasons_19 rfl rfl ?_
    refine u_get B Z (C := RX12) (T := TX12) (N := 123) (ci := 12) hi_M_reasons_X12 Y.o h6 rfl 36 (by decide +kernel) (List.mem_of_getElem? (i := 1) rfl) rfl dX12_reasons_20 ?_
    refine v_iload_n B dX12_reasons_23 rfl rfl ?_
    refine u_iald B Z (t0 := 0) (ym_36 Y) h22 rfl (by omega) e25 dX12_reasons_24 ?_
    refine v_lv [] rfl ?_
    exact J25 z24 d ⟨by omega, by omega⟩ ⟨by omega, by omega⟩
  · refine v_iload_n B dX12_reasons_15 rfl rfl ?_
    refine v_goto B (tgt := 25) dX12_reasons_16 (by decide +kernel) ?_
    refine v_lv [] rfl ?_
    exact J25 x2 d ⟨by omega, by omega⟩ ⟨by omega, by omega⟩
set_option maxRecDepth 100000 in
theorem c_M_reasons (l : Launch) (D : va_G) (K : Nat → ClassId) {τ : Nat → Option Ty} {dom : List Nat} (Z : Sk τ dom) (zb zL : Nat) (zx : Nat → Int32) (zs : Nat → Nat) (h : Nat) (q : Nat → Nat) (Y : MS τ h q) (d : Int) (x2 : Int) (r_d : 0 ≤ d ∧ d ≤ 1) (r_x2 : -2147483648 ≤ x2 ∧ x2 ≤ 2147483647) (σ0 : Nat → va_E) (G0 : GM K h q σ0) : MZ l yX12_reasons wp_M_reasons ({ frames := 0, cells := 0, slots := 0, locals := 0 }) D (tysA K) [.ref h, .int (iI d), .int (iI x2)] (fd dom σ0) zb zL zx zs (Qv D (fun σ' => GM K h q σ' ∧ Fr τ [(136, 0)] σ0 σ') (fun σ' => fd dom σ')) 0 0 := by
  refine mz_of (cc := cX12_reasons) (maxL := 3) (ret := none) (by decide +kernel) rfl (Nat.le_of_ble_eq_true rfl) ?_
  intro p e s m below meth c A B hr hlk _ hz
  exact b_M_reasons ⟨Nat.le_refl _, Nat.le_refl _⟩ B Z hz h q Y d x2 r_d r_x2 σ0 G0 (fun σ' lv pc G F hd => v_vret B hr hlk σ' ⟨G, F⟩ rfl (Nat.le_refl _) (Nat.le_refl _) hd)
