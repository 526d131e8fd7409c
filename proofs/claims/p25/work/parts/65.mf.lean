def wp_M_feed : List Cond := .code yX12_feed cX12_feed 8 (some .int) :: (([.fieldLink RX12 10 "LowEnergyModel" "tape" "[B", .fieldLink RX12 7 "LowEnergyModel" "taped" "I", .fieldLink RX12 1 "LowEnergyModel" "thrown" "I"] : List Cond) ++ (wsX120 ++ ([])))
theorem hi_M_feed_X12 : ∀ x ∈ u_ws RX12 TX12 123, x ∈ wp_M_feed := fun _ h => List.mem_cons_of_mem _ (List.mem_append_right _ (List.mem_append_left _ h))
set_option maxHeartbeats 4000000 in
set_option maxRecDepth 100000 in
theorem b_M_feed {p : Program} {l : Launch} {e : Env} {R : Room} {s : State} {m : MethodId} {args : Array Value} {below : List Frame} {meth : Method} {c : Code} {D : va_G} {K : Nat → ClassId} {A : Nat → Prop} {Q : State → Prop} {τ : Nat → Option Ty} {dom : List Nat} {zb zL : Nat} {zx : Nat → Int32} {zs : Nat → Nat} (hR : 0 ≤ R.frames ∧ 0 ≤ R.locals) (B : Bx p s m args c cX12_feed 8 RX12 wp_M_feed D (tysA K) A) (Z : Sk τ dom) (hz : ZL zb zL zx zs A s s.heap) (h : Nat) (q : Nat → Nat) (Y : MS τ h q) (x1 : Int) (x2 : Int) (x3 : Int) (x4 : Int) (x5 : Int) (r_x1 : -2147483648 ≤ x1 ∧ x1 ≤ 2147483647) (r_x2 : -2147483648 ≤ x2 ∧ x2 ≤ 2147483647) (r_x3 : -2147483648 ≤ x3 ∧ x3 ≤ 2147483647) (r_x4 : -2147483648 ≤ x4 ∧ x4 ≤ 2147483647) (r_x5 : -2147483648 ≤ x5 ∧ x5 ≤ 2147483647) (σ0 : Nat → va_E) (G0 : GM K h q σ0) (hend : ∀ (σ' : Nat → va_E) (z : Int) (lv : List (Nat × Value)) (pc : Nat), GM K h q σ' → Fr τ [(50, 0), (101, 0)] σ0 σ' → (-1 ≤ z ∧ z ≤ 120) → decode cX12_feed pc = .ok (.ireturn, 1) → V p l e R s m args below meth c 8 D A Q (0, 0) (fd dom σ') lv pc [.int (iI z)]) : V p l e R s m args below meth c 8 D A Q (0, 0) (fd dom σ0) [(0, .ref h), (1, .int (iI x1)), (2, .int (iI x2)), (3, .int (iI x3)), (4, .int (iI x4)), (5, .int (iI x5))] 0 [] := by
  have F0 : Fr τ [(50, 0), (101, 0)] σ0 σ0 := Fr.rf
  obtain ⟨z1, z2, z3, z4, z5, h6, r7, r8, r9, r10, r11⟩ := G0.t.o
  have J22 : ∀ (k22 : Nat) (σ_22 : Nat → va_E) (z22_6 : Int), (2147483648 - z22_6).toNat ≤ k22 → GM K h q σ_22 → Fr τ [(50, 0), (101, 0)] σ0 σ_22 → (0 ≤ z2 ∧ z2 ≤ 80) → (0 ≤ z22_6 ∧ z22_6 ≤ 20) → (Fld σ_22 h 12 2 (fun y => y ≤ 80)) → V p l e R s m args below meth c 8 D A Q (0, 0) (fd dom σ_22) [(0, .ref h), (1, .int (iI x1)), (2, .int (iI x2)), (3, .int (iI x3)), (4, .int (iI x4)), (5, .int (iI x5)), (6, .int (iI z22_6))] 22 [] := by
    intro k22
    induction k22 with
    | zero => intro σ_22 z22_6 m22 G_22 F_22 rv22_z2 r22_6 i22; omega
    | succ k22 IH22 =>
      intro σ_22 z22_6 m22 G_22 F_22 rv22_z2 r22_6 i22
      have J75 : ∀ (z75_s0 : Int), (0 ≤ z22_6 ∧ z22_6 ≤ 19) → (-2147483648 ≤ z75_s0 ∧ z75_s0 ≤ 2147483647) → (Fld σ_22 h 12 2 (fun y => y ≤ 80)) → V p l e R s m args below meth c 8 D A Q (0, 0) (fd dom σ_22) [(0, .ref h), (1, .int (iI x1)), (2, .int (iI x2)), (3, .int (iI x3)), (4, .int (iI x4)), (5, .int (iI x5)), (6, .int (iI z22_6))] 75 [.int (iI z75_s0)] := by
        intro z75_s0 rv75_z22_6 r75_s0 i75
        obtain ⟨z12, z13, z14, z15, z16, h17, r18, r19, r20, r21, r22⟩ := G_22.t.o
        have r23 : z13 ≤ 80 := (i75).use h17 (j := 2) rfl (by omega)
        refine v_istore B (lv' := [(7, .int (iI z75_s0)), (0, .ref h), (1, .int (iI x1)), (2, .int (iI x2)), (3, .int (iI x3)), (4, .int (iI x4)), (5, .int (iI x5)), (6, .int (iI z22_6))]) dX12_feed_75 (by decide +kernel) rfl ?_
        refine v_aload_n B dX12_feed_77 rfl rfl ?_
        refine u_get B Z (C := RX12) (T := TX12) (N := 123) (ci := 12) hi_M_feed_X12 Y.o h17 rfl 1 (by decide +kernel) (List.mem_of_getElem? (i := 1) rfl) rfl dX12_feed_78 ?_
        refine v_aload_n B dX12_feed_81 rfl rfl ?_
        refine u_get B Z (C := RX12) (T := TX12) (N := 123) (ci := 12) hi_M_feed_X12 Y.o h17 rfl 2 (by decide +kernel) (List.mem_of_getElem? (i := 2) rfl) rfl dX12_feed_82 ?_
        refine v_iload B dX12_feed_85 rfl ?_
        refine v_iadd B (v := iI (z13 + z22_6)) dX12_feed_87 ((iI_add _ _).trans (congrArg iI (by omega))) ?_
        refine v_iload B dX12_feed_88 rfl ?_
        refine v_bipush B (v := iI 24) dX12_feed_90 (by decide +kernel) ?_
        refine v_bipush B (v := iI 8) dX12_feed_92 (by decide +kernel) ?_
        refine v_iload B dX12_feed_94 rfl ?_
        refine v_iconst B (v := iI 3) dX12_feed_96 rfl ?_
        obtain ⟨z24, e25, r26⟩ := iI_and z22_6 (c := 3) (by decide) (by decide)
        refine v_iand B (v := iI z24) dX12_feed_97 e25 ?_
        refine v_imul B (v := iI (8 * z24)) dX12_feed_98 ((iI_mul _ _).trans (congrArg iI (by omega))) ?_
        refine v_isub B (v := iI ((-8) * z24 + 24)) dX12_feed_99 ((iI_sub _ _).trans (congrArg iI (by omega))) ?_
        obtain ⟨z27, e28, r29⟩ := iI_any (iI z75_s0 >>> (iI ((-8) * z24 + 24) &&& 31))
        refine v_ishr B (v := iI z27) dX12_feed_100 e28 ?_
        obtain ⟨z30, e31, r32⟩ := iI_i8 z27
        refine v_i2b B (v := iI z30) dX12_feed_101 e31 ?_
        obtain ⟨f33, h34, e35⟩ := ga_1 G_22.t
        refine u_bast B Z (t0 := 2) (x := iI z30) (y := iI z30) (ym_1 Y) h34 rfl (by omega) (nar8 (by omega)) dX12_feed_102 (fun σ36 h37 n38 => ?_)
        have F39 := F_22.put (ym_1 Y) (by simp) n38
        have G40 := gp_1 Y G_22 ⟨_, h37, el_upd (z := z30) e35 ⟨by omega, by omega⟩ _⟩ n38
        refine v_iinc B (k := 7) (v := iI (z22_6 + 1)) (lv' := [(6, .int (iI (z22_6 + 1))), (7, .int (iI z75_s0)), (0, .ref h), (1, .int (iI x1)), (2, .int (iI x2)), (3, .int (iI x3)), (4, .int (iI x4)), (5, .int (iI x5))]) dX12_feed_103 rfl ((iI_add _ _).trans (congrArg iI (by omega))) (by decide +kernel) rfl ?_
        refine v_goto B (tgt := 22) dX12_feed_106 (by decide +kernel) ?_
        refine v_lv [2, 3, 4, 5, 6, 7, 0] rfl ?_
        have h41 := (n38 h (ne_ty Y.o (ym_1 Y) (by decide))).trans (h17)
        exact IH22 σ36 (z22_6 + 1) (by omega) G40 F39 ⟨by omega, by omega⟩ ⟨by omega, by omega⟩ ((Fld.mk h41 (j := 2) rfl (by omega) (show z13 ≤ 80 from by omega)))
      obtain ⟨z42, z43, z44, z45, z46, h47, r48, r49, r50, r51, r52⟩ := G_22.t.o
      have r53 : z43 ≤ 80 := (i22).use h47 (j := 2) rfl (by omega)
      refine v_iload B dX12_feed_22 rfl ?_
      refine v_bipush B (v := iI 20) dX12_feed_24 (by decide +kernel) ?_
      refine u_icmp_ge B (tgt := 109) (by omega) (by omega) dX12_feed_26 (by decide +kernel) (fun c54 => ?_) (fun c54 => ?_)
      · refine v_aload_n B dX12_feed_109 rfl rfl ?_
        refine v_dup B dX12_feed_110 rfl ?_
        refine u_get B Z (C := RX12) (T := TX12) (N := 123) (ci := 12) hi_M_feed_X12 Y.o h47 rfl 2 (by decide +kernel) (List.mem_of_getElem? (i := 2) rfl) rfl dX12_feed_111 ?_
        refine v_bipush B (v := iI 20) dX12_feed_114 (by decide +kernel) ?_
        refine v_iadd B (v := iI (z43 + 20)) dX12_feed_116 ((iI_add _ _).trans (congrArg iI (by omega))) ?_
        refine u_put B Z (C := RX12) (T := TX12) (N := 123) (ci := 12) hi_M_feed_X12 Y.o h47 rfl 2 (by decide +kernel) tyX12 tyX12_ok nmX12 (List.mem_of_getElem? (i := 2) rfl) rfl (ty := .int) (tyX12_ok 2 (by decide +kernel)) rfl rfl (Nat.le_of_ble_eq_true rfl) (fs' := fsM q (iI z42) (iI (z43 + 20)) (iI z44) (iI z45) (iI z46)) rfl dX12_feed_117 (fun σ55 h56 n57 => ?_)
        have F58 := F_22.put Y.o (by simp) n57
        have G59 := G_22.putO Y ⟨z42, (z43 + 20), z44, z45, z46, h56, ⟨by omega, by omega⟩, ⟨by omega, by omega⟩, ⟨by omega, by omega⟩, ⟨by omega, by omega⟩, ⟨by omega, by omega⟩⟩ n57
        refine v_aload_n B dX12_feed_120 rfl rfl ?_
        refine u_get B Z (C := RX12) (T := TX12) (N := 123) (ci := 12) hi_M_feed_X12 Y.o h56 rfl 2 (by decide +kernel) (List.mem_of_getElem? (i := 2) rfl) rfl dX12_feed_121 ?_
        exact hend σ55 (z43 + 20) _ _ G59 F58 ⟨by omega, by omega⟩ dX12_feed_124
      · refine v_iload B dX12_feed_29 rfl ?_
        refine v_iconst B (v := iI 4) dX12_feed_31 rfl ?_
        refine u_icmp_ge B (tgt := 39) (by omega) (by omega) dX12_feed_32 (by decide +kernel) (fun c60 => ?_) (fun c60 => ?_)
        · refine v_iload B dX12_feed_39 rfl ?_
          refine v_bipush B (v := iI 8) dX12_feed_41 (by decide +kernel) ?_
          refine u_icmp_ge B (tgt := 50) (by omega) (by omega) dX12_feed_43 (by decide +kernel) (fun c61 => ?_) (fun c61 => ?_)
          · refine v_iload B dX12_feed_50 rfl ?_
            refine v_bipush B (v := iI 12) dX12_feed_52 (by decide +kernel) ?_
            refine u_icmp_ge B (tgt := 61) (by omega) (by omega) dX12_feed_54 (by decide +kernel) (fun c62 => ?_) (fun c62 => ?_)
            · refine v_iload B dX12_feed_61 rfl ?_
              refine v_bipush B (v := iI 16) dX12_feed_63 (by decide +kernel) ?_
              refine u_icmp_ge B (tgt := 73) (by omega) (by omega) dX12_feed_65 (by decide +kernel) (fun c63 => ?_) (fun c63 => ?_)
              · refine v_iload B dX12_feed_73 rfl ?_
                exact J75 x5 ⟨by omega, by omega⟩ ⟨by omega, by omega⟩ ((Fld.mk h47 (j := 2) rfl (by omega) (show z43 ≤ 80 from by omega)))
              · refine v_iload B dX12_feed_68 rfl ?_
                refine v_goto B (tgt := 75) dX12_feed_70 (by decide +kernel) ?_
                exact J75 x4 ⟨by omega, by omega⟩ ⟨by omega, by omega⟩ ((Fld.mk h47 (j := 2) rfl (by omega) (show z43 ≤ 80 from by omega)))
            · refine v_iload_n B dX12_feed_57 rfl rfl ?_
              refine v_goto B (tgt := 75) dX12_feed_58 (by decide +kernel) ?_
              exact J75 x3 ⟨by omega, by omega⟩ ⟨by omega, by omega⟩ ((Fld.mk h47 (j := 2) rfl (by omega) (show z43 ≤ 80 from by omega)))
          · refine v_iload_n B dX12_feed_46 rfl rfl ?_
            refine v_goto B (tgt := 75) dX12_feed_47 (by decide +kernel) ?_
            exact J75 x2 ⟨by omega, by omega⟩ ⟨by omega, by omega⟩ ((Fld.mk h47 (j := 2) rfl (by omega) (show z43 ≤ 80 from by omega)))
        · refine v_iload_n B dX12_feed_35 rfl rfl ?_
          refine v_goto B (tgt := 75) dX12_feed_36 (by decide +kernel) ?_
          exact J75 x1 ⟨by omega, by omega⟩ ⟨by omega, by omega⟩ ((Fld.mk h47 (j := 2) rfl (by omega) (show z43 ≤ 80 from by omega)))
  refine v_aload_n B dX12_feed_0 rfl rfl ?_
  refine v_iconst B (v := iI 0) dX12_feed_1 rfl ?_
  refine u_put B Z (C := RX12) (T := TX12) (N := 123) (ci := 12) hi_M_feed_X12 Y.o h6 rfl 0 (by decide +kernel) tyX12 tyX12_ok nmX12 (List.mem_of_getElem? (i := 3) rfl) rfl (ty := .int) (tyX12_ok 0 (by decide +kernel)) rfl rfl (Nat.le_of_ble_eq_true rfl) (fs' := fsM q (iI 0) (iI z2) (iI z3) (iI z4) (iI z5)) rfl dX12_feed_2 (fun σ64 h65 n66 => ?_)
  have F67 := F0.put Y.o (by simp) n66
  have G68 := G0.putO Y ⟨0, z2, z3, z4, z5, h65, ⟨by omega, by omega⟩, ⟨by omega, by omega⟩, ⟨by omega, by omega⟩, ⟨by omega, by omega⟩, ⟨by omega, by omega⟩⟩ n66
  refine v_aload_n B dX12_feed_5 rfl rfl ?_
  refine u_get B Z (C := RX12) (T := TX12) (N := 123) (ci := 12) hi_M_feed_X12 Y.o h65 rfl 2 (by decide +kernel) (List.mem_of_getElem? (i := 2) rfl) rfl dX12_feed_6 ?_
  refine v_bipush B (v := iI 20) dX12_feed_9 (by decide +kernel) ?_
  refine v_iadd B (v := iI (z2 + 20)) dX12_feed_11 ((iI_add _ _).trans (congrArg iI (by omega))) ?_
  refine v_bipush B (v := iI 100) dX12_feed_12 (by decide +kernel) ?_
  refine u_icmp_le B (tgt := 19) (by omega) (by omega) dX12_feed_14 (by decide +kernel) (fun c69 => ?_) (fun c69 => ?_)
  · refine v_iconst B (v := iI 0) dX12_feed_19 rfl ?_
    refine v_istore B (lv' := [(6, .int (iI 0)), (0, .ref h), (1, .int (iI x1)), (2, .int (iI x2)), (3, .int (iI x3)), (4, .int (iI x4)), (5, .int (iI x5))]) dX12_feed_20 (by decide +kernel) rfl ?_
    refine v_lv [1, 2, 3, 4, 5, 6, 0] rfl ?_
    exact J22 _ σ64 0 (Nat.le_refl _) G68 F67 ⟨by omega, by omega⟩ ⟨by omega, by omega⟩ ((Fld.mk h65 (j := 2) rfl (by omega) (show z2 ≤ 80 from by omega)))
  · refine v_iconst B (v := iI (-1)) dX12_feed_17 rfl ?_
    exact hend σ64 (-1) _ _ G68 F67 ⟨by omega, by omega⟩ dX12_feed_18
set_option maxRecDepth 100000 in
theorem c_M_feed (l : Launch) (D : va_G) (K : Nat → ClassId) {τ : Nat → Option Ty} {dom : List Nat} (Z : Sk τ dom) (zb zL : Nat) (zx : Nat → Int32) (zs : Nat → Nat) (h : Nat) (q : Nat → Nat) (Y : MS τ h q) (x1 : Int) (x2 : Int) (x3 : Int) (x4 : Int) (x5 : Int) (r_x1 : -2147483648 ≤ x1 ∧ x1 ≤ 2147483647) (r_x2 : -2147483648 ≤ x2 ∧ x2 ≤ 2147483647) (r_x3 : -2147483648 ≤ x3 ∧ x3 ≤ 2147483647) (r_x4 : -2147483648 ≤ x4 ∧ x4 ≤ 2147483647) (r_x5 : -2147483648 ≤ x5 ∧ x5 ≤ 2147483647) (σ0 : Nat → va_E) (G0 : GM K h q σ0) : MZ l yX12_feed wp_M_feed ({ frames := 0, cells := 0, slots := 0, locals := 0 }) D (tysA K) [.ref h, .int (iI x1), .int (iI x2), .int (iI x3), .int (iI x4), .int (iI x5)] (fd dom σ0) zb zL zx zs (Qi D (fun r σ' => GM K h q σ' ∧ Fr τ [(50, 0), (101, 0)] σ0 σ' ∧ ∃ z : Int, r = iI z ∧ (-1 ≤ z ∧ z ≤ 120)) (fun σ' => fd dom σ')) 0 0 := by
  refine mz_of (cc := cX12_feed) (maxL := 8) (ret := (some .int)) (by decide +kernel) rfl (Nat.le_of_ble_eq_true rfl) ?_
  intro p e s m below meth c A B hr hlk _ hz
  exact b_M_feed ⟨Nat.le_refl _, Nat.le_refl _⟩ B Z hz h q Y x1 x2 x3 x4 x5 r_x1 r_x2 r_x3 r_x4 r_x5 σ0 G0 (fun σ' z lv pc G F hZ hd => v_iret B hr hlk σ' ⟨G, F, z, rfl, hZ⟩ rfl (Nat.le_refl _) (Nat.le_refl _) hd)

def wp_M_end : List Cond := .code yX12_end cX12_end 2 (some .int) :: (([.fieldLink RX12 1 "LowEnergyModel" "thrown" "I", .fieldLink RX12 7 "LowEnergyModel" "taped" "I"] : List Cond) ++ (wsX120 ++ ([])))
theorem hi_M_end_X12 : ∀ x ∈ u_ws RX12 TX12 123, x ∈ wp_M_end := fun _ h => List.mem_cons_of_mem _ (List.mem_append_right _ (List.mem_append_left _ h))
set_option maxHeartbeats 4000000 in
set_option maxRecDepth 100000 in
theorem b_M_end {p : Program} {l : Launch} {e : Env} {R : Room} {s : State} {m : MethodId} {args : Array Value} {below : List Frame} {meth : Method} {c : Code} {D : va_G} {K : Nat → ClassId} {A : Nat → Prop} {Q : State → Prop} {τ : Nat → Option Ty} {dom : List Nat} {zb zL : Nat} {zx : Nat → Int32} {zs : Nat → Nat} (hR : 0 ≤ R.frames ∧ 0 ≤ R.locals) (B : Bx p s m args c cX12_end 2 RX12 wp_M_end D (tysA K) A) (Z : Sk τ dom) (hz : ZL zb zL zx zs A s s.heap) (h : Nat) (q : Nat → Nat) (Y : MS τ h q) (x1 : Int) (r_x1 : -2147483648 ≤ x1 ∧ x1 ≤ 2147483647) (σ0 : Nat → va_E) (G0 : GM K h q σ0) (hend : ∀ (σ' : Nat → va_E) (z : Int) (lv : List (Nat × Value)) (pc : Nat), GM K h q σ' → Fr τ [(50, 0)] σ0 σ' → (-1 ≤ z ∧ z ≤ 100) → decode cX12_end pc = .ok (.ireturn, 1) → V p l e R s m args below meth c 2 D A Q (0, 0) (fd dom σ') lv pc [.int (iI z)]) : V p l e R s m args below meth c 2 D A Q (0, 0) (fd dom σ0) [(0, .ref h), (1, .int (iI x1))] 0 [] := by
  have F0 : Fr τ [(50, 0)] σ0 σ0 := Fr.rf
  obtain ⟨z1, z2, z3, z4, z5, h6, r7, r8, r9, r10, r11⟩ := G0.t.o
  refine v_aload_n B dX12_end_0 rfl rfl ?_
  refine v_iconst B (v := iI 0) dX12_end_1 rfl ?_
  refine u_put B Z (C := RX12) (T := TX12) (N := 123) (ci := 12) hi_M_end_X12 Y.o h6 rfl 0 (by decide +kernel) tyX12 tyX12_ok nmX12 (List.mem_of_getElem? (i := 1) rfl) rfl (ty := .int) (tyX12_ok 0 (by decide +kernel)) rfl rfl (Nat.le_of_ble_eq_true rfl) (fs' := fsM q (iI 0) (iI z2) (iI z3) (iI z4) (iI z5)) rfl dX12_end_2 (fun σ12 h13 n14 => ?_)
  have F15 := F0.put Y.o (by simp) n14
  have G16 := G0.putO Y ⟨0, z2, z3, z4, z5, h13, ⟨by omega, by omega⟩, ⟨by omega, by omega⟩, ⟨by omega, by omega⟩, ⟨by omega, by omega⟩, ⟨by omega, by omega⟩⟩ n14
  refine v_iload_n B dX12_end_5 rfl rfl ?_
  refine u_if_lt B (tgt := 17) (by omega) dX12_end_6 (by decide +kernel) (fun c17 => ?_) (fun c17 => ?_)
  · refine v_iconst B (v := iI (-1)) dX12_end_17 rfl ?_
    exact hend σ12 (-1) _ _ G16 F15 ⟨by omega, by omega⟩ dX12_end_18
  · refine v_iload_n B dX12_end_9 rfl rfl ?_
    refine v_aload_n B dX12_end_10 rfl rfl ?_
    refine u_get B Z (C := RX12) (T := TX12) (N := 123) (ci := 12) hi_M_end_X12 Y.o h13 rfl 2 (by decide +kernel) (List.mem_of_getElem? (i := 2) rfl) rfl dX12_end_11 ?_
    refine u_icmp_le B (tgt := 19) (by omega) (by omega) dX12_end_14 (by decide +kernel) (fun c18 => ?_) (fun c18 => ?_)
    · refine v_aload_n B dX12_end_19 rfl rfl ?_
      refine v_iload_n B dX12_end_20 rfl rfl ?_
      refine u_put B Z (C := RX12) (T := TX12) (N := 123) (ci := 12) hi_M_end_X12 Y.o h13 rfl 2 (by decide +kernel) tyX12 tyX12_ok nmX12 (List.mem_of_getElem? (i := 2) rfl) rfl (ty := .int) (tyX12_ok 2 (by decide +kernel)) rfl rfl (Nat.le_of_ble_eq_true rfl) (fs' := fsM q (iI 0) (iI x1) (iI z3) (iI z4) (iI z5)) rfl dX12_end_21 (fun σ19 h20 n21 => ?_)
      have F22 := F15.put Y.o (by simp) n21
      have G23 := G16.putO Y ⟨0, x1, z3, z4, z5, h20, ⟨by omega, by omega⟩, ⟨by omega, by omega⟩, ⟨by omega, by omega⟩, ⟨by omega, by omega⟩, ⟨by omega, by omega⟩⟩ n21
      refine v_iload_n B dX12_end_24 rfl rfl ?_
      exact hend σ19 x1 _ _ G23 F22 ⟨by omega, by omega⟩ dX12_end_25
    · refine v_iconst B (v := iI (-1)) dX12_end_17 rfl ?_
      exact hend σ12 (-1) _ _ G16 F15 ⟨by omega, by omega⟩ dX12_end_18
set_option maxRecDepth 100000 in
theorem c_M_end (l : Launch) (D : va_G) (K : Nat → ClassId) {τ : Nat → Option Ty} {dom : List Nat} (Z : Sk τ dom) (zb zL : Nat) (zx : Nat → Int32) (zs : Nat → Nat) (h : Nat) (q : Nat → Nat) (Y : MS τ h q) (x1 : Int) (r_x1 : -2147483648 ≤ x1 ∧ x1 ≤ 2147483647) (σ0 : Nat → va_E) (G0 : GM K h q σ0) : MZ l yX12_end wp_M_end ({ frames := 0, cells := 0, slots := 0, locals := 0 }) D (tysA K) [.ref h, .int (iI x1)] (fd dom σ0) zb zL zx zs (Qi D (fun r σ' => GM K h q σ' ∧ Fr τ [(50, 0)] σ0 σ' ∧ ∃ z : Int, r = iI z ∧ (-1 ≤ z ∧ z ≤ 100)) (fun σ' => fd dom σ')) 0 0 := by
  refine mz_of (cc := cX12_end) (maxL := 2) (ret := (some .int)) (by decide +kernel) rfl (Nat.le_of_ble_eq_true rfl) ?_
  intro p e s m below meth c A B hr hlk _ hz
  exact b_M_end ⟨Nat.le_refl _, Nat.le_refl _⟩ B Z hz h q Y x1 r_x1 σ0 G0 (fun σ' z lv pc G F hZ hd => v_iret B hr hlk σ' ⟨G, F, z, rfl, hZ⟩ rfl (Nat.le_refl _) (Nat.le_refl _) hd)

def wp_M_seed : List Cond := .code yX12_seed cX12_seed 3 (some .boolean) :: (([.fieldLink RX12 1 "LowEnergyModel" "thrown" "I", .methodLink RX12 413 yX12_in, .static yX12_in, .initialized RX12, .code yX12_in cX12_in 2 (some .boolean), .fieldLink RX12 48 "LowEnergyModel" "x" "[I"] : List Cond) ++ (wsX120 ++ ([])))
theorem hi_M_seed_X12 : ∀ x ∈ u_ws RX12 TX12 123, x ∈ wp_M_seed := fun _ h => List.mem_cons_of_mem _ (List.mem_append_right _ (List.mem_append_left _ h))
set_option maxRecDepth 100000 in
theorem gd_M_seed_M_in_413 : GoodIn wp_M_seed (va_wsS RX12 413 yX12_in wp_M_in) := goodIn_app (goodIn_r _ [2, 3, 4] rfl rfl) (goodIn_ca (goodIn_r _ [5] rfl rfl) (goodIn_nil))
set_option maxHeartbeats 4000000 in
set_option maxRecDepth 100000 in
theorem b_M_seed {p : Program} {l : Launch} {e : Env} {R : Room} {s : State} {m : MethodId} {args : Array Value} {below : List Frame} {meth : Method} {c : Code} {D : va_G} {K : Nat → ClassId} {A : Nat → Prop} {Q : State → Prop} {τ : Nat → Option Ty} {dom : List Nat} {zb zL : Nat} {zx : Nat → Int32} {zs : Nat → Nat} (hR : 1 ≤ R.frames ∧ 21 ≤ R.locals) (B : Bx p s m args c cX12_seed 3 RX12 wp_M_seed D (tysA K) A) (Z : Sk τ dom) (hz : ZL zb zL zx zs A s s.heap) (h : Nat) (q : Nat → Nat) (Y : MS τ h q) (x1 : Int) (x2 : Int) (r_x1 : -2147483648 ≤ x1 ∧ x1 ≤ 2147483647) (r_x2 : -2147483648 ≤ x2 ∧ x2 ≤ 2147483647) (σ0 : Nat → va_E) (G0 : GM K h q σ0) (hend : ∀ (σ' : Nat → va_E) (z : Int) (lv : List (Nat × Value)) (pc : Nat), GM K h q σ' → Fr τ [(50, 0), (108, 0)] σ0 σ' → (0 ≤ z ∧ z ≤ 1) → ((z = 1 ∧ (0 ≤ x1 ∧ x1 ≤ 1)) ∨ (z = 0 ∧ ¬ (0 ≤ x1 ∧ x1 ≤ 1))) → decode cX12_seed pc = .ok (.ireturn, 1) → V p l e R s m args below meth c 3 D A Q (0, 0) (fd dom σ') lv pc [.int (iI z)]) : V p l e R s m args below meth c 3 D A Q (0, 0) (fd dom σ0) [(0, .ref h), (1, .int (iI x1)), (2, .int (iI x2))] 0 [] := by
  have F0 : Fr τ [(50, 0), (108, 0)] σ0 σ0 := Fr.rf
  obtain ⟨z1, z2, z3, z4, z5, h6, r7, r8, r9, r10, r11⟩ := G0.t.o
  refine v_aload_n B dX12_seed_0 rfl rfl ?_
  refine v_iconst B (v := iI 0) dX12_seed_1 rfl ?_
  refine u_put B Z (C := RX12) (T := TX12) (N := 123) (ci := 12) hi_M_seed_X12 Y.o h6 rfl 0 (by decide +kernel) tyX12 tyX12_ok nmX12 (List.mem_of_getElem? (i := 1) rfl) rfl (ty := .int) (tyX12_ok 0 (by decide +kernel)) rfl rfl (Nat.le_of_ble_eq_true rfl) (fs' := fsM q (iI 0) (iI z2) (iI z3) (iI z4) (iI z5)) rfl dX12_seed_2 (fun σ12 h13 n14 => ?_)
  have F15 := F0.put Y.o (by simp) n14
  have G16 := G0.putO Y ⟨0, z2, z3, z4, z5, h13, ⟨by omega, by omega⟩, ⟨by omega, by omega⟩, ⟨by omega, by omega⟩, ⟨by omega, by omega⟩, ⟨by omega, by omega⟩⟩ n14
  refine v_iload_n B dX12_seed_5 rfl rfl ?_
  refine v_iconst B (v := iI 2) dX12_seed_6 rfl ?_
  refine u_callSi B Z hz (n := 2) (As := [.int (iI x1), .int (iI 2)]) (rest := []) (c_M_in l D K Z _ _ _ _ h q Y x1 2 ⟨by omega, by omega⟩ ⟨by omega, by omega⟩ σ12 (G16.t)) gd_M_seed_M_in_413 rfl rfl rfl (by decide +kernel) ⟨Nat.le_trans (by decide +kernel) hR.1, Nat.le_trans (by decide +kernel) hR.2⟩ rfl rfl (Nat.le_of_ble_eq_true rfl) dX12_seed_7 ⟨Nat.zero_le _, Nat.zero_le _⟩ (fun v19 σ17 p18 => ?_)
  obtain ⟨rfl, z20, e21, r22, po23⟩ := p18
  subst e21
  refine u_if_ne B (tgt := 15) (by omega) dX12_seed_10 (by decide +kernel) (fun c24 => ?_) (fun c24 => ?_)
  · refine v_aload_n B dX12_seed_15 rfl rfl ?_
    refine u_get B Z (C := RX12) (T := TX12) (N := 123) (ci := 12) hi_M_seed_X12 Y.o h13 rfl 8 (by decide +kernel) (List.mem_of_getElem? (i := 6) rfl) rfl dX12_seed_16 ?_
    refine v_iload_n B dX12_seed_19 rfl rfl ?_
    refine v_iload_n B dX12_seed_20 rfl rfl ?_
    obtain ⟨f25, h26, e27⟩ := ga_8 G16.t
    refine u_iast B Z (t0 := 0) (x := iI x2) (ym_8 Y) h26 rfl (by omega) dX12_seed_21 (fun σ28 h29 n30 => ?_)
    have e31 := el_upd (z := x2) e27 ⟨by omega, by omega⟩ (x1 : Int).toNat
    have F32 := F15.put (ym_8 Y) (by simp) n30
    have G33 := gp_8 Y G16 ⟨_, h29, e31⟩ n30
    refine v_iconst B (v := iI 1) dX12_seed_22 rfl ?_
    exact hend σ28 1 _ _ G33 F32 ⟨by omega, by omega⟩ (by omega) dX12_seed_23
  · refine v_iconst B (v := iI 0) dX12_seed_13 rfl ?_
    exact hend σ12 0 _ _ G16 F15 ⟨by omega, by omega⟩ (by omega) dX12_seed_14
set_option maxRecDepth 100000 in
theorem c_M_seed (l : Launch) (D : va_G) (K : Nat → ClassId) {τ : Nat → Option Ty} {dom : List Nat} (Z : Sk τ dom) (zb zL : Nat) (zx : Nat → Int32) (zs : Nat → Nat) (h : Nat) (q : Nat → Nat) (Y : MS τ h q) (x1 : Int) (x2 : Int) (r_x1 : -2147483648 ≤ x1 ∧ x1 ≤ 2147483647) (r_x2 : -2147483648 ≤ x2 ∧ x2 ≤ 2147483647) (σ0 : Nat → va_E) (G0 : GM K h q σ0) : MZ l yX12_seed wp_M_seed ({ frames := 1, cells := 0, slots := 0, locals := 21 }) D (tysA K) [.ref h, .int (iI x1), .int (iI x2)] (fd dom σ0) zb zL zx zs (Qi D (fun r σ' => GM K h q σ' ∧ Fr τ [(50, 0), (108, 0)] σ0 σ' ∧ ∃ z : Int, r = iI z ∧ (0 ≤ z ∧ z ≤ 1) ∧ ((z = 1 ∧ (0 ≤ x1 ∧ x1 ≤ 1)) ∨ (z = 0 ∧ ¬ (0 ≤ x1 ∧ x1 ≤ 1)))) (fun σ' => fd dom σ')) 0 0 := by
  refine mz_of (cc := cX12_seed) (maxL := 3) (ret := (some .boolean)) (by decide +kernel) rfl (Nat.le_of_ble_eq_true rfl) ?_
  intro p e s m below meth c A B hr hlk _ hz
  exact b_M_seed ⟨Nat.le_refl _, Nat.le_refl _⟩ B Z hz h q Y x1 x2 r_x1 r_x2 σ0 G0 (fun σ' z lv pc G F hZ hP hd => v_zret B hr hlk (nar01 (by omega)) σ' ⟨G, F, z, rfl, hZ, hP⟩ rfl (Nat.le_refl _) (Nat.le_refl _) hd)

def wp_M_isStandby : List Cond := .code yX12_isStandby cX12_isStandby 2 (some .boolean) :: (([.methodLink RX12 413 yX12_in, .static yX12_in, .initialized RX12, .code yX12_in cX12_in 2 (some .boolean), .fieldLink RX12 45 "LowEnergyModel" "state" "[I"] : List Cond) ++ (wsX120 ++ ([])))
theorem hi_M_isStandby_X12 : ∀ x ∈ u_ws RX12 TX12 123, x ∈ wp_M_isStandby := fun _ h => List.mem_cons_of_mem _ (List.mem_append_right _ (List.mem_append_left _ h))
set_option maxRecDepth 100000 in
theorem gd_M_isStandby_M_in_413 : GoodIn wp_M_isStandby (va_wsS RX12 413 yX12_in wp_M_in) := goodIn_app (goodIn_r _ [1, 2, 3] rfl rfl) (goodIn_ca (goodIn_r _ [4] rfl rfl) (goodIn_nil))
set_option maxHeartbeats 4000000 in
set_option maxRecDepth 100000 in
theorem b_M_isStandby {p : Program} {l : Launch} {e : Env} {R : Room} {s : State} {m : MethodId} {args : Array Value} {below : List Frame} {meth : Method} {c : Code} {D : va_G} {K : Nat → ClassId} {A : Nat → Prop} {Q : State → Prop} {τ : Nat → Option Ty} {dom : List Nat} {zb zL : Nat} {zx : Nat → Int32} {zs : Nat → Nat} (hR : 1 ≤ R.frames ∧ 21 ≤ R.locals) (B : Bx p s m args c cX12_isStandby 2 RX12 wp_M_isStandby D (tysA K) A) (Z : Sk τ dom) (hz : ZL zb zL zx zs A s s.heap) (h : Nat) (q : Nat → Nat) (Y : MS τ h q) (x1 : Int) (r_x1 : -2147483648 ≤ x1 ∧ x1 ≤ 2147483647) (σ0 : Nat → va_E) (G0 : GT K h q σ0) (hend : ∀ (z : Int) (lv : List (Nat × Value)) (pc : Nat), (0 ≤ z ∧ z ≤ 1) → (z = 1 → 0 ≤ x1 ∧ x1 ≤ 1) → decode cX12_isStandby pc = .ok (.ireturn, 1) → V p l e R s m args below meth c 2 D A Q (0, 0) (fd dom σ0) lv pc [.int (iI z)]) : V p l e R s m args below meth c 2 D A Q (0, 0) (fd dom σ0) [(0, .ref h), (1, .int (iI x1))] 0 [] := by
  obtain ⟨z1, z2, z3, z4, z5, h6, r7, r8, r9, r10, r11⟩ := G0.o
  refine v_iload_n B dX12_isStandby_0 rfl rfl ?_
  refine v_iconst B (v := iI 2) dX12_isStandby_1 rfl ?_
  refine u_callSi B Z hz (n := 2) (As := [.int (iI x1), .int (iI 2)]) (rest := []) (c_M_in l D K Z _ _ _ _ h q Y x1 2 ⟨by omega, by omega⟩ ⟨by omega, by omega⟩ σ0 (G0)) gd_M_isStandby_M_in_413 rfl rfl rfl (by decide +kernel) ⟨Nat.le_trans (by decide +kernel) hR.1, Nat.le_trans (by decide +kernel) hR.2⟩ rfl rfl (Nat.le_of_ble_eq_true rfl) dX12_isStandby_2 ⟨Nat.zero_le _, Nat.zero_le _⟩ (fun v14 σ12 p13 => ?_)
  obtain ⟨rfl, z15, e16, r17, po18⟩ := p13
  subst e16
  refine u_if_eq B (tgt := 21) (by omega) dX12_isStandby_5 (by decide +kernel) (fun c19 => ?_) (fun c19 => ?_)
  · refine v_iconst B (v := iI 0) dX12_isStandby_21 rfl ?_
    exact hend 0 _ _ ⟨by omega, by omega⟩ (fun q => by omega) dX12_isStandby_22
  · refine v_aload_n B dX12_isStandby_8 rfl rfl ?_
    refine u_get B Z (C := RX12) (T := TX12) (N := 123) (ci := 12) hi_M_isStandby_X12 Y.o h6 rfl 7 (by decide +kernel) (List.mem_of_getElem? (i := 5) rfl) rfl dX12_isStandby_9 ?_
    refine v_iload_n B dX12_isStandby_12 rfl rfl ?_
    obtain ⟨f20, h21, e22⟩ := ga_7 G0
    obtain ⟨z23, e24, r25⟩ := e22 (x1 : Int).toNat
    refine u_iald B Z (t0 := 0) (ym_7 Y) h21 rfl (by omega) e24 dX12_isStandby_13 ?_
    refine u_if_ne B (tgt := 21) (by omega) dX12_isStandby_14 (by decide +kernel) (fun c26 => ?_) (fun c26 => ?_)
    · refine v_iconst B (v := iI 0) dX12_isStandby_21 rfl ?_
      exact hend 0 _ _ ⟨by omega, by omega⟩ (fun q => by omega) dX12_isStandby_22
    · refine v_iconst B (v := iI 1) dX12_isStandby_17 rfl ?_
      refine v_goto B (tgt := 22) dX12_isStandby_18 (by decide +kernel) ?_
      exact hend 1 _ _ ⟨by omega, by omega⟩ (fun q => by omega) dX12_isStandby_22
set_option maxRecDepth 100000 in
theorem c_M_isStandby (l : Launch) (D : va_G) (K : Nat → ClassId) {τ : Nat → Option Ty} {dom : List Nat} (Z : Sk τ dom) (zb zL : Nat) (zx : Nat → Int32) (zs : Nat → Nat) (h : Nat) (q : Nat → Nat) (Y : MS τ h q) (x1 : Int) (r_x1 : -2147483648 ≤ x1 ∧ x1 ≤ 2147483647) (σ0 : Nat → va_E) (G0 : GT K h q σ0) : MZ l yX12_isStandby wp_M_isStandby ({ frames := 1, cells := 0, slots := 0, locals := 21 }) D (tysA K) [.ref h, .int (iI x1)] (fd dom σ0) zb zL zx zs (Qi D (fun r σ' => σ0 = σ' ∧ ∃ z : Int, r = iI z ∧ (0 ≤ z ∧ z ≤ 1) ∧ (z = 1 → 0 ≤ x1 ∧ x1 ≤ 1)) (fun σ' => fd dom σ')) 0 0 := by
  refine mz_of (cc := cX12_isStandby) (maxL := 2) (ret := (some .boolean)) (by decide +kernel) rfl (Nat.le_of_ble_eq_true rfl) ?_
  intro p e s m below meth c A B hr hlk _ hz
  exact b_M_isStandby ⟨Nat.le_refl _, Nat.le_refl _⟩ B Z hz h q Y x1 r_x1 σ0 G0 (fun z lv pc hZ hP hd => v_zret B hr hlk (nar01 (by omega)) σ0 ⟨rfl, z, rfl, hZ, hP⟩ rfl (Nat.le_refl _) (Nat.le_refl _) hd)

def wp_M_advertise : List Cond := .code yX12_advertise cX12_advertise 3 (some .boolean) :: (([.fieldLink RX12 1 "LowEnergyModel" "thrown" "I", .methodLink RX12 678 yX12_isStandby, .instanceMethod yX12_isStandby, .selects RX12 yX12_isStandby yX12_isStandby, .initialized RX12, .code yX12_isStandby cX12_isStandby 2 (some .boolean), .methodLink RX12 413 yX12_in, .static yX12_in, .code yX12_in cX12_in 2 (some .boolean), .fieldLink RX12 45 "LowEnergyModel" "state" "[I", .fieldLink RX12 7 "LowEnergyModel" "taped" "I", .fieldLink RX12 51 "LowEnergyModel" "interval" "[I", .fieldLink RX12 54 "LowEnergyModel" "next" "[I", .fieldLink RX12 470 "LowEnergyModel" "t" "I", .fieldLink RX12 57 "LowEnergyModel" "advertised" "[I", .fieldLink RX12 10 "LowEnergyModel" "tape" "[B", .fieldLink RX12 82 "LowEnergyModel" "data" "[B", .methodLink RX12 29 yX12_copy, .static yX12_copy, .code yX12_copy cX12_copy 6 none] : List Cond) ++ (wsX120 ++ ([])))
theorem hi_M_advertise_X12 : ∀ x ∈ u_ws RX12 TX12 123, x ∈ wp_M_advertise := fun _ h => List.mem_cons_of_mem _ (List.mem_append_right _ (List.mem_append_left _ h))
set_option maxRecDepth 100000 in
theorem gd_M_advertise_M_isStandby_678 : GoodIn wp_M_advertise (wsV RX12 678 RX12 yX12_isStandby wp_M_isStandby) := goodIn_app (goodIn_r _ [2, 3, 4, 5] rfl rfl) (goodIn_ca (goodIn_r _ [6, 7, 8, 5, 9, 10] rfl rfl) (goodIn_app (goodIn_cls hi_M_advertise_X12 gw_X12) (goodIn_nil)))
set_option maxRecDepth 100000 in
theorem gd_M_advertise_M_copy_29 : GoodIn wp_M_advertise (va_wsS RX12 29 yX12_copy wp_M_copy) := goodIn_app (goodIn_r _ [18, 19, 5] rfl rfl) (goodIn_ca (goodIn_r _ [20] rfl rfl) (goodIn_nil))
set_option maxHeartbeats 4000000 in
set_option maxRecDepth 100000 in
theorem b_M_advertise {p : Program} {l : Launch} {e : Env} {R : Room} {s : State} {m : MethodId} {args : Array Value} {below : List Frame} {meth : Method} {c : Code} {D : va_G} {K : Nat → ClassId} {A : Nat → Prop} {Q : State → Prop} {τ : Nat → Option Ty} {dom : List Nat} {zb zL : Nat} {zx : Nat → Int32} {zs : Nat → Nat} (hR : 2 ≤ R.frames ∧ 42 ≤ R.locals) (B : Bx p s m args c cX12_advertise 3 RX12 wp_M_advertise D (tysA K) A) (Z : Sk τ dom) (hz : ZL zb zL zx zs A s s.heap) (h : Nat) (q : Nat → Nat) (Y : MS τ h q) (x1 : Int) (x2 : Int) (r_x1 : -2147483648 ≤ x1 ∧ x1 ≤ 2147483647) (r_x2 : -2147483648 ≤ x2 ∧ x2 ≤ 2147483647) (σ0 : Nat → va_E) (G0 : GM K h q σ0) (hend : ∀ (σ' : Nat → va_E) (z : Int) (lv : List (Nat × Value)) (pc : Nat), GM K h q σ' → Fr τ [(50, 0), (107, 0), (109, 0), (110, 0), (111, 0), (119, 0)] σ0 σ' → (0 ≤ z ∧ z ≤ 1) → decode cX12_advertise pc = .ok (.ireturn, 1) → V p l e R s m args below meth c 3 D A Q (0, 0) (fd dom σ') lv pc [.int (iI z)]) : V p l e R s m args below meth c 3 D A Q (0, 0) (fd dom σ0) [(0, .ref h), (1, .int (iI x1)), (2, .int (iI x2))] 0 [] := by
  have F0 : Fr τ [(50, 0), (107, 0), (109, 0), (110, 0), (111, 0), (119, 0)] σ0 σ0 := Fr.rf
  obtain ⟨z1, z2, z3, z4, z5, h6, r7, r8, r9, r10, r11⟩ := G0.t.o
  refine v_aload_n B dX12_advertise_0 rfl rfl ?_
  refine v_iconst B (v := iI 0) dX12_advertise_1 rfl ?_
  refine u_put B Z (C := RX12) (T := TX12) (N := 123) (ci := 12) hi_M_advertise_X12 Y.o h6 rfl 0 (by decide +kernel) tyX12 tyX12_ok nmX12 (List.mem_of_getElem? (i := 1) rfl) rfl (ty := .int) (tyX12_ok 0 (by decide +kernel)) rfl rfl (Nat.le_of_ble_eq_true rfl) (fs' := fsM q (iI 0) (iI z2) (iI z3) (iI z4) (iI z5)) rfl dX12_advertise_2 (fun σ12 h13 n14 => ?_)
  have F15 := F0.put Y.o (by simp) n14
  have G16 := G0.putO Y ⟨0, z2, z3, z4, z5, h13, ⟨by omega, by omega⟩, ⟨by omega, by omega⟩, ⟨by omega, by omega⟩, ⟨by omega, by omega⟩, ⟨by omega, by omega⟩⟩ n14
  refine v_aload_n B dX12_advertise_5 rfl rfl ?_
  refine v_iload_n B dX12_advertise_6 rfl rfl ?_
  refine u_callVi B Z hz (n := 1) (As := [.int (iI x1)]) (rest := []) (c_M_isStandby l D K Z _ _ _ _ h q Y x1 ⟨by omega, by omega⟩ σ12 (G16.t)) gd_M_advertise_M_isStandby_678 rfl rfl rfl (by decide +kernel) ⟨Nat.le_trans (by decide +kernel) hR.1, Nat.le_trans (by decide +kernel) hR.2⟩ Y.o (clsM G16.t) rfl rfl rfl rfl (Nat.le_of_ble_eq_true rfl) dX12_advertise_7 ⟨Nat.zero_le _, Nat.zero_le _⟩ (fun v19 σ17 p18 => ?_)
  obtain ⟨rfl, z20, e21, r22, po23⟩ := p18
  subst e21
  refine u_if_eq B (tgt := 34) (by omega) dX12_advertise_10 (by decide +kernel) (fun c24 => ?_) (fun c24 => ?_)
  · refine v_iconst B (v := iI 0) dX12_advertise_34 rfl ?_
    exact hend σ12 0 _ _ G16 F15 ⟨by omega, by omega⟩ dX12_advertise_35
  · refine v_iload_n B dX12_advertise_13 rfl rfl ?_
    refine v_iconst B (v := iI 5) dX12_advertise_14 rfl ?_
    refine u_icmp_lt B (tgt := 34) (by omega) (by omega) dX12_advertise_15 (by decide +kernel) (fun c25 => ?_) (fun c25 => ?_)
    · refine v_iconst B (v := iI 0) dX12_advertise_34 rfl ?_
      exact hend σ12 0 _ _ G16 F15 ⟨by omega, by omega⟩ dX12_advertise_35
    · refine v_iload_n B dX12_advertise_18 rfl rfl ?_
      refine v_sipush B (v := iI 1000) dX12_advertise_19 (by decide +kernel) ?_
      refine u_icmp_gt B (tgt := 34) (by omega) (by omega) dX12_advertise_22 (by decide +kernel) (fun c26 => ?_) (fun c26 => ?_)
      · refine v_iconst B (v := iI 0) dX12_advertise_34 rfl ?_
        exact hend σ12 0 _ _ G16 F15 ⟨by omega, by omega⟩ dX12_advertise_35
      · refine v_aload_n B dX12_advertise_25 rfl rfl ?_
        refine u_get B Z (C := RX12) (T := TX12) (N := 123) (ci := 12) hi_M_advertise_X12 Y.o h13 rfl 2 (by decide +kernel) (List.mem_of_getElem? (i := 11) rfl) rfl dX12_advertise_26 ?_
        refine v_bipush B (v := iI 20) dX12_advertise_29 (by decide +kernel) ?_
        refine u_icmp_le B (tgt := 36) (by omega) (by omega) dX12_advertise_31 (by decide +kernel) (fun c27 => ?_) (fun c27 => ?_)
        · refine v_aload_n B dX12_advertise_36 rfl rfl ?_
          refine u_get B Z (C := RX12) (T := TX12) (N := 123) (ci := 12) hi_M_advertise_X12 Y.o h13 rfl 7 (by decide +kernel) (List.mem_of_getElem? (i := 10) rfl) rfl dX12_advertise_37 ?_
          refine v_iload_n B dX12_advertise_40 rfl rfl ?_
          refine v_iconst B (v := iI 1) dX12_advertise_41 rfl ?_
          obtain ⟨f28, h29, e30⟩ := ga_7 G16.t
          obtain ⟨f31, h32⟩ := ga_15 G16.t
          have ra34 := G16.c _ _ _ _ _ _ h29 h32
          refine u_iast B Z (t0 := 0) (x := iI 1) (ym_7 Y) h29 rfl (by omega) dX12_advertise_42 (fun σ35 h36 n37 => ?_)
          have e38 := el_upd (z := 1) e30 ⟨by omega, by omega⟩ (x1 : Int).toNat
          have F39 := F15.put (ym_7 Y) (by simp) n37
          have T40 := gp_7 Y G16.t ⟨_, h36, e38⟩ n37
          have R41 := (G16.a).kept (n37 _ (ne_ty (ym_85 Y) (ym_7 Y) (by decide))) (n37 _ (ne_ty (ym_86 Y) (ym_7 Y) (by decide))) (n37 _ (ne_ty (ym_84 Y) (ym_7 Y) (by decide)))
          have R42 := (G16.b).kept (n37 _ (ne_ty (ym_106 Y) (ym_7 Y) (by decide))) (n37 _ (ne_ty (ym_110 Y) (ym_7 Y) (by decide)))
          have R43 := (G16.d).kept (n37 _ (ne_ty (ym_41 Y) (ym_7 Y) (by decide))) (n37 _ (ne_ty (ym_16 Y) (ym_7 Y) (by decide)))
          have h44 := (n37 (q 15) (ne_ty (ym_15 Y) (ym_7 Y) (by decide))).trans (h32)
          have R45 : RelC q σ35 := RelC.mk h36 h44 (RC.set ra34 (x1 : Int).toNat (fun i hi => upd_n hi) (fun _ _ => rfl) (fun x e1 r1 hx => by have a1 : 1 = x := (iI_eq (by omega) r1).mp ((upd_s).symm.trans e1); omega))
          have G46 : GM K h q σ35 := ⟨T40, R41, R42, R45, R43⟩
          refine v_aload_n B dX12_advertise_43 rfl rfl ?_
          have h47 := (n37 h (ne_ty Y.o (ym_7 Y) (by decide))).trans (h13)
          refine u_get B Z (C := RX12) (T := TX12) (N := 123) (ci := 12) hi_M_advertise_X12 Y.o h47 rfl 9 (by decide +kernel) (List.mem_of_getElem? (i := 12) rfl) rfl dX12_advertise_44 ?_
          refine v_iload_n B dX12_advertise_47 rfl rfl ?_
          refine v_iload_n B dX12_advertise_48 rfl rfl ?_
          obtain ⟨f48, h49, e50⟩ := ga_9 G46.t
          refine u_iast B Z (t0 := 0) (x := iI x2) (ym_9 Y) h49 rfl (by omega) dX12_advertise_49 (fun σ51 h52 n53 => ?_)
          have e54 := el_upd (z := x2) e50 ⟨by omega, by omega⟩ (x1 : Int).toNat
          have F55 := F39.put (ym_9 Y) (by simp) n53
          have G56 := gp_9 Y G46 ⟨_, h52, e54⟩ n53
          refine v_aload_n B dX12_advertise_50 rfl rfl ?_
          have h57 := (n53 h (ne_ty Y.o (ym_9 Y) (by decide))).trans (h47)
          refine u_get B Z (C := RX12) (T := TX12) (N := 123) (ci := 12) hi_M_advertise_X12 Y.o h57 rfl 10 (by decide +kernel) (List.mem_of_getElem? (i := 13) rfl) rfl dX12_advertise_51 ?_
          refine v_iload_n B dX12_advertise_54 rfl rfl ?_
          refine v_aload_n B dX12_advertise_55 rfl rfl ?_
          refine u_get B Z (C := RX12) (T := TX12) (N := 123) (ci := 12) hi_M_advertise_X12 Y.o h57 rfl 43 (by decide +kernel) (List.mem_of_getElem? (i := 14) rfl) rfl dX12_advertise_56 ?_
          obtain ⟨f58, h59, e60⟩ := ga_10 G56.t
          refine u_iast B Z (t0 := 0) (x := iI z3) (ym_10 Y) h59 rfl (by omega) dX12_advertise_59 (fun σ61 h62 n63 => ?_)
          have e64 := el_upd (z := z3) e60 ⟨by omega, by omega⟩ (x1 : Int).toNat
          have F65 := F55.put (ym_10 Y) (by simp) n63
          have G66 := gp_10 Y G56 ⟨_, h62, e64⟩ n63
          refine v_aload_n B dX12_advertise_60 rfl rfl ?_
          have h67 := (n63 h (ne_ty Y.o (ym_10 Y) (by decide))).trans (h57)
          refine u_get B Z (C := RX12) (T := TX12) (N := 123) (ci := 12) hi_M_advertise_X12 Y.o h67 rfl 11 (by decide +kernel) (List.mem_of_getElem? (i := 15) rfl) rfl dX12_advertise_61 ?_
          refine v_iload_n B dX12_advertise_64 rfl rfl ?_
          refine v_aload_n B dX12_advertise_65 rfl rfl ?_
          refine u_get B Z (C := RX12) (T := TX12) (N := 123) (ci := 12) hi_M_advertise_X12 Y.o h67 rfl 2 (by decide +kernel) (List.mem_of_getElem? (i := 11) rfl) rfl dX12_advertise_66 ?_
          obtain ⟨f68, h69, e70⟩ := ga_11 G66.t
          refine u_iast B Z (t0 := 0) (x := iI z2) (ym_11 Y) h69 rfl (by omega) dX12_advertise_69 (fun σ71 h72 n73 => ?_)
          have e74 := el_upd (z := z2) e70 ⟨by omega, by omega⟩ (x1 : Int).toNat
          have F75 := F65.put (ym_11 Y) (by simp) n73
          have G76 := gp_11 Y G66 ⟨_, h72, e74⟩ n73
          refine v_aload_n B dX12_advertise_70 rfl rfl ?_
          have h77 := (n73 h (ne_ty Y.o (ym_11 Y) (by decide))).trans (h67)
          refine u_get B Z (C := RX12) (T := TX12) (N := 123) (ci := 12) hi_M_advertise_X12 Y.o h77 rfl 1 (by decide +kernel) (List.mem_of_getElem? (i := 16) rfl) rfl dX12_advertise_71 ?_
          refine v_iconst B (v := iI 0) dX12_advertise_74 rfl ?_
          refine v_aload_n B dX12_advertise_75 rfl rfl ?_
          refine u_get B Z (C := RX12) (T := TX12) (N := 123) (ci := 12) hi_M_advertise_X12 Y.o h77 rfl 19 (by decide +kernel) (List.mem_of_getElem? (i := 17) rfl) rfl dX12_advertise_76 ?_
          refine v_bipush B (v := iI 20) dX12_advertise_79 (by decide +kernel) ?_
          refine v_iload_n B dX12_advertise_81 rfl rfl ?_
          refine v_imul B (v := iI (20 * x1)) dX12_advertise_82 ((iI_mul _ _).trans (congrArg iI (by omega))) ?_
          refine v_aload_n B dX12_advertise_83 rfl rfl ?_
          refine u_get B Z (C := RX12) (T := TX12) (N := 123) (ci := 12) hi_M_advertise_X12 Y.o h77 rfl 2 (by decide +kernel) (List.mem_of_getElem? (i := 11) rfl) rfl dX12_advertise_84 ?_
          refine u_callSv B Z hz (n := 5) (As := [.ref (q 1), .int (iI 0), .ref (q 19), .int (iI (20 * x1)), .int (iI z2)]) (rest := []) (c_M_copy l D K Z _ _ _ _ h q Y 1 100 0 19 40 (20 * x1) z2 rfl ⟨by omega, by omega⟩ rfl ⟨by omega, by omega⟩ ⟨by omega, by omega⟩ σ71 G76 (by omega)) gd_M_advertise_M_copy_29 rfl rfl rfl (by decide +kernel) ⟨Nat.le_trans (by decide +kernel) hR.1, Nat.le_trans (by decide +kernel) hR.2⟩ rfl rfl (Nat.le_of_ble_eq_true rfl) dX12_advertise_87 ⟨Nat.zero_le _, Nat.zero_le _⟩ (fun σ78 p79 => ?_)
          obtain ⟨G81, F82⟩ := p79
          have F83 := F75.call F82 (by first | rfl | simp)
          refine v_aload_n B dX12_advertise_90 rfl rfl ?_
          refine v_iconst B (v := iI 0) dX12_advertise_91 rfl ?_
          have h84 := (F82 h _ Y.o (by first | rfl | simp)).trans (h77)
          refine u_put B Z (C := RX12) (T := TX12) (N := 123) (ci := 12) hi_M_advertise_X12 Y.o h84 rfl 2 (by decide +kernel) tyX12 tyX12_ok nmX12 (List.mem_of_getElem? (i := 11) rfl) rfl (ty := .int) (tyX12_ok 2 (by decide +kernel)) rfl rfl (Nat.le_of_ble_eq_true rfl) (fs' := fsM q (iI 0) (iI 0) (iI z3) (iI z4) (iI z5)) rfl dX12_advertise_92 (fun σ85 h86 n87 => ?_)
          have F88 := F83.put Y.o (by simp) n87
          have G89 := G81.putO Y ⟨0, 0, z3, z4, z5, h86, ⟨by omega, by omega⟩, ⟨by omega, by omega⟩, ⟨by omega, by omega⟩, ⟨by omega, by omega⟩, ⟨by omega, by omega⟩⟩ n87
          refine v_iconst B (v := iI 1) dX12_advertise_95 rfl ?_
          exact hend σ85 1 _ _ G89 F88 ⟨by omega, by omega⟩ dX12_advertise_96
        · refine v_iconst B (v := iI 0) dX12_advertise_34 rfl ?_
          exact hend σ12 0 _ _ G16 F15 ⟨by omega, by omega⟩ dX12_advertise_35
set_option maxRecDepth 100000 in
theorem c_M_advertise (l : Launch) (D : va_G) (K : Nat → ClassId) {τ : Nat → Option Ty} {dom : List Nat} (Z : Sk τ dom) (zb zL : Nat) (zx : Nat → Int32) (zs : Nat → Nat) (h : Nat) (q : Nat → Nat) (Y : MS τ h q) (x1 : Int) (x2 : Int) (r_x1 : -2147483648 ≤ x1 ∧ x1 ≤ 2147483647) (r_x2 : -2147483648 ≤ x2 ∧ x2 ≤ 2147483647) (σ0 : Nat → va_E) (G0 : GM K h q σ0) : MZ l yX12_advertise wp_M_advertise ({ frames := 2, cells := 0, slots := 0, locals := 42 }) D (tysA K) [.ref h, .int (iI x1), .int (iI x2)] (fd dom σ0) zb zL zx zs (Qi D (fun r σ' => GM K h q σ' ∧ Fr τ [(50, 0), (107, 0), (109, 0), (110, 0), (111, 0), (119, 0)] σ0 σ' ∧ ∃ z : Int, r = iI z ∧ (0 ≤ z ∧ z ≤ 1)) (fun σ' => fd dom σ')) 0 0 := by
  refine mz_of (cc := cX12_advertise) (maxL := 3) (ret := (some .boolean)) (by decide +kernel) rfl (Nat.le_of_ble_eq_true rfl) ?_
  intro p e s m below meth c A B hr hlk _ hz
  exact b_M_advertise ⟨Nat.le_refl _, Nat.le_refl _⟩ B Z hz h q Y x1 x2 r_x1 r_x2 σ0 G0 (fun σ' z lv pc G F hZ hd => v_zret B hr hlk (nar01 (by omega)) σ' ⟨G, F, z, rfl, hZ⟩ rfl (Nat.le_refl _) (Nat.le_refl _) hd)

def wp_M_scan : List Cond := .code yX12_scan cX12_scan 2 (some .boolean) :: (([.fieldLink RX12 1 "LowEnergyModel" "thrown" "I", .methodLink RX12 678 yX12_isStandby, .instanceMethod yX12_isStandby, .selects RX12 yX12_isStandby yX12_isStandby, .initialized RX12, .code yX12_isStandby cX12_isStandby 2 (some .boolean), .methodLink RX12 413 yX12_in, .static yX12_in, .code yX12_in cX12_in 2 (some .boolean), .fieldLink RX12 45 "LowEnergyModel" "state" "[I"] : List Cond) ++ (wsX120 ++ ([])))
theorem hi_M_scan_X12 : ∀ x ∈ u_ws RX12 TX12 123, x ∈ wp_M_scan := fun _ h => List.mem_cons_of_mem _ (List.mem_append_right _ (List.mem_append_left _ h))
set_option maxRecDepth 100000 in
theorem gd_M_scan_M_isStandby_678 : GoodIn wp_M_scan (wsV RX12 678 RX12 yX12_isStandby wp_M_isStandby) := goodIn_app (goodIn_r _ [2, 3, 4, 5] rfl rfl) (goodIn_ca (goodIn_r _ [6, 7, 8, 5, 9, 10] rfl rfl) (goodIn_app (goodIn_cls hi_M_scan_X12 gw_X12) (goodIn_nil)))
set_option maxHeartbeats 4000000 in
set_option maxRecDepth 100000 in
theorem b_M_scan {p : Program} {l : Launch} {e : Env} {R : Room} {s : State} {m : MethodId} {args : Array Value} {below : List Frame} {meth : Method} {c : Code} {D : va_G} {K : Nat → ClassId} {A : Nat → Prop} {Q : State → Prop} {τ : Nat → Option Ty} {dom : List Nat} {zb zL : Nat} {zx : Nat → Int32} {zs : Nat → Nat} (hR : 2 ≤ R.frames ∧ 42 ≤ R.locals) (B : Bx p s m args c cX12_scan 2 RX12 wp_M_scan D (tysA K) A) (Z : Sk τ dom) (hz : ZL zb zL zx zs A s s.heap) (h : Nat) (q : Nat → Nat) (Y : MS τ h q) (x1 : Int) (r_x1 : -2147483648 ≤ x1 ∧ x1 ≤ 2147483647) (σ0 : Nat → va_E) (G0 : GM K h q σ0) (hend : ∀ (σ' : Nat → va_E) (z : Int) (lv : List (Nat × Value)) (pc : Nat), GM K h q σ' → Fr τ [(50, 0), (107, 0)] σ0 σ' → (0 ≤ z ∧ z ≤ 1) → decode cX12_scan pc = .ok (.ireturn, 1) → V p l e R s m args below meth c 2 D A Q (0, 0) (fd dom σ') lv pc [.int (iI z)]) : V p l e R s m args below meth c 2 D A Q (0, 0) (fd dom σ0) [(0, .ref h), (1, .int (iI x1))] 0 [] := by
  have F0 : Fr τ [(50, 0), (107, 0)] σ0 σ0 := Fr.rf
  obtain ⟨z1, z2, z3, z4, z5, h6, r7, r8, r9, r10, r11⟩ := G0.t.o
  refine v_aload_n B dX12_scan_0 rfl rfl ?_
  refine v_iconst B (v := iI 0) dX12_scan_1 rfl ?_
  refine u_put B Z (C := RX12) (T := TX12) (N := 123) (ci := 12) hi_M_scan_X12 Y.o h6 rfl 0 (by decide +kernel) tyX12 tyX12_ok nmX12 (List.mem_of_getElem? (i := 1) rfl) rfl (ty := .int) (tyX12_ok 0 (by decide +kernel)) rfl rfl (Nat.le_of_ble_eq_true rfl) (fs' := fsM q (iI 0) (iI z2) (iI z3) (iI z4) (iI z5)) rfl dX12_scan_2 (fun σ12 h13 n14 => ?_)
  have F15 := F0.put Y.o (by simp) n14
  have G16 := G0.putO Y ⟨0, z2, z3, z4, z5, h13, ⟨by omega, by omega⟩, ⟨by omega, by omega⟩, ⟨by omega, by omega⟩, ⟨by omega, by omega⟩, ⟨by omega, by omega⟩⟩ n14
  refine v_aload_n B dX12_scan_5 rfl rfl ?_
  refine v_iload_n B dX12_scan_6 rfl rfl ?_
  refine u_callVi B Z hz (n := 1) (As := [.int (iI x1)]) (rest := []) (c_M_isStandby l D K Z _ _ _ _ h q Y x1 ⟨by omega, by omega⟩ σ12 (G16.t)) gd_M_scan_M_isStandby_678 rfl rfl rfl (by decide +kernel) ⟨Nat.le_trans (by decide +kernel) hR.1, Nat.le_trans (by decide +kernel) hR.2⟩ Y.o (clsM G16.t) rfl rfl rfl rfl (Nat.le_of_ble_eq_true rfl) dX12_scan_7 ⟨Nat.zero_le _, Nat.zero_le _⟩ (fun v19 σ17 p18 => ?_)
  obtain ⟨rfl, z20, e21, r22, po23⟩ := p18
  subst e21
  refine u_if_ne B (tgt := 15) (by omega) dX12_scan_10 (by decide +kernel) (fun c24 => ?_) (fun c24 => ?_)
  · refine v_aload_n B dX12_scan_15 rfl rfl ?_
    refine u_get B Z (C := RX12) (T := TX12) (N := 123) (ci := 12) hi_M_scan_X12 Y.o h13 rfl 7 (by decide +kernel) (List.mem_of_getElem? (i := 10) rfl) rfl dX12_scan_16 ?_
    refine v_iload_n B dX12_scan_19 rfl rfl ?_
    refine v_iconst B (v := iI 2) dX12_scan_20 rfl ?_
    obtain ⟨f25, h26, e27⟩ := ga_7 G16.t
    obtain ⟨f28, h29⟩ := ga_15 G16.t
    have ra31 := G16.c _ _ _ _ _ _ h26 h29
    refine u_iast B Z (t0 := 0) (x := iI 2) (ym_7 Y) h26 rfl (by omega) dX12_scan_21 (fun σ32 h33 n34 => ?_)
    have e35 := el_upd (z := 2) e27 ⟨by omega, by omega⟩ (x1 : Int).toNat
    have F36 := F15.put (ym_7 Y) (by simp) n34
    have T37 := gp_7 Y G16.t ⟨_, h33, e35⟩ n34
    have R38 := (G16.a).kept (n34 _ (ne_ty (ym_85 Y) (ym_7 Y) (by decide))) (n34 _ (ne_ty (ym_86 Y) (ym_7 Y) (by decide))) (n34 _ (ne_ty (ym_84 Y) (ym_7 Y) (by decide)))
    have R39 := (G16.b).kept (n34 _ (ne_ty (ym_106 Y) (ym_7 Y) (by decide))) (n34 _ (ne_ty (ym_110 Y) (ym_7 Y) (by decide)))
    have R40 := (G16.d).kept (n34 _ (ne_ty (ym_41 Y) (ym_7 Y) (by decide))) (n34 _ (ne_ty (ym_16 Y) (ym_7 Y) (by decide)))
    have h41 := (n34 (q 15) (ne_ty (ym_15 Y) (ym_7 Y) (by decide))).trans (h29)
    have R42 : RelC q σ32 := RelC.mk h33 h41 (RC.set ra31 (x1 : Int).toNat (fun i hi => upd_n hi) (fun _ _ => rfl) (fun x e1 r1 hx => by have a1 : 2 = x := (iI_eq (by omega) r1).mp ((upd_s).symm.trans e1); omega))
    have G43 : GM K h q σ32 := ⟨T37, R38, R39, R42, R40⟩
    refine v_iconst B (v := iI 1) dX12_scan_22 rfl ?_
    exact hend σ32 1 _ _ G43 F36 ⟨by omega, by omega⟩ dX12_scan_23
  · refine v_iconst B (v := iI 0) dX12_scan_13 rfl ?_
    exact hend σ12 0 _ _ G16 F15 ⟨by omega, by omega⟩ dX12_scan_14
set_option maxRecDepth 100000 in
theorem c_M_scan (l : Launch) (D : va_G) (K : Nat → ClassId) {τ : Nat → Option Ty} {dom : List Nat} (Z : Sk τ dom) (zb zL : Nat) (zx : Nat → Int32) (zs : Nat → Nat) (h : Nat) (q : Nat → Nat) (Y : MS τ h q) (x1 : Int) (r_x1 : -2147483648 ≤ x1 ∧ x1 ≤ 2147483647) (σ0 : Nat → va_E) (G0 : GM K h q σ0) : MZ l yX12_scan wp_M_scan ({ frames := 2, cells := 0, slots := 0, locals := 42 }) D (tysA K) [.ref h, .int (iI x1)] (fd dom σ0) zb zL zx zs (Qi D (fun r σ' => GM K h q σ' ∧ Fr τ [(50, 0), (107, 0)] σ0 σ' ∧ ∃ z : Int, r = iI z ∧ (0 ≤ z ∧ z ≤ 1)) (fun σ' => fd dom σ')) 0 0 := by
  refine mz_of (cc := cX12_scan) (maxL := 2) (ret := (some .boolean)) (by decide +kernel) rfl (Nat.le_of_ble_eq_true rfl) ?_
  intro p e s m below meth c A B hr hlk _ hz
  exact b_M_scan ⟨Nat.le_refl _, Nat.le_refl _⟩ B Z hz h q Y x1 r_x1 σ0 G0 (fun σ' z lv pc G F hZ hd => v_zret B hr hlk (nar01 (by omega)) σ' ⟨G, F, z, rfl, hZ⟩ rfl (Nat.le_refl _) (Nat.le_refl _) hd)

def wp_M_connect : List Cond := .code yX12_connect cX12_connect 9 (some .boolean) :: (([.fieldLink RX12 1 "LowEnergyModel" "thrown" "I", .methodLink RX12 678 yX12_isStandby, .instanceMethod yX12_isStandby, .selects RX12 yX12_isStandby yX12_isStandby, .initialized RX12, .code yX12_isStandby cX12_isStandby 2 (some .boolean), .methodLink RX12 413 yX12_in, .static yX12_in, .code yX12_in cX12_in 2 (some .boolean), .fieldLink RX12 45 "LowEnergyModel" "state" "[I", .methodLink RX12 497 yX12_isMap, .static yX12_isMap, .code yX12_isMap cX12_isMap 2 (some .boolean), .constantLong RX12 396 (137438953472), .methodLink RX12 398 yJ13_bitCount_95d88, .static yJ13_bitCount_95d88, .initialized RJ13, .code yJ13_bitCount_95d88 cJ13_bitCount_95d88 2 (some .int), .constantLong RJ13 314 (6148914691236517205), .constantLong RJ13 316 (3689348814741910323), .constantLong RJ13 318 (1085102592571150095), .fieldLink RX12 67 "LowEnergyModel" "wanted" "[J", .constantLong RX12 389 (281474976710655), .fieldLink RX12 51 "LowEnergyModel" "interval" "[I", .fieldLink RX12 103 "LowEnergyModel" "timeout" "[I", .fieldLink RX12 106 "LowEnergyModel" "hop" "[I", .fieldLink RX12 70 "LowEnergyModel" "map" "[J"] : List Cond) ++ (wsX120 ++ ([])))
theorem hi_M_connect_X12 : ∀ x ∈ u_ws RX12 TX12 123, x ∈ wp_M_connect := fun _ h => List.mem_cons_of_mem _ (List.mem_append_right _ (List.mem_append_left _ h))
set_option maxRecDepth 100000 in
theorem gd_M_connect_M_isStandby_678 : GoodIn wp_M_connect (wsV RX12 678 RX12 yX12_isStandby wp_M_isStandby) := goodIn_app (goodIn_r _ [2, 3, 4, 5] rfl rfl) (goodIn_ca (goodIn_r _ [6, 7, 8, 5, 9, 10] rfl rfl) (goodIn_app (goodIn_cls hi_M_connect_X12 gw_X12) (goodIn_nil)))
set_option maxRecDepth 100000 in
theorem gd_M_connect_M_isMap_497 : GoodIn wp_M_connect (va_wsS RX12 497 yX12_isMap wp_M_isMap) := goodIn_app (goodIn_r _ [11, 12, 5] rfl rfl) (goodIn_ca (goodIn_r _ [13, 14, 15, 16, 17, 18, 19, 20, 21] rfl rfl) (goodIn_nil))
set_option maxHeartbeats 4000000 in
set_option maxRecDepth 100000 in
theorem b_M_connect {p : Program} {l : Launch} {e : Env} {R : Room} {s : State} {m : MethodId} {args : Array Value} {below : List Frame} {meth : Method} {c : Code} {D : va_G} {K : Nat → ClassId} {A : Nat → Prop} {Q : State → Prop} {τ : Nat → Option Ty} {dom : List Nat} {zb zL : Nat} {zx : Nat → Int32} {zs : Nat → Nat} (hR : 2 ≤ R.frames ∧ 42 ≤ R.locals) (B : Bx p s m args c cX12_connect 9 RX12 wp_M_connect D (tysA K) A) (Z : Sk τ dom) (hz : ZL zb zL zx zs A s s.heap) (h : Nat) (q : Nat → Nat) (Y : MS τ h q) (x1 : Int) (y2 : Int) (x4 : Int) (x5 : Int) (x6 : Int) (y7 : Int) (r_x1 : -2147483648 ≤ x1 ∧ x1 ≤ 2147483647) (r_y2 : InL y2) (r_x4 : -2147483648 ≤ x4 ∧ x4 ≤ 2147483647) (r_x5 : -2147483648 ≤ x5 ∧ x5 ≤ 2147483647) (r_x6 : -2147483648 ≤ x6 ∧ x6 ≤ 2147483647) (r_y7 : InL y7) (σ0 : Nat → va_E) (G0 : GM K h q σ0) (hend : ∀ (σ' : Nat → va_E) (z : Int) (lv : List (Nat × Value)) (pc : Nat), GM K h q σ' → Fr τ [(50, 0), (107, 0), (114, 0), (109, 0), (126, 0), (127, 0), (115, 0)] σ0 σ' → (0 ≤ z ∧ z ≤ 1) → decode cX12_connect pc = .ok (.ireturn, 1) → V p l e R s m args below meth c 9 D A Q (0, 0) (fd dom σ') lv pc [.int (iI z)]) : V p l e R s m args below meth c 9 D A Q (0, 0) (fd dom σ0) [(0, .ref h), (1, .int (iI x1)), (2, .long (lI y2)), (4, .int (iI x4)), (5, .int (iI x5)), (6, .int (iI x6)), (7, .long (lI y7))] 0 [] := by
  have F0 : Fr τ [(50, 0), (107, 0), (114, 0), (109, 0), (126, 0), (127, 0), (115, 0)] σ0 σ0 := Fr.rf
  obtain ⟨z1, z2, z3, z4, z5, h6, r7, r8, r9, r10, r11⟩ := G0.t.o
  refine v_aload_n B dX12_connect_0 rfl rfl ?_
  refine v_iconst B (v := iI 0) dX12_connect_1 rfl ?_
  refine u_put B Z (C := RX12) (T := TX12) (N := 123) (ci := 12) hi_M_connect_X12 Y.o h6 rfl 0 (by decide +kernel) tyX12 tyX12_ok nmX12 (List.mem_of_getElem? (i := 1) rfl) rfl (ty := .int) (tyX12_ok 0 (by decide +kernel)) rfl rfl (Nat.le_of_ble_eq_true rfl) (fs' := fsM q (iI 0) (iI z2) (iI z3) (iI z4) (iI z5)) rfl dX12_connect_2 (fun σ12 h13 n14 => ?_)
  have F15 := F0.put Y.o (by simp) n14
  have G16 := G0.putO Y ⟨0, z2, z3, z4, z5, h13, ⟨by omega, by omega⟩, ⟨by omega, by omega⟩, ⟨by omega, by omega⟩, ⟨by omega, by omega⟩, ⟨by omega, by omega⟩⟩ n14
  refine v_aload_n B dX12_connect_5 rfl rfl ?_
  refine v_iload_n B dX12_connect_6 rfl rfl ?_
  refine u_callVi B Z hz (n := 1) (As := [.int (iI x1)]) (rest := []) (c_M_isStandby l D K Z _ _ _ _ h q Y x1 ⟨by omega, by omega⟩ σ12 (G16.t)) gd_M_connect_M_isStandby_678 rfl rfl rfl (by decide +kernel) ⟨Nat.le_trans (by decide +kernel) hR.1, Nat.le_trans (by decide +kernel) hR.2⟩ Y.o (clsM G16.t) rfl rfl rfl rfl (Nat.le_of_ble_eq_true rfl) dX12_connect_7 ⟨Nat.zero_le _, Nat.zero_le _⟩ (fun v19 σ17 p18 => ?_)
  obtain ⟨rfl, z20, e21, r22, po23⟩ := p18
  subst e21
  refine u_if_eq B (tgt := 62) (by omega) dX12_connect_10 (by decide +kernel) (fun c24 => ?_) (fun c24 => ?_)
  · refine v_iconst B (v := iI 0) dX12_connect_62 rfl ?_
    exact hend σ12 0 _ _ G16 F15 ⟨by omega, by omega⟩ dX12_connect_63
  · refine v_iload B dX12_connect_13 rfl ?_
    refine v_iconst B (v := iI 2) dX12_connect_15 rfl ?_
    refine u_icmp_lt B (tgt := 62) (by omega) (by omega) dX12_connect_16 (by decide +kernel) (fun c25 => ?_) (fun c25 => ?_)
    · refine v_iconst B (v := iI 0) dX12_connect_62 rfl ?_
      exact hend σ12 0 _ _ G16 F15 ⟨by omega, by omega⟩ dX12_connect_63
    · refine v_iload B dX12_connect_19 rfl ?_
      refine v_bipush B (v := iI 50) dX12_connect_21 (by decide +kernel) ?_
      refine u_icmp_gt B (tgt := 62) (by omega) (by omega) dX12_connect_23 (by decide +kernel) (fun c26 => ?_) (fun c26 => ?_)
      · refine v_iconst B (v := iI 0) dX12_connect_62 rfl ?_
        exact hend σ12 0 _ _ G16 F15 ⟨by omega, by omega⟩ dX12_connect_63
      · refine v_iload B dX12_connect_26 rfl ?_
        refine v_bipush B (v := iI 10) dX12_connect_28 (by decide +kernel) ?_
        refine u_icmp_lt B (tgt := 62) (by omega) (by omega) dX12_connect_30 (by decide +kernel) (fun c27 => ?_) (fun c27 => ?_)
        · refine v_iconst B (v := iI 0) dX12_connect_62 rfl ?_
          exact hend σ12 0 _ _ G16 F15 ⟨by omega, by omega⟩ dX12_connect_63
        · refine v_iload B dX12_connect_33 rfl ?_
          refine v_sipush B (v := iI 2000) dX12_connect_35 (by decide +kernel) ?_
          refine u_icmp_gt B (tgt := 62) (by omega) (by omega) dX12_connect_38 (by decide +kernel) (fun c28 => ?_) (fun c28 => ?_)
          · refine v_iconst B (v := iI 0) dX12_connect_62 rfl ?_
            exact hend σ12 0 _ _ G16 F15 ⟨by omega, by omega⟩ dX12_connect_63
          · refine v_iload B dX12_connect_41 rfl ?_
            refine v_iconst B (v := iI 5) dX12_connect_43 rfl ?_
            refine u_icmp_lt B (tgt := 62) (by omega) (by omega) dX12_connect_44 (by decide +kernel) (fun c29 => ?_) (fun c29 => ?_)
            · refine v_iconst B (v := iI 0) dX12_connect_62 rfl ?_
              exact hend σ12 0 _ _ G16 F15 ⟨by omega, by omega⟩ dX12_connect_63
            · refine v_iload B dX12_connect_47 rfl ?_
              refine v_bipush B (v := iI 16) dX12_connect_49 (by decide +kernel) ?_
              refine u_icmp_gt B (tgt := 62) (by omega) (by omega) dX12_connect_51 (by decide +kernel) (fun c30 => ?_) (fun c30 => ?_)
              · refine v_iconst B (v := iI 0) dX12_connect_62 rfl ?_
                exact hend σ12 0 _ _ G16 F15 ⟨by omega, by omega⟩ dX12_connect_63
              · refine v_lload B dX12_connect_54 rfl ?_
                refine u_callSi B Z hz (n := 1) (As := [.long (lI y7)]) (rest := []) (c_M_isMap l D K Z _ _ _ _ h q Y y7 ⟨by omega, by omega⟩ σ12 (G16.t)) gd_M_connect_M_isMap_497 rfl rfl rfl (by decide +kernel) ⟨Nat.le_trans (by decide +kernel) hR.1, Nat.le_trans (by decide +kernel) hR.2⟩ rfl rfl (Nat.le_of_ble_eq_true rfl) dX12_connect_56 ⟨Nat.zero_le _, Nat.zero_le _⟩ (fun v33 σ31 p32 => ?_)
                obtain ⟨rfl, z34, e35, r36, po37⟩ := p32
                subst e35
                refine u_if_ne B (tgt := 64) (by omega) dX12_connect_59 (by decide +kernel) (fun c38 => ?_) (fun c38 => ?_)
                · refine v_aload_n B dX12_connect_64 rfl rfl ?_
                  refine u_get B Z (C := RX12) (T := TX12) (N := 123) (ci := 12) hi_M_connect_X12 Y.o h13 rfl 7 (by decide +kernel) (List.mem_of_getElem? (i := 10) rfl) rfl dX12_connect_65 ?_
                  refine v_iload_n B dX12_connect_68 rfl rfl ?_
                  refine v_iconst B (v := iI 3) dX12_connect_69 rfl ?_
                  obtain ⟨f39, h40, e41⟩ := ga_7 G16.t
                  obtain ⟨f42, h43⟩ := ga_15 G16.t
                  have ra45 := G16.c _ _ _ _ _ _ h40 h43
                  refine u_iast B Z (t0 := 0) (x := iI 3) (ym_7 Y) h40 rfl (by omega) dX12_connect_70 (fun σ46 h47 n48 => ?_)
                  have e49 := el_upd (z := 3) e41 ⟨by omega, by omega⟩ (x1 : Int).toNat
                  have F50 := F15.put (ym_7 Y) (by simp) n48
                  have T51 := gp_7 Y G16.t ⟨_, h47, e49⟩ n48
                  have R52 := (G16.a).kept (n48 _ (ne_ty (ym_85 Y) (ym_7 Y) (by decide))) (n48 _ (ne_ty (ym_86 Y) (ym_7 Y) (by decide))) (n48 _ (ne_ty (ym_84 Y) (ym_7 Y) (by decide)))
                  have R53 := (G16.b).kept (n48 _ (ne_ty (ym_106 Y) (ym_7 Y) (by decide))) (n48 _ (ne_ty (ym_110 Y) (ym_7 Y) (by decide)))
                  have R54 := (G16.d).kept (n48 _ (ne_ty (ym_41 Y) (ym_7 Y) (by decide))) (n48 _ (ne_ty (ym_16 Y) (ym_7 Y) (by decide)))
                  refine v_aload_n B dX12_connect_71 rfl rfl ?_
                  have h55 := (n48 h (ne_ty Y.o (ym_7 Y) (by decide))).trans (h13)
                  refine u_get B Z (C := RX12) (T := TX12) (N := 123) (ci := 12) hi_M_connect_X12 Y.o h55 rfl 14 (by decide +kernel) (List.mem_of_getElem? (i := 22) rfl) rfl dX12_connect_72 ?_
                  refine v_iload_n B dX12_connect_75 rfl rfl ?_
                  refine v_lload_n B dX12_connect_76 rfl rfl ?_
                  refine v_ldc2 B (v := lI 281474976710655) (u_cl (List.mem_of_getElem? (i := 23) rfl) (by decide +kernel)) dX12_connect_77 ?_
                  obtain ⟨yy56, e57, r58⟩ := lI_and y2 (c := 281474976710655) (by decide) (by decide)
                  refine v_land B (v := lI yy56) dX12_connect_80 e57 ?_
                  obtain ⟨f59, h60⟩ := ga_14 T51
                  refine u_last B Z (t0 := 1) (x := lI yy56) (ym_14 Y) h60 rfl (by omega) dX12_connect_81 (fun σ62 h63 n64 => ?_)
                  have F65 := F50.put (ym_14 Y) (by simp) n64
                  have T66 := gq_14 Y T51 ⟨_, h63⟩ n64
                  have R67 := (R52).kept (n64 _ (ne_ty (ym_85 Y) (ym_14 Y) (by decide))) (n64 _ (ne_ty (ym_86 Y) (ym_14 Y) (by decide))) (n64 _ (ne_ty (ym_84 Y) (ym_14 Y) (by decide)))
                  have R68 := (R53).kept (n64 _ (ne_ty (ym_106 Y) (ym_14 Y) (by decide))) (n64 _ (ne_ty (ym_110 Y) (ym_14 Y) (by decide)))
                  have R69 := (R54).kept (n64 _ (ne_ty (ym_41 Y) (ym_14 Y) (by decide))) (n64 _ (ne_ty (ym_16 Y) (ym_14 Y) (by decide)))
                  refine v_aload_n B dX12_connect_82 rfl rfl ?_
                  have h70 := (n64 h (ne_ty Y.o (ym_14 Y) (by decide))).trans (h55)
                  refine u_get B Z (C := RX12) (T := TX12) (N := 123) (ci := 12) hi_M_connect_X12 Y.o h70 rfl 9 (by decide +kernel) (List.mem_of_getElem? (i := 24) rfl) rfl dX12_connect_83 ?_
                  refine v_iload_n B dX12_connect_86 rfl rfl ?_
                  refine v_iload B dX12_connect_87 rfl ?_
                  obtain ⟨f71, h72, e73⟩ := ga_9 T66
                  refine u_iast B Z (t0 := 0) (x := iI x4) (ym_9 Y) h72 rfl (by omega) dX12_connect_89 (fun σ74 h75 n76 => ?_)
                  have e77 := el_upd (z := x4) e73 ⟨by omega, by omega⟩ (x1 : Int).toNat
                  have F78 := F65.put (ym_9 Y) (by simp) n76
                  have T79 := gq_9 Y T66 ⟨_, h75, e77⟩ n76
                  have R80 := (R67).kept (n76 _ (ne_ty (ym_85 Y) (ym_9 Y) (by decide))) (n76 _ (ne_ty (ym_86 Y) (ym_9 Y) (by decide))) (n76 _ (ne_ty (ym_84 Y) (ym_9 Y) (by decide)))
                  have R81 := (R68).kept (n76 _ (ne_ty (ym_106 Y) (ym_9 Y) (by decide))) (n76 _ (ne_ty (ym_110 Y) (ym_9 Y) (by decide)))
                  have R82 := (R69).kept (n76 _ (ne_ty (ym_41 Y) (ym_9 Y) (by decide))) (n76 _ (ne_ty (ym_16 Y) (ym_9 Y) (by decide)))
                  refine v_aload_n B dX12_connect_90 rfl rfl ?_
                  have h83 := (n76 h (ne_ty Y.o (ym_9 Y) (by decide))).trans (h70)
                  refine u_get B Z (C := RX12) (T := TX12) (N := 123) (ci := 12) hi_M_connect_X12 Y.o h83 rfl 26 (by decide +kernel) (List.mem_of_getElem? (i := 25) rfl) rfl dX12_connect_91 ?_
                  refine v_iload_n B dX12_connect_94 rfl rfl ?_
                  refine v_iload B dX12_connect_95 rfl ?_
                  obtain ⟨f84, h85, e86⟩ := ga_26 T79
                  refine u_iast B Z (t0 := 0) (x := iI x5) (ym_26 Y) h85 rfl (by omega) dX12_connect_97 (fun σ87 h88 n89 => ?_)
                  have e90 := el_upd (z := x5) e86 ⟨by omega, by omega⟩ (x1 : Int).toNat
                  have F91 := F78.put (ym_26 Y) (by simp) n89
                  have T92 := gq_26 Y T79 ⟨_, h88, e90⟩ n89
                  have R93 := (R80).kept (n89 _ (ne_ty (ym_85 Y) (ym_26 Y) (by decide))) (n89 _ (ne_ty (ym_86 Y) (ym_26 Y) (by decide))) (n89 _ (ne_ty (ym_84 Y) (ym_26 Y) (by decide)))
                  have R94 := (R81).kept (n89 _ (ne_ty (ym_106 Y) (ym_26 Y) (by decide))) (n89 _ (ne_ty (ym_110 Y) (ym_26 Y) (by decide)))
                  have R95 := (R82).kept (n89 _ (ne_ty (ym_41 Y) (ym_26 Y) (by decide))) (n89 _ (ne_ty (ym_16 Y) (ym_26 Y) (by decide)))
                  refine v_aload_n B dX12_connect_98 rfl rfl ?_
                  have h96 := (n89 h (ne_ty Y.o (ym_26 Y) (by decide))).trans (h83)
                  refine u_get B Z (C := RX12) (T := TX12) (N := 123) (ci := 12) hi_M_connect_X12 Y.o h96 rfl 27 (by decide +kernel) (List.mem_of_getElem? (i := 26) rfl) rfl dX12_connect_99 ?_
                  refine v_iload_n B dX12_connect_102 rfl rfl ?_
                  refine v_iload B dX12_connect_103 rfl ?_
                  obtain ⟨f97, h98, e99⟩ := ga_27 T92
                  refine u_iast B Z (t0 := 0) (x := iI x6) (ym_27 Y) h98 rfl (by omega) dX12_connect_105 (fun σ100 h101 n102 => ?_)
                  have e103 := el_upd (z := x6) e99 ⟨by omega, by omega⟩ (x1 : Int).toNat
                  have F104 := F91.put (ym_27 Y) (by simp) n102
                  have T105 := gq_27 Y T92 ⟨_, h101, e103⟩ n102
                  have R106 := (R93).kept (n102 _ (ne_ty (ym_85 Y) (ym_27 Y) (by decide))) (n102 _ (ne_ty (ym_86 Y) (ym_27 Y) (by decide))) (n102 _ (ne_ty (ym_84 Y) (ym_27 Y) (by decide)))
                  have R107 := (R94).kept (n102 _ (ne_ty (ym_106 Y) (ym_27 Y) (by decide))) (n102 _ (ne_ty (ym_110 Y) (ym_27 Y) (by decide)))
                  have R108 := (R95).kept (n102 _ (ne_ty (ym_41 Y) (ym_27 Y) (by decide))) (n102 _ (ne_ty (ym_16 Y) (ym_27 Y) (by decide)))
                  refine v_aload_n B dX12_connect_106 rfl rfl ?_
                  have h109 := (n102 h (ne_ty Y.o (ym_27 Y) (by decide))).trans (h96)
                  refine u_get B Z (C := RX12) (T := TX12) (N := 123) (ci := 12) hi_M_connect_X12 Y.o h109 rfl 15 (by decide +kernel) (List.mem_of_getElem? (i := 27) rfl) rfl dX12_connect_107 ?_
                  refine v_iload_n B dX12_connect_110 rfl rfl ?_
                  refine v_lload B dX12_connect_111 rfl ?_
                  have h110 := (n102 (q 15) (ne_ty (ym_15 Y) (ym_27 Y) (by decide))).trans ((n89 (q 15) (ne_ty (ym_15 Y) (ym_26 Y) (by decide))).trans ((n76 (q 15) (ne_ty (ym_15 Y) (ym_9 Y) (by decide))).trans ((n64 (q 15) (ne_ty (ym_15 Y) (ym_14 Y) (by decide))).trans ((n48 (q 15) (ne_ty (ym_15 Y) (ym_7 Y) (by decide))).trans (h43)))))
                  refine u_last B Z (t0 := 1) (x := lI y7) (ym_15 Y) h110 rfl (by omega) dX12_connect_113 (fun σ111 h112 n113 => ?_)
                  have F114 := F104.put (ym_15 Y) (by simp) n113
                  have T115 := gp_15 Y T105 ⟨_, h112⟩ n113
                  have R116 := (R106).kept (n113 _ (ne_ty (ym_85 Y) (ym_15 Y) (by decide))) (n113 _ (ne_ty (ym_86 Y) (ym_15 Y) (by decide))) (n113 _ (ne_ty (ym_84 Y) (ym_15 Y) (by decide)))
                  have R117 := (R107).kept (n113 _ (ne_ty (ym_106 Y) (ym_15 Y) (by decide))) (n113 _ (ne_ty (ym_110 Y) (ym_15 Y) (by decide)))
                  have R118 := (R108).kept (n113 _ (ne_ty (ym_41 Y) (ym_15 Y) (by decide))) (n113 _ (ne_ty (ym_16 Y) (ym_15 Y) (by decide)))
                  have h119 := (n113 (q 7) (ne_ty (ym_7 Y) (ym_15 Y) (by decide))).trans ((n102 (q 7) (ne_ty (ym_7 Y) (ym_27 Y) (by decide))).trans ((n89 (q 7) (ne_ty (ym_7 Y) (ym_26 Y) (by decide))).trans ((n76 (q 7) (ne_ty (ym_7 Y) (ym_9 Y) (by decide))).trans ((n64 (q 7) (ne_ty (ym_7 Y) (ym_14 Y) (by decide))).trans (h47)))))
                  have R120 : RelC q σ111 := RelC.mk h119 h112 (RC.set ra45 (x1 : Int).toNat (fun i hi => upd_n hi) (fun i hi => updL_n hi) (fun x e1 r1 hx => by rw [updL_s]; exact po37 (by omega)))
                  have G121 : GM K h q σ111 := ⟨T115, R116, R117, R120, R118⟩
                  refine v_iconst B (v := iI 1) dX12_connect_114 rfl ?_
                  exact hend σ111 1 _ _ G121 F114 ⟨by omega, by omega⟩ dX12_connect_115
                · refine v_iconst B (v := iI 0) dX12_connect_62 rfl ?_
                  exact hend σ12 0 _ _ G16 F15 ⟨by omega, by omega⟩ dX12_connect_63
set_option maxRecDepth 100000 in
theorem c_M_connect (l : Launch) (D : va_G) (K : Nat → ClassId) {τ : Nat → Option Ty} {dom : List Nat} (Z : Sk τ dom) (zb zL : Nat) (zx : Nat → Int32) (zs : Nat → Nat) (h : Nat) (q : Nat → Nat) (Y : MS τ h q) (x1 : Int) (y2 : Int) (x4 : Int) (x5 : Int) (x6 : Int) (y7 : Int) (r_x1 : -2147483648 ≤ x1 ∧ x1 ≤ 2147483647) (r_y2 : InL y2) (r_x4 : -2147483648 ≤ x4 ∧ x4 ≤ 2147483647) (r_x5 : -2147483648 ≤ x5 ∧ x5 ≤ 2147483647) (r_x6 : -2147483648 ≤ x6 ∧ x6 ≤ 2147483647) (r_y7 : InL y7) (σ0 : Nat → va_E) (G0 : GM K h q σ0) : MZ l yX12_connect wp_M_connect ({ frames := 2, cells := 0, slots := 0, locals := 42 }) D (tysA K) [.ref h, .int (iI x1), .long (lI y2), .int (iI x4), .int (iI x5), .int (iI x6), .long (lI y7)] (fd dom σ0) zb zL zx zs (Qi D (fun r σ' => GM K h q σ' ∧ Fr τ [(50, 0), (107, 0), (114, 0), (109, 0), (126, 0), (127, 0), (115, 0)] σ0 σ' ∧ ∃ z : Int, r = iI z ∧ (0 ≤ z ∧ z ≤ 1)) (fun σ' => fd dom σ')) 0 0 := by
  refine mz_of (cc := cX12_connect) (maxL := 9) (ret := (some .boolean)) (by decide +kernel) rfl (Nat.le_of_ble_eq_true rfl) ?_
  intro p e s m below meth c A B hr hlk _ hz
  exact b_M_connect ⟨Nat.le_refl _, Nat.le_refl _⟩ B Z hz h q Y x1 y2 x4 x5 x6 y7 r_x1 r_y2 r_x4 r_x5 r_x6 r_y7 σ0 G0 (fun σ' z lv pc G F hZ hd => v_zret B hr hlk (nar01 (by omega)) σ' ⟨G, F, z, rfl, hZ⟩ rfl (Nat.le_refl _) (Nat.le_refl _) hd)

def wp_M_stop : List Cond := .code yX12_stop cX12_stop 2 (some .boolean) :: (([.fieldLink RX12 1 "LowEnergyModel" "thrown" "I", .methodLink RX12 413 yX12_in, .static yX12_in, .initialized RX12, .code yX12_in cX12_in 2 (some .boolean), .fieldLink RX12 45 "LowEnergyModel" "state" "[I"] : List Cond) ++ (wsX120 ++ ([])))
theorem hi_M_stop_X12 : ∀ x ∈ u_ws RX12 TX12 123, x ∈ wp_M_stop := fun _ h => List.mem_cons_of_mem _ (List.mem_append_right _ (List.mem_append_left _ h))
set_option maxRecDepth 100000 in
theorem gd_M_stop_M_in_413 : GoodIn wp_M_stop (va_wsS RX12 413 yX12_in wp_M_in) := goodIn_app (goodIn_r _ [2, 3, 4] rfl rfl) (goodIn_ca (goodIn_r _ [5] rfl rfl) (goodIn_nil))
set_option maxHeartbeats 4000000 in
set_option maxRecDepth 100000 in
theorem b_M_stop {p : Program} {l : Launch} {e : Env} {R : Room} {s : State} {m : MethodId} {args : Array Value} {below : List Frame} {meth : Method} {c : Code} {D : va_G} {K : Nat → ClassId} {A : Nat → Prop} {Q : State → Prop} {τ : Nat → Option Ty} {dom : List Nat} {zb zL : Nat} {zx : Nat → Int32} {zs : Nat → Nat} (hR : 1 ≤ R.frames ∧ 21 ≤ R.locals) (B : Bx p s m args c cX12_stop 2 RX12 wp_M_stop D (tysA K) A) (Z : Sk τ dom) (hz : ZL zb zL zx zs A s s.heap) (h : Nat) (q : Nat → Nat) (Y : MS τ h q) (x1 : Int) (r_x1 : -2147483648 ≤ x1 ∧ x1 ≤ 2147483647) (σ0 : Nat → va_E) (G0 : GM K h q σ0) (hend : ∀ (σ' : Nat → va_E) (z : Int) (lv : List (Nat × Value)) (pc : Nat), GM K h q σ' → Fr τ [(50, 0), (107, 0)] σ0 σ' → (0 ≤ z ∧ z ≤ 1) → decode cX12_stop pc = .ok (.ireturn, 1) → V p l e R s m args below meth c 2 D A Q (0, 0) (fd dom σ') lv pc [.int (iI z)]) : V p l e R s m args below meth c 2 D A Q (0, 0) (fd dom σ0) [(0, .ref h), (1, .int (iI x1))] 0 [] := by
  have F0 : Fr τ [(50, 0), (107, 0)] σ0 σ0 := Fr.rf
  obtain ⟨z1, z2, z3, z4, z5, h6, r7, r8, r9, r10, r11⟩ := G0.t.o
  refine v_aload_n B dX12_stop_0 rfl rfl ?_
  refine v_iconst B (v := iI 0) dX12_stop_1 rfl ?_
  refine u_put B Z (C := RX12) (T := TX12) (N := 123) (ci := 12) hi_M_stop_X12 Y.o h6 rfl 0 (by decide +kernel) tyX12 tyX12_ok nmX12 (List.mem_of_getElem? (i := 1) rfl) rfl (ty := .int) (tyX12_ok 0 (by decide +kernel)) rfl rfl (Nat.le_of_ble_eq_true rfl) (fs' := fsM q (iI 0) (iI z2) (iI z3) (iI z4) (iI z5)) rfl dX12_stop_2 (fun σ12 h13 n14 => ?_)
  have F15 := F0.put Y.o (by simp) n14
  have G16 := G0.putO Y ⟨0, z2, z3, z4, z5, h13, ⟨by omega, by omega⟩, ⟨by omega, by omega⟩, ⟨by omega, by omega⟩, ⟨by omega, by omega⟩, ⟨by omega, by omega⟩⟩ n14
  refine v_iload_n B dX12_stop_5 rfl rfl ?_
  refine v_iconst B (v := iI 2) dX12_stop_6 rfl ?_
  refine u_callSi B Z hz (n := 2) (As := [.int (iI x1), .int (iI 2)]) (rest := []) (c_M_in l D K Z _ _ _ _ h q Y x1 2 ⟨by omega, by omega⟩ ⟨by omega, by omega⟩ σ12 (G16.t)) gd_M_stop_M_in_413 rfl rfl rfl (by decide +kernel) ⟨Nat.le_trans (by decide +kernel) hR.1, Nat.le_trans (by decide +kernel) hR.2⟩ rfl rfl (Nat.le_of_ble_eq_true rfl) dX12_stop_7 ⟨Nat.zero_le _, Nat.zero_le _⟩ (fun v19 σ17 p18 => ?_)
  obtain ⟨rfl, z20, e21, r22, po23⟩ := p18
  subst e21
  refine u_if_eq B (tgt := 33) (by omega) dX12_stop_10 (by decide +kernel) (fun c24 => ?_) (fun c24 => ?_)
  · refine v_iconst B (v := iI 0) dX12_stop_33 rfl ?_
    exact hend σ12 0 _ _ G16 F15 ⟨by omega, by omega⟩ dX12_stop_34
  · refine v_aload_n B dX12_stop_13 rfl rfl ?_
    refine u_get B Z (C := RX12) (T := TX12) (N := 123) (ci := 12) hi_M_stop_X12 Y.o h13 rfl 7 (by decide +kernel) (List.mem_of_getElem? (i := 6) rfl) rfl dX12_stop_14 ?_
    refine v_iload_n B dX12_stop_17 rfl rfl ?_
    obtain ⟨f25, h26, e27⟩ := ga_7 G16.t
    obtain ⟨z28, e29, r30⟩ := e27 (x1 : Int).toNat
    refine u_iald B Z (t0 := 0) (ym_7 Y) h26 rfl (by omega) e29 dX12_stop_18 ?_
    refine v_iconst B (v := iI 1) dX12_stop_19 rfl ?_
    refine u_icmp_lt B (tgt := 33) (by omega) (by omega) dX12_stop_20 (by decide +kernel) (fun c31 => ?_) (fun c31 => ?_)
    · refine v_iconst B (v := iI 0) dX12_stop_33 rfl ?_
      exact hend σ12 0 _ _ G16 F15 ⟨by omega, by omega⟩ dX12_stop_34
    · refine v_aload_n B dX12_stop_23 rfl rfl ?_
      refine u_get B Z (C := RX12) (T := TX12) (N := 123) (ci := 12) hi_M_stop_X12 Y.o h13 rfl 7 (by decide +kernel) (List.mem_of_getElem? (i := 6) rfl) rfl dX12_stop_24 ?_
      refine v_iload_n B dX12_stop_27 rfl rfl ?_
      refine u_iald B Z (t0 := 0) (ym_7 Y) h26 rfl (by omega) e29 dX12_stop_28 ?_
      refine v_iconst B (v := iI 3) dX12_stop_29 rfl ?_
      refine u_icmp_le B (tgt := 35) (by omega) (by omega) dX12_stop_30 (by decide +kernel) (fun c32 => ?_) (fun c32 => ?_)
      · refine v_aload_n B dX12_stop_35 rfl rfl ?_
        refine u_get B Z (C := RX12) (T := TX12) (N := 123) (ci := 12) hi_M_stop_X12 Y.o h13 rfl 7 (by decide +kernel) (List.mem_of_getElem? (i := 6) rfl) rfl dX12_stop_36 ?_
        refine v_iload_n B dX12_stop_39 rfl rfl ?_
        refine v_iconst B (v := iI 0) dX12_stop_40 rfl ?_
        obtain ⟨f33, h34⟩ := ga_15 G16.t
        have ra36 := G16.c _ _ _ _ _ _ h26 h34
        refine u_iast B Z (t0 := 0) (x := iI 0) (ym_7 Y) h26 rfl (by omega) dX12_stop_41 (fun σ37 h38 n39 => ?_)
        have e40 := el_upd (z := 0) e27 ⟨by omega, by omega⟩ (x1 : Int).toNat
        have F41 := F15.put (ym_7 Y) (by simp) n39
        have T42 := gp_7 Y G16.t ⟨_, h38, e40⟩ n39
        have R43 := (G16.a).kept (n39 _ (ne_ty (ym_85 Y) (ym_7 Y) (by decide))) (n39 _ (ne_ty (ym_86 Y) (ym_7 Y) (by decide))) (n39 _ (ne_ty (ym_84 Y) (ym_7 Y) (by decide)))
        have R44 := (G16.b).kept (n39 _ (ne_ty (ym_106 Y) (ym_7 Y) (by decide))) (n39 _ (ne_ty (ym_110 Y) (ym_7 Y) (by decide)))
        have R45 := (G16.d).kept (n39 _ (ne_ty (ym_41 Y) (ym_7 Y) (by decide))) (n39 _ (ne_ty (ym_16 Y) (ym_7 Y) (by decide)))
        have h46 := (n39 (q 15) (ne_ty (ym_15 Y) (ym_7 Y) (by decide))).trans (h34)
        have R47 : RelC q σ37 := RelC.mk h38 h46 (RC.set ra36 (x1 : Int).toNat (fun i hi => upd_n hi) (fun _ _ => rfl) (fun x e1 r1 hx => by have a1 : 0 = x := (iI_eq (by omega) r1).mp ((upd_s).symm.trans e1); omega))
        have G48 : GM K h q σ37 := ⟨T42, R43, R44, R47, R45⟩
        refine v_iconst B (v := iI 1) dX12_stop_42 rfl ?_
        exact hend σ37 1 _ _ G48 F41 ⟨by omega, by omega⟩ dX12_stop_43
      · refine v_iconst B (v := iI 0) dX12_stop_33 rfl ?_
        exact hend σ12 0 _ _ G16 F15 ⟨by omega, by omega⟩ dX12_stop_34
set_option maxRecDepth 100000 in
theorem c_M_stop (l : Launch) (D : va_G) (K : Nat → ClassId) {τ : Nat → Option Ty} {dom : List Nat} (Z : Sk τ dom) (zb zL : Nat) (zx : Nat → Int32) (zs : Nat → Nat) (h : Nat) (q : Nat → Nat) (Y : MS τ h q) (x1 : Int) (r_x1 : -2147483648 ≤ x1 ∧ x1 ≤ 2147483647) (σ0 : Nat → va_E) (G0 : GM K h q σ0) : MZ l yX12_stop wp_M_stop ({ frames := 1, cells := 0, slots := 0, locals := 21 }) D (tysA K) [.ref h, .int (iI x1)] (fd dom σ0) zb zL zx zs (Qi D (fun r σ' => GM K h q σ' ∧ Fr τ [(50, 0), (107, 0)] σ0 σ' ∧ ∃ z : Int, r = iI z ∧ (0 ≤ z ∧ z ≤ 1)) (fun σ' => fd dom σ')) 0 0 := by
  refine mz_of (cc := cX12_stop) (maxL := 2) (ret := (some .boolean)) (by decide +kernel) rfl (Nat.le_of_ble_eq_true rfl) ?_
  intro p e s m below meth c A B hr hlk _ hz
  exact b_M_stop ⟨Nat.le_refl _, Nat.le_refl _⟩ B Z hz h q Y x1 r_x1 σ0 G0 (fun σ' z lv pc G F hZ hd => v_zret B hr hlk (nar01 (by omega)) σ' ⟨G, F, z, rfl, hZ⟩ rfl (Nat.le_refl _) (Nat.le_refl _) hd)

def wp_M_noise : List Cond := .code yX12_noise cX12_noise 3 (some .boolean) :: (([.fieldLink RX12 1 "LowEnergyModel" "thrown" "I", .methodLink RX12 413 yX12_in, .static yX12_in, .initialized RX12, .code yX12_in cX12_in 2 (some .boolean), .fieldLink RX12 97 "LowEnergyModel" "noises" "[I", .fieldLink RX12 100 "LowEnergyModel" "noise" "[I"] : List Cond) ++ (wsX120 ++ ([])))
theorem hi_M_noise_X12 : ∀ x ∈ u_ws RX12 TX12 123, x ∈ wp_M_noise := fun _ h => List.mem_cons_of_mem _ (List.mem_append_right _ (List.mem_append_left _ h))
set_option maxRecDepth 100000 in
theorem gd_M_noise_M_in_413 : GoodIn wp_M_noise (va_wsS RX12 413 yX12_in wp_M_in) := goodIn_app (goodIn_r _ [2, 3, 4] rfl rfl) (goodIn_ca (goodIn_r _ [5] rfl rfl) (goodIn_nil))
set_option maxHeartbeats 4000000 in
set_option maxRecDepth 100000 in
theorem b_M_noise {p : Program} {l : Launch} {e : Env} {R : Room} {s : State} {m : MethodId} {args : Array Value} {below : List Frame} {meth : Method} {c : Code} {D : va_G} {K : Nat → ClassId} {A : Nat → Prop} {Q : State → Prop} {τ : Nat → Option Ty} {dom : List Nat} {zb zL : Nat} {zx : Nat → Int32} {zs : Nat → Nat} (hR : 1 ≤ R.frames ∧ 21 ≤ R.locals) (B : Bx p s m args c cX12_noise 3 RX12 wp_M_noise D (tysA K) A) (Z : Sk τ dom) (hz : ZL zb zL zx zs A s s.heap) (h : Nat) (q : Nat → Nat) (Y : MS τ h q) (x1 : Int) (x2 : Int) (r_x1 : -2147483648 ≤ x1 ∧ x1 ≤ 2147483647) (r_x2 : -2147483648 ≤ x2 ∧ x2 ≤ 2147483647) (σ0 : Nat → va_E) (G0 : GM K h q σ0) (hend : ∀ (σ' : Nat → va_E) (z : Int) (lv : List (Nat × Value)) (pc : Nat), GM K h q σ' → Fr τ [(50, 0), (125, 0), (124, 0)] σ0 σ' → (0 ≤ z ∧ z ≤ 1) → decode cX12_noise pc = .ok (.ireturn, 1) → V p l e R s m args below meth c 3 D A Q (0, 0) (fd dom σ') lv pc [.int (iI z)]) : V p l e R s m args below meth c 3 D A Q (0, 0) (fd dom σ0) [(0, .ref h), (1, .int (iI x1)), (2, .int (iI x2))] 0 [] := by
  have F0 : Fr τ [(50, 0), (125, 0), (124, 0)] σ0 σ0 := Fr.rf
  obtain ⟨z1, z2, z3, z4, z5, h6, r7, r8, r9, r10, r11⟩ := G0.t.o
  refine v_aload_n B dX12_noise_0 rfl rfl ?_
  refine v_iconst B (v := iI 0) dX12_noise_1 rfl ?_
  refine u_put B Z (C := RX12) (T := TX12) (N := 123) (ci := 12) hi_M_noise_X12 Y.o h6 rfl 0 (by decide +kernel) tyX12 tyX12_ok nmX12 (List.mem_of_getElem? (i := 1) rfl) rfl (ty := .int) (tyX12_ok 0 (by decide +kernel)) rfl rfl (Nat.le_of_ble_eq_true rfl) (fs' := fsM q (iI 0) (iI z2) (iI z3) (iI z4) (iI z5)) rfl dX12_noise_2 (fun σ12 h13 n14 => ?_)
  have F15 := F0.put Y.o (by simp) n14
  have G16 := G0.putO Y ⟨0, z2, z3, z4, z5, h13, ⟨by omega, by omega⟩, ⟨by omega, by omega⟩, ⟨by omega, by omega⟩, ⟨by omega, by omega⟩, ⟨by omega, by omega⟩⟩ n14
  refine v_iload_n B dX12_noise_5 rfl rfl ?_
  refine v_iconst B (v := iI 2) dX12_noise_6 rfl ?_
  refine u_callSi B Z hz (n := 2) (As := [.int (iI x1), .int (iI 2)]) (rest := []) (c_M_in l D K Z _ _ _ _ h q Y x1 2 ⟨by omega, by omega⟩ ⟨by omega, by omega⟩ σ12 (G16.t)) gd_M_noise_M_in_413 rfl rfl rfl (by decide +kernel) ⟨Nat.le_trans (by decide +kernel) hR.1, Nat.le_trans (by decide +kernel) hR.2⟩ rfl rfl (Nat.le_of_ble_eq_true rfl) dX12_noise_7 ⟨Nat.zero_le _, Nat.zero_le _⟩ (fun v19 σ17 p18 => ?_)
  obtain ⟨rfl, z20, e21, r22, po23⟩ := p18
  subst e21
  refine u_if_eq B (tgt := 34) (by omega) dX12_noise_10 (by decide +kernel) (fun c24 => ?_) (fun c24 => ?_)
  · refine v_iconst B (v := iI 0) dX12_noise_34 rfl ?_
    exact hend σ12 0 _ _ G16 F15 ⟨by omega, by omega⟩ dX12_noise_35
  · refine v_iload_n B dX12_noise_13 rfl rfl ?_
    refine v_sipush B (v := iI 320) dX12_noise_14 (by decide +kernel) ?_
    refine u_callSi B Z hz (n := 2) (As := [.int (iI x2), .int (iI 320)]) (rest := []) (c_M_in l D K Z _ _ _ _ h q Y x2 320 ⟨by omega, by omega⟩ ⟨by omega, by omega⟩ σ12 (G16.t)) gd_M_noise_M_in_413 rfl rfl rfl (by decide +kernel) ⟨Nat.le_trans (by decide +kernel) hR.1, Nat.le_trans (by decide +kernel) hR.2⟩ rfl rfl (Nat.le_of_ble_eq_true rfl) dX12_noise_17 ⟨Nat.zero_le _, Nat.zero_le _⟩ (fun v27 σ25 p26 => ?_)
    obtain ⟨rfl, z28, e29, r30, po31⟩ := p26
    subst e29
    refine u_if_eq B (tgt := 34) (by omega) dX12_noise_20 (by decide +kernel) (fun c32 => ?_) (fun c32 => ?_)
    · refine v_iconst B (v := iI 0) dX12_noise_34 rfl ?_
      exact hend σ12 0 _ _ G16 F15 ⟨by omega, by omega⟩ dX12_noise_35
    · refine v_aload_n B dX12_noise_23 rfl rfl ?_
      refine u_get B Z (C := RX12) (T := TX12) (N := 123) (ci := 12) hi_M_noise_X12 Y.o h13 rfl 24 (by decide +kernel) (List.mem_of_getElem? (i := 6) rfl) rfl dX12_noise_24 ?_
      refine v_iload_n B dX12_noise_27 rfl rfl ?_
      obtain ⟨f33, h34, e35⟩ := ga_24 G16.t
      obtain ⟨z36, e37, r38⟩ := e35 (x1 : Int).toNat
      refine u_iald B Z (t0 := 0) (ym_24 Y) h34 rfl (by omega) e37 dX12_noise_28 ?_
      refine v_bipush B (v := iI 64) dX12_noise_29 (by decide +kernel) ?_
      refine u_icmp_ne B (tgt := 36) (by omega) (by omega) dX12_noise_31 (by decide +kernel) (fun c39 => ?_) (fun c39 => ?_)
      · refine v_aload_n B dX12_noise_36 rfl rfl ?_
        refine u_get B Z (C := RX12) (T := TX12) (N := 123) (ci := 12) hi_M_noise_X12 Y.o h13 rfl 25 (by decide +kernel) (List.mem_of_getElem? (i := 7) rfl) rfl dX12_noise_37 ?_
        refine v_bipush B (v := iI 64) dX12_noise_40 (by decide +kernel) ?_
        refine v_iload_n B dX12_noise_42 rfl rfl ?_
        refine v_imul B (v := iI (64 * x1)) dX12_noise_43 ((iI_mul _ _).trans (congrArg iI (by omega))) ?_
        refine v_aload_n B dX12_noise_44 rfl rfl ?_
        refine u_get B Z (C := RX12) (T := TX12) (N := 123) (ci := 12) hi_M_noise_X12 Y.o h13 rfl 24 (by decide +kernel) (List.mem_of_getElem? (i := 6) rfl) rfl dX12_noise_45 ?_
        refine v_iload_n B dX12_noise_48 rfl rfl ?_
        refine u_iald B Z (t0 := 0) (ym_24 Y) h34 rfl (by omega) e37 dX12_noise_49 ?_
        refine v_iadd B (v := iI (64 * x1 + z36)) dX12_noise_50 ((iI_add _ _).trans (congrArg iI (by omega))) ?_
        refine v_iload_n B dX12_noise_51 rfl rfl ?_
        obtain ⟨f40, h41, e42⟩ := ga_25 G16.t
        refine u_iast B Z (t0 := 0) (x := iI x2) (ym_25 Y) h41 rfl (by omega) dX12_noise_52 (fun σ43 h44 n45 => ?_)
        have e46 := el_upd (z := x2) e42 ⟨by omega, by omega⟩ ((64 * x1 + z36) : Int).toNat
        have F47 := F15.put (ym_25 Y) (by simp) n45
        have G48 := gp_25 Y G16 ⟨_, h44, e46⟩ n45
        refine v_aload_n B dX12_noise_53 rfl rfl ?_
        have h49 := (n45 h (ne_ty Y.o (ym_25 Y) (by decide))).trans (h13)
        refine u_get B Z (C := RX12) (T := TX12) (N := 123) (ci := 12) hi_M_noise_X12 Y.o h49 rfl 24 (by decide +kernel) (List.mem_of_getElem? (i := 6) rfl) rfl dX12_noise_54 ?_
        refine v_iload_n B dX12_noise_57 rfl rfl ?_
        refine v_dup2 B dX12_noise_58 rfl rfl ?_
        have h50 := (n45 (q 24) (ne_ty (ym_24 Y) (ym_25 Y) (by decide))).trans (h34)
        refine u_iald B Z (t0 := 0) (ym_24 Y) h50 rfl (by omega) e37 dX12_noise_59 ?_
        refine v_iconst B (v := iI 1) dX12_noise_60 rfl ?_
        refine v_iadd B (v := iI (z36 + 1)) dX12_noise_61 ((iI_add _ _).trans (congrArg iI (by omega))) ?_
        refine u_iast B Z (t0 := 0) (x := iI (z36 + 1)) (ym_24 Y) h50 rfl (by omega) dX12_noise_62 (fun σ51 h52 n53 => ?_)
        have e54 := el_upd (z := (z36 + 1)) e35 ⟨by omega, by omega⟩ (x1 : Int).toNat
        have F55 := F47.put (ym_24 Y) (by simp) n53
        have G56 := gp_24 Y G48 ⟨_, h52, e54⟩ n53
        refine v_iconst B (v := iI 1) dX12_noise_63 rfl ?_
        exact hend σ51 1 _ _ G56 F55 ⟨by omega, by omega⟩ dX12_noise_64
      · refine v_iconst B (v := iI 0) dX12_noise_34 rfl ?_
        exact hend σ12 0 _ _ G16 F15 ⟨by omega, by omega⟩ dX12_noise_35
set_option maxRecDepth 100000 in
theorem c_M_noise (l : Launch) (D : va_G) (K : Nat → ClassId) {τ : Nat → Option Ty} {dom : List Nat} (Z : Sk τ dom) (zb zL : Nat) (zx : Nat → Int32) (zs : Nat → Nat) (h : Nat) (q : Nat → Nat) (Y : MS τ h q) (x1 : Int) (x2 : Int) (r_x1 : -2147483648 ≤ x1 ∧ x1 ≤ 2147483647) (r_x2 : -2147483648 ≤ x2 ∧ x2 ≤ 2147483647) (σ0 : Nat → va_E) (G0 : GM K h q σ0) : MZ l yX12_noise wp_M_noise ({ frames := 1, cells := 0, slots := 0, locals := 21 }) D (tysA K) [.ref h, .int (iI x1), .int (iI x2)] (fd dom σ0) zb zL zx zs (Qi D (fun r σ' => GM K h q σ' ∧ Fr τ [(50, 0), (125, 0), (124, 0)] σ0 σ' ∧ ∃ z : Int, r = iI z ∧ (0 ≤ z ∧ z ≤ 1)) (fun σ' => fd dom σ')) 0 0 := by
  refine mz_of (cc := cX12_noise) (maxL := 3) (ret := (some .boolean)) (by decide +kernel) rfl (Nat.le_of_ble_eq_true rfl) ?_
  intro p e s m below meth c A B hr hlk _ hz
  exact b_M_noise ⟨Nat.le_refl _, Nat.le_refl _⟩ B Z hz h q Y x1 x2 r_x1 r_x2 σ0 G0 (fun σ' z lv pc G F hZ hd => v_zret B hr hlk (nar01 (by omega)) σ' ⟨G, F, z, rfl, hZ⟩ rfl (Nat.le_refl _) (Nat.le_refl _) hd)

def wp_M_lose : List Cond := .code yX12_lose cX12_lose 3 (some .boolean) :: (([.fieldLink RX12 1 "LowEnergyModel" "thrown" "I", .methodLink RX12 413 yX12_in, .static yX12_in, .initialized RX12, .code yX12_in cX12_in 2 (some .boolean), .fieldLink RX12 94 "LowEnergyModel" "lost" "[I"] : List Cond) ++ (wsX120 ++ ([])))
theorem hi_M_lose_X12 : ∀ x ∈ u_ws RX12 TX12 123, x ∈ wp_M_lose := fun _ h => List.mem_cons_of_mem _ (List.mem_append_right _ (List.mem_append_left _ h))
set_option maxRecDepth 100000 in
theorem gd_M_lose_M_in_413 : GoodIn wp_M_lose (va_wsS RX12 413 yX12_in wp_M_in) := goodIn_app (goodIn_r _ [2, 3, 4] rfl rfl) (goodIn_ca (goodIn_r _ [5] rfl rfl) (goodIn_nil))
set_option maxHeartbeats 4000000 in
set_option maxRecDepth 100000 in
theorem b_M_lose {p : Program} {l : Launch} {e : Env} {R : Room} {s : State} {m : MethodId} {args : Array Value} {below : List Frame} {meth : Method} {c : Code} {D : va_G} {K : Nat → ClassId} {A : Nat → Prop} {Q : State → Prop} {τ : Nat → Option Ty} {dom : List Nat} {zb zL : Nat} {zx : Nat → Int32} {zs : Nat → Nat} (hR : 1 ≤ R.frames ∧ 21 ≤ R.locals) (B : Bx p s m args c cX12_lose 3 RX12 wp_M_lose D (tysA K) A) (Z : Sk τ dom) (hz : ZL zb zL zx zs A s s.heap) (h : Nat) (q : Nat → Nat) (Y : MS τ h q) (x1 : Int) (x2 : Int) (r_x1 : -2147483648 ≤ x1 ∧ x1 ≤ 2147483647) (r_x2 : -2147483648 ≤ x2 ∧ x2 ≤ 2147483647) (σ0 : Nat → va_E) (G0 : GM K h q σ0) (hend : ∀ (σ' : Nat → va_E) (z : Int) (lv : List (Nat × Value)) (pc : Nat), GM K h q σ' → Fr τ [(50, 0), (123, 0)] σ0 σ' → (0 ≤ z ∧ z ≤ 1) → ((z = 1 ∧ ((0 ≤ x1 ∧ x1 ≤ 1) ∧ (0 ≤ x2 ∧ x2 ≤ 100))) ∨ (z = 0 ∧ ¬ ((0 ≤ x1 ∧ x1 ≤ 1) ∧ (0 ≤ x2 ∧ x2 ≤ 100)))) → decode cX12_lose pc = .ok (.ireturn, 1) → V p l e R s m args below meth c 3 D A Q (0, 0) (fd dom σ') lv pc [.int (iI z)]) : V p l e R s m args below meth c 3 D A Q (0, 0) (fd dom σ0) [(0, .ref h), (1, .int (iI x1)), (2, .int (iI x2))] 0 [] := by
  have F0 : Fr τ [(50, 0), (123, 0)] σ0 σ0 := Fr.rf
  obtain ⟨z1, z2, z3, z4, z5, h6, r7, r8, r9, r10, r11⟩ := G0.t.o
  refine v_aload_n B dX12_lose_0 rfl rfl ?_
  refine v_iconst B (v := iI 0) dX12_lose_1 rfl ?_
  refine u_put B Z (C := RX12) (T := TX12) (N := 123) (ci := 12) hi_M_lose_X12 Y.o h6 rfl 0 (by decide +kernel) tyX12 tyX12_ok nmX12 (List.mem_of_getElem? (i := 1) rfl) rfl (ty := .int) (tyX12_ok 0 (by decide +kernel)) rfl rfl (Nat.le_of_ble_eq_true rfl) (fs' := fsM q (iI 0) (iI z2) (iI z3) (iI z4) (iI z5)) rfl dX12_lose_2 (fun σ12 h13 n14 => ?_)
  have F15 := F0.put Y.o (by simp) n14
  have G16 := G0.putO Y ⟨0, z2, z3, z4, z5, h13, ⟨by omega, by omega⟩, ⟨by omega, by omega⟩, ⟨by omega, by omega⟩, ⟨by omega, by omega⟩, ⟨by omega, by omega⟩⟩ n14
  refine v_iload_n B dX12_lose_5 rfl rfl ?_
  refine v_iconst B (v := iI 2) dX12_lose_6 rfl ?_
  refine u_callSi B Z hz (n := 2) (As := [.int (iI x1), .int (iI 2)]) (rest := []) (c_M_in l D K Z _ _ _ _ h q Y x1 2 ⟨by omega, by omega⟩ ⟨by omega, by omega⟩ σ12 (G16.t)) gd_M_lose_M_in_413 rfl rfl rfl (by decide +kernel) ⟨Nat.le_trans (by decide +kernel) hR.1, Nat.le_trans (by decide +kernel) hR.2⟩ rfl rfl (Nat.le_of_ble_eq_true rfl) dX12_lose_7 ⟨Nat.zero_le _, Nat.zero_le _⟩ (fun v19 σ17 p18 => ?_)
  obtain ⟨rfl, z20, e21, r22, po23⟩ := p18
  subst e21
  refine u_if_eq B (tgt := 22) (by omega) dX12_lose_10 (by decide +kernel) (fun c24 => ?_) (fun c24 => ?_)
  · refine v_iconst B (v := iI 0) dX12_lose_22 rfl ?_
    exact hend σ12 0 _ _ G16 F15 ⟨by omega, by omega⟩ (by omega) dX12_lose_23
  · refine v_iload_n B dX12_lose_13 rfl rfl ?_
    refine v_bipush B (v := iI 101) dX12_lose_14 (by decide +kernel) ?_
    refine u_callSi B Z hz (n := 2) (As := [.int (iI x2), .int (iI 101)]) (rest := []) (c_M_in l D K Z _ _ _ _ h q Y x2 101 ⟨by omega, by omega⟩ ⟨by omega, by omega⟩ σ12 (G16.t)) gd_M_lose_M_in_413 rfl rfl rfl (by decide +kernel) ⟨Nat.le_trans (by decide +kernel) hR.1, Nat.le_trans (by decide +kernel) hR.2⟩ rfl rfl (Nat.le_of_ble_eq_true rfl) dX12_lose_16 ⟨Nat.zero_le _, Nat.zero_le _⟩ (fun v27 σ25 p26 => ?_)
    obtain ⟨rfl, z28, e29, r30, po31⟩ := p26
    subst e29
    refine u_if_ne B (tgt := 24) (by omega) dX12_lose_19 (by decide +kernel) (fun c32 => ?_) (fun c32 => ?_)
    · refine v_aload_n B dX12_lose_24 rfl rfl ?_
      refine u_get B Z (C := RX12) (T := TX12) (N := 123) (ci := 12) hi_M_lose_X12 Y.o h13 rfl 23 (by decide +kernel) (List.mem_of_getElem? (i := 6) rfl) rfl dX12_lose_25 ?_
      refine v_iload_n B dX12_lose_28 rfl rfl ?_
      refine v_iload_n B dX12_lose_29 rfl rfl ?_
      obtain ⟨f33, h34, e35⟩ := ga_23 G16.t
      refine u_iast B Z (t0 := 0) (x := iI x2) (ym_23 Y) h34 rfl (by omega) dX12_lose_30 (fun σ36 h37 n38 => ?_)
      have e39 := el_upd (z := x2) e35 ⟨by omega, by omega⟩ (x1 : Int).toNat
      have F40 := F15.put (ym_23 Y) (by simp) n38
      have G41 := gp_23 Y G16 ⟨_, h37, e39⟩ n38
      refine v_iconst B (v := iI 1) dX12_lose_31 rfl ?_
      exact hend σ36 1 _ _ G41 F40 ⟨by omega, by omega⟩ (by omega) dX12_lose_32
    · refine v_iconst B (v := iI 0) dX12_lose_22 rfl ?_
      exact hend σ12 0 _ _ G16 F15 ⟨by omega, by omega⟩ (by omega) dX12_lose_23
set_option maxRecDepth 100000 in
theorem c_M_lose (l : Launch) (D : va_G) (K : Nat → ClassId) {τ : Nat → Option Ty} {dom : List Nat} (Z : Sk τ dom) (zb zL : Nat) (zx : Nat → Int32) (zs : Nat → Nat) (h : Nat) (q : Nat → Nat) (Y : MS τ h q) (x1 : Int) (x2 : Int) (r_x1 : -2147483648 ≤ x1 ∧ x1 ≤ 2147483647) (r_x2 : -2147483648 ≤ x2 ∧ x2 ≤ 2147483647) (σ0 : Nat → va_E) (G0 : GM K h q σ0) : MZ l yX12_lose wp_M_lose ({ frames := 1, cells := 0, slots := 0, locals := 21 }) D (tysA K) [.ref h, .int (iI x1), .int (iI x2)] (fd dom σ0) zb zL zx zs (Qi D (fun r σ' => GM K h q σ' ∧ Fr τ [(50, 0), (123, 0)] σ0 σ' ∧ ∃ z : Int, r = iI z ∧ (0 ≤ z ∧ z ≤ 1) ∧ ((z = 1 ∧ ((0 ≤ x1 ∧ x1 ≤ 1) ∧ (0 ≤ x2 ∧ x2 ≤ 100))) ∨ (z = 0 ∧ ¬ ((0 ≤ x1 ∧ x1 ≤ 1) ∧ (0 ≤ x2 ∧ x2 ≤ 100))))) (fun σ' => fd dom σ')) 0 0 := by
  refine mz_of (cc := cX12_lose) (maxL := 3) (ret := (some .boolean)) (by decide +kernel) rfl (Nat.le_of_ble_eq_true rfl) ?_
  intro p e s m below meth c A B hr hlk _ hz
  exact b_M_lose ⟨Nat.le_refl _, Nat.le_refl _⟩ B Z hz h q Y x1 x2 r_x1 r_x2 σ0 G0 (fun σ' z lv pc G F hZ hP hd => v_zret B hr hlk (nar01 (by omega)) σ' ⟨G, F, z, rfl, hZ, hP⟩ rfl (Nat.le_refl _) (Nat.le_refl _) hd)

def wp_M_air : List Cond := .code yX12_air cX12_air 3 (some .int) :: (([.fieldLink RX12 429 "LowEnergyModel" "packets" "I", .methodLink RX12 413 yX12_in, .static yX12_in, .initialized RX12, .code yX12_in cX12_in 2 (some .boolean), .fieldLink RX12 1 "LowEnergyModel" "thrown" "I", .fieldLink RX12 167 "LowEnergyModel" "airMany" "[I", .fieldLink RX12 170 "LowEnergyModel" "airChannel" "[I", .fieldLink RX12 164 "LowEnergyModel" "air" "[B"] : List Cond) ++ (wsX120 ++ ([])))
theorem hi_M_air_X12 : ∀ x ∈ u_ws RX12 TX12 123, x ∈ wp_M_air := fun _ h => List.mem_cons_of_mem _ (List.mem_append_right _ (List.mem_append_left _ h))
set_option maxRecDepth 100000 in
theorem gd_M_air_M_in_413 : GoodIn wp_M_air (va_wsS RX12 413 yX12_in wp_M_in) := goodIn_app (goodIn_r _ [2, 3, 4] rfl rfl) (goodIn_ca (goodIn_r _ [5] rfl rfl) (goodIn_nil))
set_option maxHeartbeats 4000000 in
set_option maxRecDepth 100000 in
theorem b_M_air {p : Program} {l : Launch} {e : Env} {R : Room} {s : State} {m : MethodId} {args : Array Value} {below : List Frame} {meth : Method} {c : Code} {D : va_G} {K : Nat → ClassId} {A : Nat → Prop} {Q : State → Prop} {τ : Nat → Option Ty} {dom : List Nat} {zb zL : Nat} {zx : Nat → Int32} {zs : Nat → Nat} (hR : 1 ≤ R.frames ∧ 21 ≤ R.locals) (B : Bx p s m args c cX12_air 3 RX12 wp_M_air D (tysA K) A) (Z : Sk τ dom) (hz : ZL zb zL zx zs A s s.heap) (h : Nat) (q : Nat → Nat) (Y : MS τ h q) (x1 : Int) (x2 : Int) (r_x1 : -2147483648 ≤ x1 ∧ x1 ≤ 2147483647) (r_x2 : -2147483648 ≤ x2 ∧ x2 ≤ 2147483647) (σ0 : Nat → va_E) (G0 : GM K h q σ0) (hend : ∀ (σ' : Nat → va_E) (z : Int) (lv : List (Nat × Value)) (pc : Nat), GM K h q σ' → Fr τ [(50, 0)] σ0 σ' → (-2147483648 ≤ z ∧ z ≤ 2147483647) → decode cX12_air pc = .ok (.ireturn, 1) → V p l e R s m args below meth c 3 D A Q (0, 0) (fd dom σ') lv pc [.int (iI z)]) : V p l e R s m args below meth c 3 D A Q (0, 0) (fd dom σ0) [(0, .ref h), (1, .int (iI x1)), (2, .int (iI x2))] 0 [] := by
  have F0 : Fr τ [(50, 0)] σ0 σ0 := Fr.rf
  obtain ⟨z1, z2, z3, z4, z5, h6, r7, r8, r9, r10, r11⟩ := G0.t.o
  refine v_aload_n B dX12_air_0 rfl rfl ?_
  refine v_iload_n B dX12_air_1 rfl rfl ?_
  refine v_aload_n B dX12_air_2 rfl rfl ?_
  refine u_get B Z (C := RX12) (T := TX12) (N := 123) (ci := 12) hi_M_air_X12 Y.o h6 rfl 51 (by decide +kernel) (List.mem_of_getElem? (i := 1) rfl) rfl dX12_air_3 ?_
  refine u_callSi B Z hz (n := 2) (As := [.int (iI x1), .int (iI z4)]) (rest := [.ref h]) (c_M_in l D K Z _ _ _ _ h q Y x1 z4 ⟨by omega, by omega⟩ ⟨by omega, by omega⟩ σ0 (G0.t)) gd_M_air_M_in_413 rfl rfl rfl (by decide +kernel) ⟨Nat.le_trans (by decide +kernel) hR.1, Nat.le_trans (by decide +kernel) hR.2⟩ rfl rfl (Nat.le_of_ble_eq_true rfl) dX12_air_6 ⟨Nat.zero_le _, Nat.zero_le _⟩ (fun v14 σ12 p13 => ?_)
  obtain ⟨rfl, z15, e16, r17, po18⟩ := p13
  subst e16
  refine u_if_eq B (tgt := 40) (by omega) dX12_air_9 (by decide +kernel) (fun c19 => ?_) (fun c19 => ?_)
  · refine v_iconst B (v := iI 1) dX12_air_40 rfl ?_
    refine u_put B Z (C := RX12) (T := TX12) (N := 123) (ci := 12) hi_M_air_X12 Y.o h6 rfl 0 (by decide +kernel) tyX12 tyX12_ok nmX12 (List.mem_of_getElem? (i := 6) rfl) rfl (ty := .int) (tyX12_ok 0 (by decide +kernel)) rfl rfl (Nat.le_of_ble_eq_true rfl) (fs' := fsM q (iI 1) (iI z2) (iI z3) (iI z4) (iI z5)) rfl dX12_air_41 (fun σ20 h21 n22 => ?_)
    have F23 := F0.put Y.o (by simp) n22
    have G24 := G0.putO Y ⟨1, z2, z3, z4, z5, h21, ⟨by omega, by omega⟩, ⟨by omega, by omega⟩, ⟨by omega, by omega⟩, ⟨by omega, by omega⟩, ⟨by omega, by omega⟩⟩ n22
    refine v_aload_n B dX12_air_44 rfl rfl ?_
    refine u_get B Z (C := RX12) (T := TX12) (N := 123) (ci := 12) hi_M_air_X12 Y.o h21 rfl 0 (by decide +kernel) (List.mem_of_getElem? (i := 6) rfl) rfl dX12_air_45 ?_
    refine u_if_le B (tgt := 53) (by omega) dX12_air_48 (by decide +kernel) (fun c25 => by omega) (fun c25 => ?_)
    refine v_iconst B (v := iI 0) dX12_air_51 rfl ?_
    exact hend σ20 0 _ _ G24 F23 ⟨by omega, by omega⟩ dX12_air_52
  · refine v_iload_n B dX12_air_12 rfl rfl ?_
    refine v_iconst B (v := iI (-1)) dX12_air_13 rfl ?_
    refine u_icmp_eq B (tgt := 36) (by omega) (by omega) dX12_air_14 (by decide +kernel) (fun c26 => ?_) (fun c26 => ?_)
    · refine v_iconst B (v := iI 0) dX12_air_36 rfl ?_
      refine v_goto B (tgt := 41) dX12_air_37 (by decide +kernel) ?_
      refine u_put B Z (C := RX12) (T := TX12) (N := 123) (ci := 12) hi_M_air_X12 Y.o h6 rfl 0 (by decide +kernel) tyX12 tyX12_ok nmX12 (List.mem_of_getElem? (i := 6) rfl) rfl (ty := .int) (tyX12_ok 0 (by decide +kernel)) rfl rfl (Nat.le_of_ble_eq_true rfl) (fs' := fsM q (iI 0) (iI z2) (iI z3) (iI z4) (iI z5)) rfl dX12_air_41 (fun σ27 h28 n29 => ?_)
      have F30 := F0.put Y.o (by simp) n29
      have G31 := G0.putO Y ⟨0, z2, z3, z4, z5, h28, ⟨by omega, by omega⟩, ⟨by omega, by omega⟩, ⟨by omega, by omega⟩, ⟨by omega, by omega⟩, ⟨by omega, by omega⟩⟩ n29
      refine v_aload_n B dX12_air_44 rfl rfl ?_
      refine u_get B Z (C := RX12) (T := TX12) (N := 123) (ci := 12) hi_M_air_X12 Y.o h28 rfl 0 (by decide +kernel) (List.mem_of_getElem? (i := 6) rfl) rfl dX12_air_45 ?_
      refine u_if_le B (tgt := 53) (by omega) dX12_air_48 (by decide +kernel) (fun c32 => ?_) (fun c32 => by omega)
      refine v_iload_n B dX12_air_53 rfl rfl ?_
      refine v_iconst B (v := iI (-1)) dX12_air_54 rfl ?_
      refine u_icmp_ne B (tgt := 67) (by omega) (by omega) dX12_air_55 (by decide +kernel) (fun c33 => by omega) (fun c33 => ?_)
      refine v_aload_n B dX12_air_58 rfl rfl ?_
      refine u_get B Z (C := RX12) (T := TX12) (N := 123) (ci := 12) hi_M_air_X12 Y.o h28 rfl 48 (by decide +kernel) (List.mem_of_getElem? (i := 7) rfl) rfl dX12_air_59 ?_
      refine v_iload_n B dX12_air_62 rfl rfl ?_
      obtain ⟨f34, h35, e36⟩ := ga_48 G31.t
      obtain ⟨z37, e38, r39⟩ := e36 (x1 : Int).toNat
      refine u_iald B Z (t0 := 0) (ym_48 Y) h35 rfl (by omega) e38 dX12_air_63 ?_
      refine v_goto B (tgt := 97) dX12_air_64 (by decide +kernel) ?_
      exact hend σ27 z37 _ _ G31 F30 ⟨by omega, by omega⟩ dX12_air_97
    · refine v_iload_n B dX12_air_17 rfl rfl ?_
      refine v_bipush B (v := iI (-2)) dX12_air_18 (by decide +kernel) ?_
      refine u_icmp_eq B (tgt := 36) (by omega) (by omega) dX12_air_20 (by decide +kernel) (fun c40 => ?_) (fun c40 => ?_)
      · refine v_iconst B (v := iI 0) dX12_air_36 rfl ?_
        refine v_goto B (tgt := 41) dX12_air_37 (by decide +kernel) ?_
        refine u_put B Z (C := RX12) (T := TX12) (N := 123) (ci := 12) hi_M_air_X12 Y.o h6 rfl 0 (by decide +kernel) tyX12 tyX12_ok nmX12 (List.mem_of_getElem? (i := 6) rfl) rfl (ty := .int) (tyX12_ok 0 (by decide +kernel)) rfl rfl (Nat.le_of_ble_eq_true rfl) (fs' := fsM q (iI 0) (iI z2) (iI z3) (iI z4) (iI z5)) rfl dX12_air_41 (fun σ41 h42 n43 => ?_)
        have F44 := F0.put Y.o (by simp) n43
        have G45 := G0.putO Y ⟨0, z2, z3, z4, z5, h42, ⟨by omega, by omega⟩, ⟨by omega, by omega⟩, ⟨by omega, by omega⟩, ⟨by omega, by omega⟩, ⟨by omega, by omega⟩⟩ n43
        refine v_aload_n B dX12_air_44 rfl rfl ?_
        refine u_get B Z (C := RX12) (T := TX12) (N := 123) (ci := 12) hi_M_air_X12 Y.o h42 rfl 0 (by decide +kernel) (List.mem_of_getElem? (i := 6) rfl) rfl dX12_air_45 ?_
        refine u_if_le B (tgt := 53) (by omega) dX12_air_48 (by decide +kernel) (fun c46 => ?_) (fun c46 => by omega)
        refine v_iload_n B dX12_air_53 rfl rfl ?_
        refine v_iconst B (v := iI (-1)) dX12_air_54 rfl ?_
        refine u_icmp_ne B (tgt := 67) (by omega) (by omega) dX12_air_55 (by decide +kernel) (fun c47 => ?_) (fun c47 => by omega)
        refine v_iload_n B dX12_air_67 rfl rfl ?_
        refine v_bipush B (v := iI (-2)) dX12_air_68 (by decide +kernel) ?_
        refine u_icmp_ne B (tgt := 82) (by omega) (by omega) dX12_air_70 (by decide +kernel) (fun c48 => by omega) (fun c48 => ?_)
        refine v_aload_n B dX12_air_73 rfl rfl ?_
        refine u_get B Z (C := RX12) (T := TX12) (N := 123) (ci := 12) hi_M_air_X12 Y.o h42 rfl 49 (by decide +kernel) (List.mem_of_getElem? (i := 8) rfl) rfl dX12_air_74 ?_
        refine v_iload_n B dX12_air_77 rfl rfl ?_
        obtain ⟨f49, h50, e51⟩ := ga_49 G45.t
        obtain ⟨z52, e53, r54⟩ := e51 (x1 : Int).toNat
        refine u_iald B Z (t0 := 0) (ym_49 Y) h50 rfl (by omega) e53 dX12_air_78 ?_
        refine v_goto B (tgt := 97) dX12_air_79 (by decide +kernel) ?_
        exact hend σ41 z52 _ _ G45 F44 ⟨by omega, by omega⟩ dX12_air_97
      · refine v_iload_n B dX12_air_23 rfl rfl ?_
        refine v_aload_n B dX12_air_24 rfl rfl ?_
        refine u_get B Z (C := RX12) (T := TX12) (N := 123) (ci := 12) hi_M_air_X12 Y.o h6 rfl 48 (by decide +kernel) (List.mem_of_getElem? (i := 7) rfl) rfl dX12_air_25 ?_
        refine v_iload_n B dX12_air_28 rfl rfl ?_
        obtain ⟨f55, h56, e57⟩ := ga_48 G0.t
        obtain ⟨z58, e59, r60⟩ := e57 (x1 : Int).toNat
        refine u_iald B Z (t0 := 0) (ym_48 Y) h56 rfl (by omega) e59 dX12_air_29 ?_
        refine u_callSi B Z hz (n := 2) (As := [.int (iI x2), .int (iI z58)]) (rest := [.ref h]) (c_M_in l D K Z _ _ _ _ h q Y x2 z58 ⟨by omega, by omega⟩ ⟨by omega, by omega⟩ σ0 (G0.t)) gd_M_air_M_in_413 rfl rfl rfl (by decide +kernel) ⟨Nat.le_trans (by decide +kernel) hR.1, Nat.le_trans (by decide +kernel) hR.2⟩ rfl rfl (Nat.le_of_ble_eq_true rfl) dX12_air_30 ⟨Nat.zero_le _, Nat.zero_le _⟩ (fun v63 σ61 p62 => ?_)
        obtain ⟨rfl, z64, e65, r66, po67⟩ := p62
        subst e65
        refine u_if_eq B (tgt := 40) (by omega) dX12_air_33 (by decide +kernel) (fun c68 => ?_) (fun c68 => ?_)
        · refine v_iconst B (v := iI 1) dX12_air_40 rfl ?_
          refine u_put B Z (C := RX12) (T := TX12) (N := 123) (ci := 12) hi_M_air_X12 Y.o h6 rfl 0 (by decide +kernel) tyX12 tyX12_ok nmX12 (List.mem_of_getElem? (i := 6) rfl) rfl (ty := .int) (tyX12_ok 0 (by decide +kernel)) rfl rfl (Nat.le_of_ble_eq_true rfl) (fs' := fsM q (iI 1) (iI z2) (iI z3) (iI z4) (iI z5)) rfl dX12_air_41 (fun σ69 h70 n71 => ?_)
          have F72 := F0.put Y.o (by simp) n71
          have G73 := G0.putO Y ⟨1, z2, z3, z4, z5, h70, ⟨by omega, by omega⟩, ⟨by omega, by omega⟩, ⟨by omega, by omega⟩, ⟨by omega, by omega⟩, ⟨by omega, by omega⟩⟩ n71
          refine v_aload_n B dX12_air_44 rfl rfl ?_
          refine u_get B Z (C := RX12) (T := TX12) (N := 123) (ci := 12) hi_M_air_X12 Y.o h70 rfl 0 (by decide +kernel) (List.mem_of_getElem? (i := 6) rfl) rfl dX12_air_45 ?_
          refine u_if_le B (tgt := 53) (by omega) dX12_air_48 (by decide +kernel) (fun c74 => by omega) (fun c74 => ?_)
          refine v_iconst B (v := iI 0) dX12_air_51 rfl ?_
          exact hend σ69 0 _ _ G73 F72 ⟨by omega, by omega⟩ dX12_air_52
        · refine v_iconst B (v := iI 0) dX12_air_36 rfl ?_
          refine v_goto B (tgt := 41) dX12_air_37 (by decide +kernel) ?_
          refine u_put B Z (C := RX12) (T := TX12) (N := 123) (ci := 12) hi_M_air_X12 Y.o h6 rfl 0 (by decide +kernel) tyX12 tyX12_ok nmX12 (List.mem_of_getElem? (i := 6) rfl) rfl (ty := .int) (tyX12_ok 0 (by decide +kernel)) rfl rfl (Nat.le_of_ble_eq_true rfl) (fs' := fsM q (iI 0) (iI z2) (iI z3) (iI z4) (iI z5)) rfl dX12_air_41 (fun σ75 h76 n77 => ?_)
          have F78 := F0.put Y.o (by simp) n77
          have G79 := G0.putO Y ⟨0, z2, z3, z4, z5, h76, ⟨by omega, by omega⟩, ⟨by omega, by omega⟩, ⟨by omega, by omega⟩, ⟨by omega, by omega⟩, ⟨by omega, by omega⟩⟩ n77
          refine v_aload_n B dX12_air_44 rfl rfl ?_
          refine u_get B Z (C := RX12) (T := TX12) (N := 123) (ci := 12) hi_M_air_X12 Y.o h76 rfl 0 (by decide +kernel) (List.mem_of_getElem? (i := 6) rfl) rfl dX12_air_45 ?_
          refine u_if_le B (tgt := 53) (by omega) dX12_air_48 (by decide +kernel) (fun c80 => ?_) (fun c80 => by omega)
          refine v_iload_n B dX12_air_53 rfl rfl ?_
          refine v_iconst B (v := iI (-1)) dX12_air_54 rfl ?_
          refine u_icmp_ne B (tgt := 67) (by omega) (by omega) dX12_air_55 (by decide +kernel) (fun c81 => ?_) (fun c81 => by omega)
          refine v_iload_n B dX12_air_67 rfl rfl ?_
          refine v_bipush B (v := iI (-2)) dX12_air_68 (by decide +kernel) ?_
          refine u_icmp_ne B (tgt := 82) (by omega) (by omega) dX12_air_70 (by decide +kernel) (fun c82 => ?_) (fun c82 => by omega)
          refine v_aload_n B dX12_air_82 rfl rfl ?_
          refine u_get B Z (C := RX12) (T := TX12) (N := 123) (ci := 12) hi_M_air_X12 Y.o h76 rfl 47 (by decide +kernel) (List.mem_of_getElem? (i := 9) rfl) rfl dX12_air_83 ?_
          refine v_bipush B (v := iI 40) dX12_air_86 (by decide +kernel) ?_
          refine v_iload_n B dX12_air_88 rfl rfl ?_
          refine v_imul B (v := iI (40 * x1)) dX12_air_89 ((iI_mul _ _).trans (congrArg iI (by omega))) ?_
          refine v_iload_n B dX12_air_90 rfl rfl ?_
          refine v_iadd B (v := iI (40 * x1 + x2)) dX12_air_91 ((iI_add _ _).trans (congrArg iI (by omega))) ?_
          obtain ⟨f83, h84, e85⟩ := ga_47 G79.t
          obtain ⟨z86, e87, r88⟩ := e85 ((40 * x1 + x2) : Int).toNat
          refine u_bald B Z (t0 := 2) (ym_47 Y) h84 rfl (by omega) e87 dX12_air_92 ?_
          refine v_sipush B (v := iI 255) dX12_air_93 (by decide +kernel) ?_
          obtain ⟨z89, e90, r91⟩ := iI_and z86 (c := 255) (by decide) (by decide)
          refine v_iand B (v := iI z89) dX12_air_96 e90 ?_
          exact hend σ75 z89 _ _ G79 F78 ⟨by omega, by omega⟩ dX12_air_97
set_option maxRecDepth 100000 in
theorem c_M_air (l : Launch) (D : va_G) (K : Nat → ClassId) {τ : Nat → Option Ty} {dom : List Nat} (Z : Sk τ dom) (zb zL : Nat) (zx : Nat → Int32) (zs : Nat → Nat) (h : Nat) (q : Nat → Nat) (Y : MS τ h q) (x1 : Int) (x2 : Int) (r_x1 : -2147483648 ≤ x1 ∧ x1 ≤ 2147483647) (r_x2 : -2147483648 ≤ x2 ∧ x2 ≤ 2147483647) (σ0 : Nat → va_E) (G0 : GM K h q σ0) : MZ l yX12_air wp_M_air ({ frames := 1, cells := 0, slots := 0, locals := 21 }) D (tysA K) [.ref h, .int (iI x1), .int (iI x2)] (fd dom σ0) zb zL zx zs (Qi D (fun r σ' => GM K h q σ' ∧ Fr τ [(50, 0)] σ0 σ' ∧ ∃ z : Int, r = iI z ∧ (-2147483648 ≤ z ∧ z ≤ 2147483647)) (fun σ' => fd dom σ')) 0 0 := by
  refine mz_of (cc := cX12_air) (maxL := 3) (ret := (some .int)) (by decide +kernel) rfl (Nat.le_of_ble_eq_true rfl) ?_
  intro p e s m below meth c A B hr hlk _ hz
  exact b_M_air ⟨Nat.le_refl _, Nat.le_refl _⟩ B Z hz h q Y x1 x2 r_x1 r_x2 σ0 G0 (fun σ' z lv pc G F hZ hd => v_iret B hr hlk σ' ⟨G, F, z, rfl, hZ⟩ rfl (Nat.le_refl _) (Nat.le_refl _) hd)

def wp_M_device : List Cond := .code yX12_device cX12_device 5 (some .int) :: (([.fieldLink RX12 1 "LowEnergyModel" "thrown" "I", .methodLink RX12 413 yX12_in, .static yX12_in, .initialized RX12, .code yX12_in cX12_in 2 (some .boolean), .methodLink RX12 662 yX12_isLinked, .instanceMethod yX12_isLinked, .selects RX12 yX12_isLinked yX12_isLinked, .code yX12_isLinked cX12_isLinked 2 (some .boolean), .fieldLink RX12 45 "LowEnergyModel" "state" "[I", .fieldLink RX12 112 "LowEnergyModel" "event" "[I", .fieldLink RX12 118 "LowEnergyModel" "channel" "[I", .fieldLink RX12 124 "LowEnergyModel" "sn" "[I", .fieldLink RX12 127 "LowEnergyModel" "nesn" "[I", .fieldLink RX12 51 "LowEnergyModel" "interval" "[I", .fieldLink RX12 106 "LowEnergyModel" "hop" "[I", .fieldLink RX12 103 "LowEnergyModel" "timeout" "[I", .fieldLink RX12 54 "LowEnergyModel" "next" "[I", .fieldLink RX12 470 "LowEnergyModel" "t" "I", .fieldLink RX12 121 "LowEnergyModel" "anchor" "[I", .fieldLink RX12 191 "LowEnergyModel" "controls" "[I", .fieldLink RX12 275 "LowEnergyModel" "messages" "[I", .fieldLink RX12 182 "LowEnergyModel" "currentSort" "[I", .fieldLink RX12 185 "LowEnergyModel" "currentMany" "[I", .fieldLink RX12 224 "LowEnergyModel" "held" "[Z", .fieldLink RX12 239 "LowEnergyModel" "isSecure" "[Z", .fieldLink RX12 194 "LowEnergyModel" "out" "[I", .fieldLink RX12 197 "LowEnergyModel" "opened" "[I", .fieldLink RX12 332 "LowEnergyModel" "mtu" "[I", .fieldLink RX12 296 "LowEnergyModel" "step" "[I", .fieldLink RX12 365 "LowEnergyModel" "job" "[I", .fieldLink RX12 338 "LowEnergyModel" "parts" "[I", .fieldLink RX12 88 "LowEnergyModel" "reports" "[I", .fieldLink RX12 91 "LowEnergyModel" "reportMany" "[I", .fieldLink RX12 320 "LowEnergyModel" "attributes" "[I", .fieldLink RX12 158 "LowEnergyModel" "keptMany" "[I", .fieldLink RX12 161 "LowEnergyModel" "notKept" "[I", .fieldLink RX12 130 "LowEnergyModel" "heardAt" "[I", .fieldLink RX12 94 "LowEnergyModel" "lost" "[I", .fieldLink RX12 362 "LowEnergyModel" "waits30" "[Z"] : List Cond) ++ (wsX120 ++ ([])))
theorem hi_M_device_X12 : ∀ x ∈ u_ws RX12 TX12 123, x ∈ wp_M_device := fun _ h => List.mem_cons_of_mem _ (List.mem_append_right _ (List.mem_append_left _ h))
set_option maxRecDepth 100000 in
theorem gd_M_device_M_in_413 : GoodIn wp_M_device (va_wsS RX12 413 yX12_in wp_M_in) := goodIn_app (goodIn_r _ [2, 3, 4] rfl rfl) (goodIn_ca (goodIn_r _ [5] rfl rfl) (goodIn_nil))
set_option maxRecDepth 100000 in
theorem gd_M_device_M_isLinked_662 : GoodIn wp_M_device (wsV RX12 662 RX12 yX12_isLinked wp_M_isLinked) := goodIn_app (goodIn_r _ [6, 7, 8, 4] rfl rfl) (goodIn_ca (goodIn_r _ [9, 10] rfl rfl) (goodIn_app (goodIn_cls hi_M_device_X12 gw_X12) (goodIn_nil)))
set_option maxHeartbeats 4000000 in
set_option maxRecDepth 100000 in
theorem b_M_device {p : Program} {l : Launch} {e : Env} {R : Room} {s : State} {m : MethodId} {args : Array Value} {below : List Frame} {meth : Method} {c : Code} {D : va_G} {K : Nat → ClassId} {A : Nat → Prop} {Q : State → Prop} {τ : Nat → Option Ty} {dom : List Nat} {zb zL : Nat} {zx : Nat → Int32} {zs : Nat → Nat} (hR : 1 ≤ R.frames ∧ 21 ≤ R.locals) (B : Bx p s m args c cX12_device 5 RX12 wp_M_device D (tysA K) A) (Z : Sk τ dom) (hz : ZL zb zL zx zs A s s.heap) (h : Nat) (q : Nat → Nat) (Y : MS τ h q) (x1 : Int) (x2 : Int) (r_x1 : -2147483648 ≤ x1 ∧ x1 ≤ 2147483647) (r_x2 : -2147483648 ≤ x2 ∧ x2 ≤ 2147483647) (σ0 : Nat → va_E) (G0 : GM K h q σ0) (hend : ∀ (σ' : Nat → va_E) (z : Int) (lv : List (Nat × Value)) (pc : Nat), GM K h q σ' → Fr τ [(50, 0)] σ0 σ' → (-2147483648 ≤ z ∧ z ≤ 2147483647) → decode cX12_device pc = .ok (.ireturn, 1) → V p l e R s m args below meth c 5 D A Q (0, 0) (fd dom σ') lv pc [.int (iI z)]) : V p l e R s m args below meth c 5 D A Q (0, 0) (fd dom σ0) [(0, .ref h), (1, .int (iI x1)), (2, .int (iI x2))] 0 [] := by
  have F0 : Fr τ [(50, 0)] σ0 σ0 := Fr.rf
  obtain ⟨z1, z2, z3, z4, z5, h6, r7, r8, r9, r10, r11⟩ := G0.t.o
  refine v_aload_n B dX12_device_0 rfl rfl ?_
  refine v_iconst B (v := iI 0) dX12_device_1 rfl ?_
  refine u_put B Z (C := RX12) (T := TX12) (N := 123) (ci := 12) hi_M_device_X12 Y.o h6 rfl 0 (by decide +kernel) tyX12 tyX12_ok nmX12 (List.mem_of_getElem? (i := 1) rfl) rfl (ty := .int) (tyX12_ok 0 (by decide +kernel)) rfl rfl (Nat.le_of_ble_eq_true rfl) (fs' := fsM q (iI 0) (iI z2) (iI z3) (iI z4) (iI z5)) rfl dX12_device_2 (fun σ12 h13 n14 => ?_)
  have F15 := F0.put Y.o (by simp) n14
  have G16 := G0.putO Y ⟨0, z2, z3, z4, z5, h13, ⟨by omega, by omega⟩, ⟨by omega, by omega⟩, ⟨by omega, by omega⟩, ⟨by omega, by omega⟩, ⟨by omega, by omega⟩⟩ n14
  refine v_iload_n B dX12_device_5 rfl rfl ?_
  refine v_iconst B (v := iI 2) dX12_device_6 rfl ?_
  refine u_callSi B Z hz (n := 2) (As := [.int (iI x1), .int (iI 2)]) (rest := []) (c_M_in l D K Z _ _ _ _ h q Y x1 2 ⟨by omega, by omega⟩ ⟨by omega, by omega⟩ σ12 (G16.t)) gd_M_device_M_in_413 rfl rfl rfl (by decide +kernel) ⟨Nat.le_trans (by decide +kernel) hR.1, Nat.le_trans (by decide +kernel) hR.2⟩ rfl rfl (Nat.le_of_ble_eq_true rfl) dX12_device_7 ⟨Nat.zero_le _, Nat.zero_le _⟩ (fun v19 σ17 p18 => ?_)
  obtain ⟨rfl, z20, e21, r22, po23⟩ := p18
  subst e21
  refine u_if_ne B (tgt := 15) (by omega) dX12_device_10 (by decide +kernel) (fun c24 => ?_) (fun c24 => ?_)
  · refine v_iload_n B dX12_device_15 rfl rfl ?_
    refine v_istore_n B (lv' := [(3, .int (iI x1)), (0, .ref h), (1, .int (iI x1)), (2, .int (iI x2))]) dX12_device_16 rfl (by decide +kernel) rfl ?_
    refine v_aload_n B dX12_device_17 rfl rfl ?_
    refine v_iload_n B dX12_device_18 rfl rfl ?_
    refine u_callVi B Z hz (n := 1) (As := [.int (iI x1)]) (rest := []) (c_M_isLinked l D K Z _ _ _ _ h q Y x1 ⟨by omega, by omega⟩ σ12 (G16.t)) gd_M_device_M_isLinked_662 rfl rfl rfl (by decide +kernel) ⟨Nat.le_trans (by decide +kernel) hR.1, Nat.le_trans (by decide +kernel) hR.2⟩ Y.o (clsM G16.t) rfl rfl rfl rfl (Nat.le_of_ble_eq_true rfl) dX12_device_19 ⟨Nat.zero_le _, Nat.zero_le _⟩ (fun v27 σ25 p26 => ?_)
    obtain ⟨rfl, z28, e29, r30, po31⟩ := p26
    subst e29
    obtain ⟨f32, h33, e34⟩ := ga_7 G16.t
    obtain ⟨z35, e36, r37⟩ := e34 (x1 : Int).toNat
    have r38 : z28 = 1 → 4 ≤ z35 := fun q => ((po31 q).use h33 e36 (by omega)).1
    refine v_istore B (lv' := [(4, .int (iI z28)), (3, .int (iI x1)), (0, .ref h), (1, .int (iI x1)), (2, .int (iI x2))]) dX12_device_22 (by decide +kernel) rfl ?_
    refine v_iload_n B dX12_device_24 rfl rfl ?_
    refine u_tsw B (tgtd := 498) (by omega) dX12_device_25 (by decide +kernel) ?_ ?_ (tswM (by decide +kernel)) (by decide +kernel)
    · intro i39 o40 g41 o42 x43 t44
      match i39, o42, x43 with
      | 0, o42, x43 =>
        replace o42 : o40 = 131 := by simp at o42; omega
        obtain rfl : g41 = 156 := by omega
        refine v_aload_n B dX12_device_156 rfl rfl ?_
        refine u_get B Z (C := RX12) (T := TX12) (N := 123) (ci := 12) hi_M_device_X12 Y.o h13 rfl 7 (by decide +kernel) (List.mem_of_getElem? (i := 10) rfl) rfl dX12_device_157 ?_
        refine v_iload_n B dX12_device_160 rfl rfl ?_
        refine u_iald B Z (t0 := 0) (ym_7 Y) h33 rfl (by omega) e36 dX12_device_161 ?_
        exact hend σ12 z35 _ _ G16 F15 ⟨by omega, by omega⟩ dX12_device_162
      | 1, o42, x43 =>
        replace o42 : o40 = 138 := by simp at o42; omega
        obtain rfl : g41 = 163 := by omega
        refine v_iload B dX12_device_163 rfl ?_
        refine u_if_eq B (tgt := 177) (by omega) dX12_device_165 (by decide +kernel) (fun c45 => ?_) (fun c45 => ?_)
        · refine v_iconst B (v := iI 0) dX12_device_177 rfl ?_
          exact hend σ12 0 _ _ G16 F15 ⟨by omega, by omega⟩ dX12_device_178
        · refine v_aload_n B dX12_device_168 rfl rfl ?_
          refine u_get B Z (C := RX12) (T := TX12) (N := 123) (ci := 12) hi_M_device_X12 Y.o h13 rfl 29 (by decide +kernel) (List.mem_of_getElem? (i := 11) rfl) rfl dX12_device_169 ?_
          refine v_iload_n B dX12_device_172 rfl rfl ?_
          obtain ⟨f46, h47, e48⟩ := ga_29 G16.t
          obtain ⟨z49, e50, r51⟩ := e48 (x1 : Int).toNat
          refine u_iald B Z (t0 := 0) (ym_29 Y) h47 rfl (by omega) e50 dX12_device_173 ?_
          refine v_goto B (tgt := 178) dX12_device_174 (by decide +kernel) ?_
          exact hend σ12 z49 _ _ G16 F15 ⟨by omega, by omega⟩ dX12_device_178
      | 2, o42, x43 =>
        replace o42 : o40 = 154 := by simp at o42; omega
        obtain rfl : g41 = 179 := by omega
        refine v_iload B dX12_device_179 rfl ?_
        refine u_if_eq B (tgt := 193) (by omega) dX12_device_181 (by decide +kernel) (fun c52 => ?_) (fun c52 => ?_)
        · refine v_iconst B (v := iI (-1)) dX12_device_193 rfl ?_
          exact hend σ12 (-1) _ _ G16 F15 ⟨by omega, by omega⟩ dX12_device_194
        · refine v_aload_n B dX12_device_184 rfl rfl ?_
          refine u_get B Z (C := RX12) (T := TX12) (N := 123) (ci := 12) hi_M_device_X12 Y.o h13 rfl 31 (by decide +kernel) (List.mem_of_getElem? (i := 12) rfl) rfl dX12_device_185 ?_
          refine v_iload_n B dX12_device_188 rfl rfl ?_
          obtain ⟨f53, h54, e55⟩ := ga_31 G16.t
          obtain ⟨z56, e57, r58⟩ := e55 (x1 : Int).toNat
          refine u_iald B Z (t0 := 0) (ym_31 Y) h54 rfl (by omega) e57 dX12_device_189 ?_
          refine v_goto B (tgt := 194) dX12_device_190 (by decide +kernel) ?_
          exact hend σ12 z56 _ _ G16 F15 ⟨by omega, by omega⟩ dX12_device_194
      | 3, o42, x43 =>
        replace o42 : o40 = 170 := by simp at o42; omega
        obtain rfl : g41 = 195 := by omega
        refine v_iload B dX12_device_195 rfl ?_
        refine u_if_eq B (tgt := 209) (by omega) dX12_device_197 (by decide +kernel) (fun c59 => ?_) (fun c59 => ?_)
        · refine v_iconst B (v := iI 0) dX12_device_209 rfl ?_
          exact hend σ12 0 _ _ G16 F15 ⟨by omega, by omega⟩ dX12_device_210
        · refine v_aload_n B dX12_device_200 rfl rfl ?_
          refine u_get B Z (C := RX12) (T := TX12) (N := 123) (ci := 12) hi_M_device_X12 Y.o h13 rfl 33 (by decide +kernel) (List.mem_of_getElem? (i := 13) rfl) rfl dX12_device_201 ?_
          refine v_iload_n B dX12_device_204 rfl rfl ?_
          obtain ⟨f60, h61, e62⟩ := ga_33 G16.t
          obtain ⟨z63, e64, r65⟩ := e62 (x1 : Int).toNat
          refine u_iald B Z (t0 := 0) (ym_33 Y) h61 rfl (by omega) e64 dX12_device_205 ?_
          refine v_goto B (tgt := 210) dX12_device_206 (by decide +kernel) ?_
          exact hend σ12 z63 _ _ G16 F15 ⟨by omega, by omega⟩ dX12_device_210
      | 4, o42, x43 =>
        replace o42 : o40 = 186 := by simp at o42; omega
        obtain rfl : g41 = 211 := by omega
        refine v_iload B dX12_device_211 rfl ?_
        refine u_if_eq B (tgt := 225) (by omega) dX12_device_213 (by decide +kernel) (fun c66 => ?_) (fun c66 => ?_)
        · refine v_iconst B (v := iI 0) dX12_device_225 rfl ?_
          exact hend σ12 0 _ _ G16 F15 ⟨by omega, by omega⟩ dX12_device_226
        · refine v_aload_n B dX12_device_216 rfl rfl ?_
          refine u_get B Z (C := RX12) (T := TX12) (N := 123) (ci := 12) hi_M_device_X12 Y.o h13 rfl 34 (by decide +kernel) (List.mem_of_getElem? (i := 14) rfl) rfl dX12_device_217 ?_
          refine v_iload_n B dX12_device_220 rfl rfl ?_
          obtain ⟨f67, h68, e69⟩ := ga_34 G16.t
          obtain ⟨z70, e71, r72⟩ := e69 (x1 : Int).toNat
          refine u_iald B Z (t0 := 0) (ym_34 Y) h68 rfl (by omega) e71 dX12_device_221 ?_
          refine v_goto B (tgt := 226) dX12_device_222 (by decide +kernel) ?_
          exact hend σ12 z70 _ _ G16 F15 ⟨by omega, by omega⟩ dX12_device_226
      | 5, o42, x43 =>
        replace o42 : o40 = 202 := by simp at o42; omega
        obtain rfl : g41 = 227 := by omega
        refine v_iload B dX12_device_227 rfl ?_
        refine u_if_eq B (tgt := 241) (by omega) dX12_device_229 (by decide +kernel) (fun c73 => ?_) (fun c73 => ?_)
        · refine v_iconst B (v := iI 0) dX12_device_241 rfl ?_
          exact hend σ12 0 _ _ G16 F15 ⟨by omega, by omega⟩ dX12_device_242
        · refine v_aload_n B dX12_device_232 rfl rfl ?_
          refine u_get B Z (C := RX12) (T := TX12) (N := 123) (ci := 12) hi_M_device_X12 Y.o h13 rfl 9 (by decide +kernel) (List.mem_of_getElem? (i := 15) rfl) rfl dX12_device_233 ?_
          refine v_iload_n B dX12_device_236 rfl rfl ?_
          obtain ⟨f74, h75, e76⟩ := ga_9 G16.t
          obtain ⟨z77, e78, r79⟩ := e76 (x1 : Int).toNat
          refine u_iald B Z (t0 := 0) (ym_9 Y) h75 rfl (by omega) e78 dX12_device_237 ?_
          refine v_goto B (tgt := 242) dX12_device_238 (by decide +kernel) ?_
          exact hend σ12 z77 _ _ G16 F15 ⟨by omega, by omega⟩ dX12_device_242
      | 6, o42, x43 =>
        replace o42 : o40 = 218 := by simp at o42; omega
        obtain rfl : g41 = 243 := by omega
        refine v_iload B dX12_device_243 rfl ?_
        refine u_if_eq B (tgt := 257) (by omega) dX12_device_245 (by decide +kernel) (fun c80 => ?_) (fun c80 => ?_)
        · refine v_iconst B (v := iI 0) dX12_device_257 rfl ?_
          exact hend σ12 0 _ _ G16 F15 ⟨by omega, by omega⟩ dX12_device_258
        · refine v_aload_n B dX12_device_248 rfl rfl ?_
          refine u_get B Z (C := RX12) (T := TX12) (N := 123) (ci := 12) hi_M_device_X12 Y.o h13 rfl 27 (by decide +kernel) (List.mem_of_getElem? (i := 16) rfl) rfl dX12_device_249 ?_
          refine v_iload_n B dX12_device_252 rfl rfl ?_
          obtain ⟨f81, h82, e83⟩ := ga_27 G16.t
          obtain ⟨z84, e85, r86⟩ := e83 (x1 : Int).toNat
          refine u_iald B Z (t0 := 0) (ym_27 Y) h82 rfl (by omega) e85 dX12_device_253 ?_
          refine v_goto B (tgt := 258) dX12_device_254 (by decide +kernel) ?_
          exact hend σ12 z84 _ _ G16 F15 ⟨by omega, by omega⟩ dX12_device_258
      | 7, o42, x43 =>
        replace o42 : o40 = 234 := by simp at o42; omega
        obtain rfl : g41 = 259 := by omega
        refine v_iload B dX12_device_259 rfl ?_
        refine u_if_eq B (tgt := 273) (by omega) dX12_device_261 (by decide +kernel) (fun c87 => ?_) (fun c87 => ?_)
        · refine v_iconst B (v := iI 0) dX12_device_273 rfl ?_
          exact hend σ12 0 _ _ G16 F15 ⟨by omega, by omega⟩ dX12_device_274
        · refine v_aload_n B dX12_device_264 rfl rfl ?_
          refine u_get B Z (C := RX12) (T := TX12) (N := 123) (ci := 12) hi_M_device_X12 Y.o h13 rfl 26 (by decide +kernel) (List.mem_of_getElem? (i := 17) rfl) rfl dX12_device_265 ?_
          refine v_iload_n B dX12_device_268 rfl rfl ?_
          obtain ⟨f88, h89, e90⟩ := ga_26 G16.t
          obtain ⟨z91, e92, r93⟩ := e90 (x1 : Int).toNat
          refine u_iald B Z (t0 := 0) (ym_26 Y) h89 rfl (by omega) e92 dX12_device_269 ?_
          refine v_goto B (tgt := 274) dX12_device_270 (by decide +kernel) ?_
          exact hend σ12 z91 _ _ G16 F15 ⟨by omega, by omega⟩ dX12_device_274
      | 8, o42, x43 =>
        replace o42 : o40 = 250 := by simp at o42; omega
        obtain rfl : g41 = 275 := by omega
        refine v_iload B dX12_device_275 rfl ?_
        refine u_if_eq B (tgt := 294) (by omega) dX12_device_277 (by decide +kernel) (fun c94 => ?_) (fun c94 => ?_)
        · refine v_aload_n B dX12_device_294 rfl rfl ?_
          refine u_get B Z (C := RX12) (T := TX12) (N := 123) (ci := 12) hi_M_device_X12 Y.o h13 rfl 7 (by decide +kernel) (List.mem_of_getElem? (i := 10) rfl) rfl dX12_device_295 ?_
          refine v_iload_n B dX12_device_298 rfl rfl ?_
          refine u_iald B Z (t0 := 0) (ym_7 Y) h33 rfl (by omega) e36 dX12_device_299 ?_
          refine v_iconst B (v := iI 1) dX12_device_300 rfl ?_
          refine u_icmp_ne B (tgt := 318) (by omega) (by omega) dX12_device_301 (by decide +kernel) (fun c95 => ?_) (fun c95 => ?_)
          · refine v_iconst B (v := iI 0) dX12_device_318 rfl ?_
            exact hend σ12 0 _ _ G16 F15 ⟨by omega, by omega⟩ dX12_device_319
          · refine v_aload_n B dX12_device_304 rfl rfl ?_
            refine u_get B Z (C := RX12) (T := TX12) (N := 123) (ci := 12) hi_M_device_X12 Y.o h13 rfl 10 (by decide +kernel) (List.mem_of_getElem? (i := 18) rfl) rfl dX12_device_305 ?_
            refine v_iload_n B dX12_device_308 rfl rfl ?_
            obtain ⟨f96, h97, e98⟩ := ga_10 G16.t
            obtain ⟨z99, e100, r101⟩ := e98 (x1 : Int).toNat
            refine u_iald B Z (t0 := 0) (ym_10 Y) h97 rfl (by omega) e100 dX12_device_309 ?_
            refine v_aload_n B dX12_device_310 rfl rfl ?_
            refine u_get B Z (C := RX12) (T := TX12) (N := 123) (ci := 12) hi_M_device_X12 Y.o h13 rfl 43 (by decide +kernel) (List.mem_of_getElem? (i := 19) rfl) rfl dX12_device_311 ?_
            obtain ⟨z102, e103, r104⟩ := iI_any (iI z99 - iI z3)
            refine v_isub B (v := iI z102) dX12_device_314 e103 ?_
            refine v_goto B (tgt := 319) dX12_device_315 (by decide +kernel) ?_
            exact hend σ12 z102 _ _ G16 F15 ⟨by omega, by omega⟩ dX12_device_319
        · refine v_aload_n B dX12_device_280 rfl rfl ?_
          refine u_get B Z (C := RX12) (T := TX12) (N := 123) (ci := 12) hi_M_device_X12 Y.o h13 rfl 32 (by decide +kernel) (List.mem_of_getElem? (i := 20) rfl) rfl dX12_device_281 ?_
          refine v_iload_n B dX12_device_284 rfl rfl ?_
          obtain ⟨f105, h106, e107⟩ := ga_32 G16.t
          obtain ⟨z108, e109, r110⟩ := e107 (x1 : Int).toNat
          refine u_iald B Z (t0 := 0) (ym_32 Y) h106 rfl (by omega) e109 dX12_device_285 ?_
          refine v_aload_n B dX12_device_286 rfl rfl ?_
          refine u_get B Z (C := RX12) (T := TX12) (N := 123) (ci := 12) hi_M_device_X12 Y.o h13 rfl 43 (by decide +kernel) (List.mem_of_getElem? (i := 19) rfl) rfl dX12_device_287 ?_
          obtain ⟨z111, e112, r113⟩ := iI_any (iI z108 - iI z3)
          refine v_isub B (v := iI z111) dX12_device_290 e112 ?_
          refine v_goto B (tgt := 319) dX12_device_291 (by decide +kernel) ?_
          exact hend σ12 z111 _ _ G16 F15 ⟨by omega, by omega⟩ dX12_device_319
      | 9, o42, x43 =>
        replace o42 : o40 = 295 := by simp at o42; omega
        obtain rfl : g41 = 320 := by omega
        refine v_aload_n B dX12_device_320 rfl rfl ?_
        refine u_get B Z (C := RX12) (T := TX12) (N := 123) (ci := 12) hi_M_device_X12 Y.o h13 rfl 57 (by decide +kernel) (List.mem_of_getElem? (i := 21) rfl) rfl dX12_device_321 ?_
        refine v_iload_n B dX12_device_324 rfl rfl ?_
        obtain ⟨f114, h115, e116⟩ := ga_57 G16.t
        obtain ⟨z117, e118, r119⟩ := e116 (x1 : Int).toNat
        refine u_iald B Z (t0 := 0) (ym_57 Y) h115 rfl (by omega) e118 dX12_device_325 ?_
        exact hend σ12 z117 _ _ G16 F15 ⟨by omega, by omega⟩ dX12_device_326
      | 10, o42, x43 =>
        replace o42 : o40 = 302 := by simp at o42; omega
        obtain rfl : g41 = 327 := by omega
        refine v_aload_n B dX12_device_327 rfl rfl ?_
        refine u_get B Z (C := RX12) (T := TX12) (N := 123) (ci := 12) hi_M_device_X12 Y.o h13 rfl 85 (by decide +kernel) (List.mem_of_getElem? (i := 22) rfl) rfl dX12_device_328 ?_
        refine v_iload_n B dX12_device_331 rfl rfl ?_
        obtain ⟨f120, h121, e122⟩ := ga_85 G16.t
        obtain ⟨z123, e124, r125⟩ := e122 (x1 : Int).toNat
        refine u_iald B Z (t0 := 0) (ym_85 Y) h121 rfl (by omega) e124 dX12_device_332 ?_
        exact hend σ12 z123 _ _ G16 F15 ⟨by omega, by omega⟩ dX12_device_333
      | 11, o42, x43 =>
        replace o42 : o40 = 309 := by simp at o42; omega
        obtain rfl : g41 = 334 := by omega
        refine v_aload_n B dX12_device_334 rfl rfl ?_
        refine u_get B Z (C := RX12) (T := TX12) (N := 123) (ci := 12) hi_M_device_X12 Y.o h13 rfl 54 (by decide +kernel) (List.mem_of_getElem? (i := 23) rfl) rfl dX12_device_335 ?_
        refine v_iload_n B dX12_device_338 rfl rfl ?_
        obtain ⟨f126, h127, e128⟩ := ga_54 G16.t
        obtain ⟨z129, e130, r131⟩ := e128 (x1 : Int).toNat
        refine u_iald B Z (t0 := 0) (ym_54 Y) h127 rfl (by omega) e130 dX12_device_339 ?_
        exact hend σ12 z129 _ _ G16 F15 ⟨by omega, by omega⟩ dX12_device_340
      | 12, o42, x43 =>
        replace o42 : o40 = 316 := by simp at o42; omega
        obtain rfl : g41 = 341 := by omega
        refine v_aload_n B dX12_device_341 rfl rfl ?_
        refine u_get B Z (C := RX12) (T := TX12) (N := 123) (ci := 12) hi_M_device_X12 Y.o h13 rfl 55 (by decide +kernel) (List.mem_of_getElem? (i := 24) rfl) rfl dX12_device_342 ?_
        refine v_iload_n B dX12_device_345 rfl rfl ?_
        obtain ⟨f132, h133, e134⟩ := ga_55 G16.t
        obtain ⟨z135, e136, r137⟩ := e134 (x1 : Int).toNat
        refine u_iald B Z (t0 := 0) (ym_55 Y) h133 rfl (by omega) e136 dX12_device_346 ?_
        exact hend σ12 z135 _ _ G16 F15 ⟨by omega, by omega⟩ dX12_device_347
      | 13, o42, x43 =>
        replace o42 : o40 = 323 := by simp at o42; omega
        obtain rfl : g41 = 348 := by omega
        refine v_aload_n B dX12_device_348 rfl rfl ?_
        refine u_get B Z (C := RX12) (T := TX12) (N := 123) (ci := 12) hi_M_device_X12 Y.o h13 rfl 68 (by decide +kernel) (List.mem_of_getElem? (i := 25) rfl) rfl dX12_device_349 ?_
        refine v_iload_n B dX12_device_352 rfl rfl ?_
        obtain ⟨f138, h139, e140⟩ := ga_68 G16.t
        obtain ⟨z141, e142, r143⟩ := e140 (x1 : Int).toNat
        refine u_zald B Z (t0 := 3) (ym_68 Y) h139 rfl (by omega) e142 dX12_device_353 ?_
        refine u_if_eq B (tgt := 361) (by omega) dX12_device_354 (by decide +kernel) (fun c144 => ?_) (fun c144 => ?_)
        · refine v_iconst B (v := iI 0) dX12_device_361 rfl ?_
          exact hend σ12 0 _ _ G16 F15 ⟨by omega, by omega⟩ dX12_device_362
        · refine v_iconst B (v := iI 1) dX12_device_357 rfl ?_
          refine v_goto B (tgt := 362) dX12_device_358 (by decide +kernel) ?_
          exact hend σ12 1 _ _ G16 F15 ⟨by omega, by omega⟩ dX12_device_362
      | 14, o42, x43 =>
        replace o42 : o40 = 338 := by simp at o42; omega
        obtain rfl : g41 = 363 := by omega
        refine v_aload_n B dX12_device_363 rfl rfl ?_
        refine u_get B Z (C := RX12) (T := TX12) (N := 123) (ci := 12) hi_M_device_X12 Y.o h13 rfl 73 (by decide +kernel) (List.mem_of_getElem? (i := 26) rfl) rfl dX12_device_364 ?_
        refine v_iload_n B dX12_device_367 rfl rfl ?_
        obtain ⟨f145, h146, e147⟩ := ga_73 G16.t
        obtain ⟨z148, e149, r150⟩ := e147 (x1 : Int).toNat
        refine u_zald B Z (t0 := 3) (ym_73 Y) h146 rfl (by omega) e149 dX12_device_368 ?_
        refine u_if_eq B (tgt := 376) (by omega) dX12_device_369 (by decide +kernel) (fun c151 => ?_) (fun c151 => ?_)
        · refine v_iconst B (v := iI 0) dX12_device_376 rfl ?_
          exact hend σ12 0 _ _ G16 F15 ⟨by omega, by omega⟩ dX12_device_377
        · refine v_iconst B (v := iI 1) dX12_device_372 rfl ?_
          refine v_goto B (tgt := 377) dX12_device_373 (by decide +kernel) ?_
          exact hend σ12 1 _ _ G16 F15 ⟨by omega, by omega⟩ dX12_device_377
      | 15, o42, x43 =>
        replace o42 : o40 = 353 := by simp at o42; omega
        obtain rfl : g41 = 378 := by omega
        refine v_aload_n B dX12_device_378 rfl rfl ?_
        refine u_get B Z (C := RX12) (T := TX12) (N := 123) (ci := 12) hi_M_device_X12 Y.o h13 rfl 58 (by decide +kernel) (List.mem_of_getElem? (i := 27) rfl) rfl dX12_device_379 ?_
        refine v_iload_n B dX12_device_382 rfl rfl ?_
        obtain ⟨f152, h153, e154⟩ := ga_58 G16.t
        obtain ⟨z155, e156, r157⟩ := e154 (x1 : Int).toNat
        refine u_iald B Z (t0 := 0) (ym_58 Y) h153 rfl (by omega) e156 dX12_device_383 ?_
        exact hend σ12 z155 _ _ G16 F15 ⟨by omega, by omega⟩ dX12_device_384
      | 16, o42, x43 =>
        replace o42 : o40 = 360 := by simp at o42; omega
        obtain rfl : g41 = 385 := by omega
        refine v_aload_n B dX12_device_385 rfl rfl ?_
        refine u_get B Z (C := RX12) (T := TX12) (N := 123) (ci := 12) hi_M_device_X12 Y.o h13 rfl 59 (by decide +kernel) (List.mem_of_getElem? (i := 28) rfl) rfl dX12_device_386 ?_
        refine v_iload_n B dX12_device_389 rfl rfl ?_
        obtain ⟨f158, h159, e160⟩ := ga_59 G16.t
        obtain ⟨z161, e162, r163⟩ := e160 (x1 : Int).toNat
        refine u_iald B Z (t0 := 0) (ym_59 Y) h159 rfl (by omega) e162 dX12_device_390 ?_
        exact hend σ12 z161 _ _ G16 F15 ⟨by omega, by omega⟩ dX12_device_391
      | 17, o42, x43 =>
        replace o42 : o40 = 367 := by simp at o42; omega
        obtain rfl : g41 = 392 := by omega
        refine v_aload_n B dX12_device_392 rfl rfl ?_
        refine u_get B Z (C := RX12) (T := TX12) (N := 123) (ci := 12) hi_M_device_X12 Y.o h13 rfl 104 (by decide +kernel) (List.mem_of_getElem? (i := 29) rfl) rfl dX12_device_393 ?_
        refine v_iload_n B dX12_device_396 rfl rfl ?_
        obtain ⟨f164, h165, e166⟩ := ga_104 G16.t
        obtain ⟨z167, e168, r169⟩ := e166 (x1 : Int).toNat
        refine u_iald B Z (t0 := 0) (ym_104 Y) h165 rfl (by omega) e168 dX12_device_397 ?_
        exact hend σ12 z167 _ _ G16 F15 ⟨by omega, by omega⟩ dX12_device_398
      | 18, o42, x43 =>
        replace o42 : o40 = 374 := by simp at o42; omega
        obtain rfl : g41 = 399 := by omega
        refine v_aload_n B dX12_device_399 rfl rfl ?_
        refine u_get B Z (C := RX12) (T := TX12) (N := 123) (ci := 12) hi_M_device_X12 Y.o h13 rfl 92 (by decide +kernel) (List.mem_of_getElem? (i := 30) rfl) rfl dX12_device_400 ?_
        refine v_iload_n B dX12_device_403 rfl rfl ?_
        obtain ⟨f170, h171, e172⟩ := ga_92 G16.t
        obtain ⟨z173, e174, r175⟩ := e172 (x1 : Int).toNat
        refine u_iald B Z (t0 := 0) (ym_92 Y) h171 rfl (by omega) e174 dX12_device_404 ?_
        exact hend σ12 z173 _ _ G16 F15 ⟨by omega, by omega⟩ dX12_device_405
      | 19, o42, x43 =>
        replace o42 : o40 = 381 := by simp at o42; omega
        obtain rfl : g41 = 406 := by omega
        refine v_aload_n B dX12_device_406 rfl rfl ?_
        refine u_get B Z (C := RX12) (T := TX12) (N := 123) (ci := 12) hi_M_device_X12 Y.o h13 rfl 116 (by decide +kernel) (List.mem_of_getElem? (i := 31) rfl) rfl dX12_device_407 ?_
        refine v_iload_n B dX12_device_410 rfl rfl ?_
        obtain ⟨f176, h177, e178⟩ := ga_116 G16.t
        obtain ⟨z179, e180, r181⟩ := e178 (x1 : Int).toNat
        refine u_iald B Z (t0 := 0) (ym_116 Y) h177 rfl (by omega) e180 dX12_device_411 ?_
        exact hend σ12 z179 _ _ G16 F15 ⟨by omega, by omega⟩ dX12_device_412
      | 20, o42, x43 =>
        replace o42 : o40 = 388 := by simp at o42; omega
        obtain rfl : g41 = 413 := by omega
        refine v_aload_n B dX12_device_413 rfl rfl ?_
        refine u_get B Z (C := RX12) (T := TX12) (N := 123) (ci := 12) hi_M_device_X12 Y.o h13 rfl 106 (by decide +kernel) (List.mem_of_getElem? (i := 32) rfl) rfl dX12_device_414 ?_
        refine v_iload_n B dX12_device_417 rfl rfl ?_
        obtain ⟨f182, h183, e184⟩ := ga_106 G16.t
        obtain ⟨z185, e186, r187⟩ := e184 (x1 : Int).toNat
        refine u_iald B Z (t0 := 0) (ym_106 Y) h183 rfl (by omega) e186 dX12_device_418 ?_
        exact hend σ12 z185 _ _ G16 F15 ⟨by omega, by omega⟩ dX12_device_419
      | 21, o42, x43 =>
        replace o42 : o40 = 395 := by simp at o42; omega
        obtain rfl : g41 = 420 := by omega
        refine v_aload_n B dX12_device_420 rfl rfl ?_
        refine u_get B Z (C := RX12) (T := TX12) (N := 123) (ci := 12) hi_M_device_X12 Y.o h13 rfl 21 (by decide +kernel) (List.mem_of_getElem? (i := 33) rfl) rfl dX12_device_421 ?_
        refine v_iload_n B dX12_device_424 rfl rfl ?_
        obtain ⟨f188, h189, e190⟩ := ga_21 G16.t
        obtain ⟨z191, e192, r193⟩ := e190 (x1 : Int).toNat
        refine u_iald B Z (t0 := 0) (ym_21 Y) h189 rfl (by omega) e192 dX12_device_425 ?_
        exact hend σ12 z191 _ _ G16 F15 ⟨by omega, by omega⟩ dX12_device_426
      | 22, o42, x43 =>
        replace o42 : o40 = 402 := by simp at o42; omega
        obtain rfl : g41 = 427 := by omega
        refine v_aload_n B dX12_device_427 rfl rfl ?_
        refine u_get B Z (C := RX12) (T := TX12) (N := 123) (ci := 12) hi_M_device_X12 Y.o h13 rfl 22 (by decide +kernel) (List.mem_of_getElem? (i := 34) rfl) rfl dX12_device_428 ?_
        refine v_iload_n B dX12_device_431 rfl rfl ?_
        obtain ⟨f194, h195, e196⟩ := ga_22 G16.t
        obtain ⟨z197, e198, r199⟩ := e196 (x1 : Int).toNat
        refine u_iald B Z (t0 := 0) (ym_22 Y) h195 rfl (by omega) e198 dX12_device_432 ?_
        exact hend σ12 z197 _ _ G16 F15 ⟨by omega, by omega⟩ dX12_device_433
      | 23, o42, x43 =>
        replace o42 : o40 = 409 := by simp at o42; omega
        obtain rfl : g41 = 434 := by omega
        refine v_aload_n B dX12_device_434 rfl rfl ?_
        refine u_get B Z (C := RX12) (T := TX12) (N := 123) (ci := 12) hi_M_device_X12 Y.o h13 rfl 100 (by decide +kernel) (List.mem_of_getElem? (i := 35) rfl) rfl dX12_device_435 ?_
        refine v_iload_n B dX12_device_438 rfl rfl ?_
        obtain ⟨f200, h201, e202⟩ := ga_100 G16.t
        obtain ⟨z203, e204, r205⟩ := e202 (x1 : Int).toNat
        refine u_iald B Z (t0 := 0) (ym_100 Y) h201 rfl (by omega) e204 dX12_device_439 ?_
        exact hend σ12 z203 _ _ G16 F15 ⟨by omega, by omega⟩ dX12_device_440
      | 24, o42, x43 =>
        replace o42 : o40 = 416 := by simp at o42; omega
        obtain rfl : g41 = 441 := by omega
        refine v_aload_n B dX12_device_441 rfl rfl ?_
        refine u_get B Z (C := RX12) (T := TX12) (N := 123) (ci := 12) hi_M_device_X12 Y.o h13 rfl 45 (by decide +kernel) (List.mem_of_getElem? (i := 36) rfl) rfl dX12_device_442 ?_
        refine v_iload_n B dX12_device_445 rfl rfl ?_
        obtain ⟨f206, h207, e208⟩ := ga_45 G16.t
        obtain ⟨z209, e210, r211⟩ := e208 (x1 : Int).toNat
        refine u_iald B Z (t0 := 0) (ym_45 Y) h207 rfl (by omega) e210 dX12_device_446 ?_
        exact hend σ12 z209 _ _ G16 F15 ⟨by omega, by omega⟩ dX12_device_447
      | 25, o42, x43 =>
        replace o42 : o40 = 423 := by simp at o42; omega
        obtain rfl : g41 = 448 := by omega
        refine v_aload_n B dX12_device_448 rfl rfl ?_
        refine u_get B Z (C := RX12) (T := TX12) (N := 123) (ci := 12) hi_M_device_X12 Y.o h13 rfl 46 (by decide +kernel) (List.mem_of_getElem? (i := 37) rfl) rfl dX12_device_449 ?_
        refine v_iload_n B dX12_device_452 rfl rfl ?_
        obtain ⟨f212, h213, e214⟩ := ga_46 G16.t
        obtain ⟨z215, e216, r217⟩ := e214 (x1 : Int).toNat
        refine u_iald B Z (t0 := 0) (ym_46 Y) h213 rfl (by omega) e216 dX12_device_453 ?_
        exact hend σ12 z215 _ _ G16 F15 ⟨by omega, by omega⟩ dX12_device_454
      | 26, o42, x43 =>
        replace o42 : o40 = 430 := by simp at o42; omega
        obtain rfl : g41 = 455 := by omega
        refine v_iload B dX12_device_455 rfl ?_
        refine u_if_eq B (tgt := 474) (by omega) dX12_device_457 (by decide +kernel) (fun c218 => ?_) (fun c218 => ?_)
        · refine v_iconst B (v := iI 0) dX12_device_474 rfl ?_
          exact hend σ12 0 _ _ G16 F15 ⟨by omega, by omega⟩ dX12_device_475
        · refine v_aload_n B dX12_device_460 rfl rfl ?_
          refine u_get B Z (C := RX12) (T := TX12) (N := 123) (ci := 12) hi_M_device_X12 Y.o h13 rfl 43 (by decide +kernel) (List.mem_of_getElem? (i := 19) rfl) rfl dX12_device_461 ?_
          refine v_aload_n B dX12_device_464 rfl rfl ?_
          refine u_get B Z (C := RX12) (T := TX12) (N := 123) (ci := 12) hi_M_device_X12 Y.o h13 rfl 35 (by decide +kernel) (List.mem_of_getElem? (i := 38) rfl) rfl dX12_device_465 ?_
          refine v_iload_n B dX12_device_468 rfl rfl ?_
          obtain ⟨f219, h220, e221⟩ := ga_35 G16.t
          obtain ⟨z222, e223, r224⟩ := e221 (x1 : Int).toNat
          refine u_iald B Z (t0 := 0) (ym_35 Y) h220 rfl (by omega) e223 dX12_device_469 ?_
          obtain ⟨z225, e226, r227⟩ := iI_any (iI z3 - iI z222)
          refine v_isub B (v := iI z225) dX12_device_470 e226 ?_
          refine v_goto B (tgt := 475) dX12_device_471 (by decide +kernel) ?_
          exact hend σ12 z225 _ _ G16 F15 ⟨by omega, by omega⟩ dX12_device_475
      | 27, o42, x43 =>
        replace o42 : o40 = 451 := by simp at o42; omega
        obtain rfl : g41 = 476 := by omega
        refine v_aload_n B dX12_device_476 rfl rfl ?_
        refine u_get B Z (C := RX12) (T := TX12) (N := 123) (ci := 12) hi_M_device_X12 Y.o h13 rfl 23 (by decide +kernel) (List.mem_of_getElem? (i := 39) rfl) rfl dX12_device_477 ?_
        refine v_iload_n B dX12_device_480 rfl rfl ?_
        obtain ⟨f228, h229, e230⟩ := ga_23 G16.t
        obtain ⟨z231, e232, r233⟩ := e230 (x1 : Int).toNat
        refine u_iald B Z (t0 := 0) (ym_23 Y) h229 rfl (by omega) e232 dX12_device_481 ?_
        exact hend σ12 z231 _ _ G16 F15 ⟨by omega, by omega⟩ dX12_device_482
      | 28, o42, x43 =>
        replace o42 : o40 = 458 := by simp at o42; omega
        obtain rfl : g41 = 483 := by omega
        refine v_aload_n B dX12_device_483 rfl rfl ?_
        refine u_get B Z (C := RX12) (T := TX12) (N := 123) (ci := 12) hi_M_device_X12 Y.o h13 rfl 114 (by decide +kernel) (List.mem_of_getElem? (i := 40) rfl) rfl dX12_device_484 ?_
        refine v_iload_n B dX12_device_487 rfl rfl ?_
        obtain ⟨f234, h235, e236⟩ := ga_114 G16.t
        obtain ⟨z237, e238, r239⟩ := e236 (x1 : Int).toNat
        refine u_zald B Z (t0 := 3) (ym_114 Y) h235 rfl (by omega) e238 dX12_device_488 ?_
        refine u_if_eq B (tgt := 496) (by omega) dX12_device_489 (by decide +kernel) (fun c240 => ?_) (fun c240 => ?_)
        · refine v_iconst B (v := iI 0) dX12_device_496 rfl ?_
          exact hend σ12 0 _ _ G16 F15 ⟨by omega, by omega⟩ dX12_device_497
        · refine v_iconst B (v := iI 1) dX12_device_492 rfl ?_
          refine v_goto B (tgt := 497) dX12_device_493 (by decide +kernel) ?_
          exact hend σ12 1 _ _ G16 F15 ⟨by omega, by omega⟩ dX12_device_497
      | i39 + 29, o42, x43 => exact absurd (o42.symm.trans (Array.getElem?_eq_none (by simp))) (by simp)
    · intro x43
      refine v_iconst B (v := iI (-1)) dX12_device_498 rfl ?_
      exact hend σ12 (-1) _ _ G16 F15 ⟨by omega, by omega⟩ dX12_device_499
  · refine v_iconst B (v := iI (-1)) dX12_device_13 rfl ?_
    exact hend σ12 (-1) _ _ G16 F15 ⟨by omega, by omega⟩ dX12_device_14
set_option maxRecDepth 100000 in
theorem c_M_device (l : Launch) (D : va_G) (K : Nat → ClassId) {τ : Nat → Option Ty} {dom : List Nat} (Z : Sk τ dom) (zb zL : Nat) (zx : Nat → Int32) (zs : Nat → Nat) (h : Nat) (q : Nat → Nat) (Y : MS τ h q) (x1 : Int) (x2 : Int) (r_x1 : -2147483648 ≤ x1 ∧ x1 ≤ 2147483647) (r_x2 : -2147483648 ≤ x2 ∧ x2 ≤ 2147483647) (σ0 : Nat → va_E) (G0 : GM K h q σ0) : MZ l yX12_device wp_M_device ({ frames := 1, cells := 0, slots := 0, locals := 21 }) D (tysA K) [.ref h, .int (iI x1), .int (iI x2)] (fd dom σ0) zb zL zx zs (Qi D (fun r σ' => GM K h q σ' ∧ Fr τ [(50, 0)] σ0 σ' ∧ ∃ z : Int, r = iI z ∧ (-2147483648 ≤ z ∧ z ≤ 2147483647)) (fun σ' => fd dom σ')) 0 0 := by
  refine mz_of (cc := cX12_device) (maxL := 5) (ret := (some .int)) (by decide +kernel) rfl (Nat.le_of_ble_eq_true rfl) ?_
  intro p e s m below meth c A B hr hlk _ hz
  exact b_M_device ⟨Nat.le_refl _, Nat.le_refl _⟩ B Z hz h q Y x1 x2 r_x1 r_x2 σ0 G0 (fun σ' z lv pc G F hZ hd => v_iret B hr hlk σ' ⟨G, F, z, rfl, hZ⟩ rfl (Nat.le_refl _) (Nat.le_refl _) hd)

def wp_M_number : List Cond := .code yX12_number__ cX12_number__ 3 (some .long) :: (([.fieldLink RX12 1 "LowEnergyModel" "thrown" "I", .methodLink RX12 413 yX12_in, .static yX12_in, .initialized RX12, .code yX12_in cX12_in 2 (some .boolean), .methodLink RX12 662 yX12_isLinked, .instanceMethod yX12_isLinked, .selects RX12 yX12_isLinked yX12_isLinked, .code yX12_isLinked cX12_isLinked 2 (some .boolean), .fieldLink RX12 45 "LowEnergyModel" "state" "[I", .fieldLink RX12 70 "LowEnergyModel" "map" "[J", .fieldLink RX12 79 "LowEnergyModel" "reported" "[J", .fieldLink RX12 60 "LowEnergyModel" "address" "[J", .constantLong RX12 681 (-1)] : List Cond) ++ (wsX120 ++ ([])))
theorem hi_M_number_X12 : ∀ x ∈ u_ws RX12 TX12 123, x ∈ wp_M_number := fun _ h => List.mem_cons_of_mem _ (List.mem_append_right _ (List.mem_append_left _ h))
set_option maxRecDepth 100000 in
theorem gd_M_number_M_in_413 : GoodIn wp_M_number (va_wsS RX12 413 yX12_in wp_M_in) := goodIn_app (goodIn_r _ [2, 3, 4] rfl rfl) (goodIn_ca (goodIn_r _ [5] rfl rfl) (goodIn_nil))
set_option maxRecDepth 100000 in
theorem gd_M_number_M_isLinked_662 : GoodIn wp_M_number (wsV RX12 662 RX12 yX12_isLinked wp_M_isLinked) := goodIn_app (goodIn_r _ [6, 7, 8, 4] rfl rfl) (goodIn_ca (goodIn_r _ [9, 10] rfl rfl) (goodIn_app (goodIn_cls hi_M_number_X12 gw_X12) (goodIn_nil)))
set_option maxHeartbeats 4000000 in
set_option maxRecDepth 100000 in
theorem b_M_number {p : Program} {l : Launch} {e : Env} {R : Room} {s : State} {m : MethodId} {args : Array Value} {below : List Frame} {meth : Method} {c : Code} {D : va_G} {K : Nat → ClassId} {A : Nat → Prop} {Q : State → Prop} {τ : Nat → Option Ty} {dom : List Nat} {zb zL : Nat} {zx : Nat → Int32} {zs : Nat → Nat} (hR : 1 ≤ R.frames ∧ 21 ≤ R.locals) (B : Bx p s m args c cX12_number__ 3 RX12 wp_M_number D (tysA K) A) (Z : Sk τ dom) (hz : ZL zb zL zx zs A s s.heap) (h : Nat) (q : Nat → Nat) (Y : MS τ h q) (x1 : Int) (x2 : Int) (r_x1 : -2147483648 ≤ x1 ∧ x1 ≤ 2147483647) (r_x2 : -2147483648 ≤ x2 ∧ x2 ≤ 2147483647) (σ0 : Nat → va_E) (G0 : GM K h q σ0) (hend : ∀ (σ' : Nat → va_E) (z : Int) (lv : List (Nat × Value)) (pc : Nat), GM K h q σ' → Fr τ [(50, 0)] σ0 σ' → (-9223372036854775808 ≤ z ∧ z ≤ 9223372036854775807) → decode cX12_number__ pc = .ok (.lreturn, 1) → V p l e R s m args below meth c 3 D A Q (0, 0) (fd dom σ') lv pc [.long (lI z)]) : V p l e R s m args below meth c 3 D A Q (0, 0) (fd dom σ0) [(0, .ref h), (1, .int (iI x1)), (2, .int (iI x2))] 0 [] := by
  have F0 : Fr τ [(50, 0)] σ0 σ0 := Fr.rf
  obtain ⟨z1, z2, z3, z4, z5, h6, r7, r8, r9, r10, r11⟩ := G0.t.o
  refine v_aload_n B dX12_number___0 rfl rfl ?_
  refine v_iconst B (v := iI 0) dX12_number___1 rfl ?_
  refine u_put B Z (C := RX12) (T := TX12) (N := 123) (ci := 12) hi_M_number_X12 Y.o h6 rfl 0 (by decide +kernel) tyX12 tyX12_ok nmX12 (List.mem_of_getElem? (i := 1) rfl) rfl (ty := .int) (tyX12_ok 0 (by decide +kernel)) rfl rfl (Nat.le_of_ble_eq_true rfl) (fs' := fsM q (iI 0) (iI z2) (iI z3) (iI z4) (iI z5)) rfl dX12_number___2 (fun σ12 h13 n14 => ?_)
  have F15 := F0.put Y.o (by simp) n14
  have G16 := G0.putO Y ⟨0, z2, z3, z4, z5, h13, ⟨by omega, by omega⟩, ⟨by omega, by omega⟩, ⟨by omega, by omega⟩, ⟨by omega, by omega⟩, ⟨by omega, by omega⟩⟩ n14
  refine v_iload_n B dX12_number___5 rfl rfl ?_
  refine v_iconst B (v := iI 2) dX12_number___6 rfl ?_
  refine u_callSi B Z hz (n := 2) (As := [.int (iI x1), .int (iI 2)]) (rest := []) (c_M_in l D K Z _ _ _ _ h q Y x1 2 ⟨by omega, by omega⟩ ⟨by omega, by omega⟩ σ12 (G16.t)) gd_M_number_M_in_413 rfl rfl rfl (by decide +kernel) ⟨Nat.le_trans (by decide +kernel) hR.1, Nat.le_trans (by decide +kernel) hR.2⟩ rfl rfl (Nat.le_of_ble_eq_true rfl) dX12_number___7 ⟨Nat.zero_le _, Nat.zero_le _⟩ (fun v19 σ17 p18 => ?_)
  obtain ⟨rfl, z20, e21, r22, po23⟩ := p18
  subst e21
  refine u_if_ne B (tgt := 17) (by omega) dX12_number___10 (by decide +kernel) (fun c24 => ?_) (fun c24 => ?_)
  · refine v_iload_n B dX12_number___17 rfl rfl ?_
    refine u_tsw B (tgtd := 77) (by omega) dX12_number___18 (by decide +kernel) ?_ ?_ (tswM (by decide +kernel)) (by decide +kernel)
    · intro i25 o26 g27 o28 x29 t30
      match i25, o28, x29 with
      | 0, o28, x29 =>
        replace o28 : o26 = 26 := by simp at o28; omega
        obtain rfl : g27 = 44 := by omega
        refine v_aload_n B dX12_number___44 rfl rfl ?_
        refine v_iload_n B dX12_number___45 rfl rfl ?_
        refine u_callVi B Z hz (n := 1) (As := [.int (iI x1)]) (rest := []) (c_M_isLinked l D K Z _ _ _ _ h q Y x1 ⟨by omega, by omega⟩ σ12 (G16.t)) gd_M_number_M_isLinked_662 rfl rfl rfl (by decide +kernel) ⟨Nat.le_trans (by decide +kernel) hR.1, Nat.le_trans (by decide +kernel) hR.2⟩ Y.o (clsM G16.t) rfl rfl rfl rfl (Nat.le_of_ble_eq_true rfl) dX12_number___46 ⟨Nat.zero_le _, Nat.zero_le _⟩ (fun v33 σ31 p32 => ?_)
        obtain ⟨rfl, z34, e35, r36, po37⟩ := p32
        subst e35
        obtain ⟨f38, h39, e40⟩ := ga_7 G16.t
        obtain ⟨z41, e42, r43⟩ := e40 (x1 : Int).toNat
        have r44 : z34 = 1 → 4 ≤ z41 := fun q => ((po37 q).use h39 e42 (by omega)).1
        refine u_if_eq B (tgt := 61) (by omega) dX12_number___49 (by decide +kernel) (fun c45 => ?_) (fun c45 => ?_)
        · refine v_lconst B (v := lI 0) dX12_number___61 (by decide +kernel) ?_
          exact hend σ12 0 _ _ G16 F15 ⟨by omega, by omega⟩ dX12_number___62
        · refine v_aload_n B dX12_number___52 rfl rfl ?_
          refine u_get B Z (C := RX12) (T := TX12) (N := 123) (ci := 12) hi_M_number_X12 Y.o h13 rfl 15 (by decide +kernel) (List.mem_of_getElem? (i := 11) rfl) rfl dX12_number___53 ?_
          refine v_iload_n B dX12_number___56 rfl rfl ?_
          obtain ⟨f46, h47⟩ := ga_15 G16.t
          obtain ⟨yy49, e50, r51⟩ := lI_any (f46 (x1 : Int).toNat)
          refine u_lald B Z (t0 := 1) (ym_15 Y) h47 rfl (by omega) e50 dX12_number___57 ?_
          refine v_goto B (tgt := 62) dX12_number___58 (by decide +kernel) ?_
          exact hend σ12 yy49 _ _ G16 F15 ⟨by omega, by omega⟩ dX12_number___62
      | 1, o28, x29 =>
        replace o28 : o26 = 45 := by simp at o28; omega
        obtain rfl : g27 = 63 := by omega
        refine v_aload_n B dX12_number___63 rfl rfl ?_
        refine u_get B Z (C := RX12) (T := TX12) (N := 123) (ci := 12) hi_M_number_X12 Y.o h13 rfl 18 (by decide +kernel) (List.mem_of_getElem? (i := 12) rfl) rfl dX12_number___64 ?_
        refine v_iload_n B dX12_number___67 rfl rfl ?_
        obtain ⟨f52, h53⟩ := ga_18 G16.t
        obtain ⟨yy55, e56, r57⟩ := lI_any (f52 (x1 : Int).toNat)
        refine u_lald B Z (t0 := 1) (ym_18 Y) h53 rfl (by omega) e56 dX12_number___68 ?_
        exact hend σ12 yy55 _ _ G16 F15 ⟨by omega, by omega⟩ dX12_number___69
      | 2, o28, x29 =>
        replace o28 : o26 = 52 := by simp at o28; omega
        obtain rfl : g27 = 70 := by omega
        refine v_aload_n B dX12_number___70 rfl rfl ?_
        refine u_get B Z (C := RX12) (T := TX12) (N := 123) (ci := 12) hi_M_number_X12 Y.o h13 rfl 12 (by decide +kernel) (List.mem_of_getElem? (i := 13) rfl) rfl dX12_number___71 ?_
        refine v_iload_n B dX12_number___74 rfl rfl ?_
        obtain ⟨f58, h59⟩ := ga_12 G16.t
        obtain ⟨yy61, e62, r63⟩ := lI_any (f58 (x1 : Int).toNat)
        refine u_lald B Z (t0 := 1) (ym_12 Y) h59 rfl (by omega) e62 dX12_number___75 ?_
        exact hend σ12 yy61 _ _ G16 F15 ⟨by omega, by omega⟩ dX12_number___76
      | i25 + 3, o28, x29 => exact absurd (o28.symm.trans (Array.getElem?_eq_none (by simp))) (by simp)
    · intro x29
      refine v_ldc2 B (v := lI (-1)) (u_cl (List.mem_of_getElem? (i := 14) rfl) (by decide +kernel)) dX12_number___77 ?_
      exact hend σ12 (-1) _ _ G16 F15 ⟨by omega, by omega⟩ dX12_number___80
  · refine v_ldc2 B (v := lI (-1)) (u_cl (List.mem_of_getElem? (i := 14) rfl) (by decide +kernel)) dX12_number___13 ?_
    exact hend σ12 (-1) _ _ G16 F15 ⟨by omega, by omega⟩ dX12_number___16
set_option maxRecDepth 100000 in
theorem c_M_number (l : Launch) (D : va_G) (K : Nat → ClassId) {τ : Nat → Option Ty} {dom : List Nat} (Z : Sk τ dom) (zb zL : Nat) (zx : Nat → Int32) (zs : Nat → Nat) (h : Nat) (q : Nat → Nat) (Y : MS τ h q) (x1 : Int) (x2 : Int) (r_x1 : -2147483648 ≤ x1 ∧ x1 ≤ 2147483647) (r_x2 : -2147483648 ≤ x2 ∧ x2 ≤ 2147483647) (σ0 : Nat → va_E) (G0 : GM K h q σ0) : MZ l yX12_number__ wp_M_number ({ frames := 1, cells := 0, slots := 0, locals := 21 }) D (tysA K) [.ref h, .int (iI x1), .int (iI x2)] (fd dom σ0) zb zL zx zs (Ql D (fun r σ' => GM K h q σ' ∧ Fr τ [(50, 0)] σ0 σ' ∧ ∃ z : Int, r = lI z ∧ (-9223372036854775808 ≤ z ∧ z ≤ 9223372036854775807)) (fun σ' => fd dom σ')) 0 0 := by
  refine mz_of (cc := cX12_number__) (maxL := 3) (ret := (some .long)) (by decide +kernel) rfl (Nat.le_of_ble_eq_true rfl) ?_
  intro p e s m below meth c A B hr hlk _ hz
  exact b_M_number ⟨Nat.le_refl _, Nat.le_refl _⟩ B Z hz h q Y x1 x2 r_x1 r_x2 σ0 G0 (fun σ' z lv pc G F hZ hd => v_lret B hr hlk σ' ⟨G, F, z, rfl, hZ⟩ rfl (Nat.le_refl _) (Nat.le_refl _) hd)

def wp_M_byteOf : List Cond := .code yX12_byteOf cX12_byteOf 4 (some .int) :: (([.fieldLink RX12 1 "LowEnergyModel" "thrown" "I", .methodLink RX12 413 yX12_in, .static yX12_in, .initialized RX12, .code yX12_in cX12_in 2 (some .boolean), .fieldLink RX12 91 "LowEnergyModel" "reportMany" "[I", .fieldLink RX12 85 "LowEnergyModel" "reportData" "[B", .fieldLink RX12 245 "LowEnergyModel" "hasKey" "[Z", .fieldLink RX12 206 "LowEnergyModel" "key" "[B", .fieldLink RX12 242 "LowEnergyModel" "hasSession" "[Z", .fieldLink RX12 209 "LowEnergyModel" "session" "[B", .fieldLink RX12 212 "LowEnergyModel" "iv" "[B", .fieldLink RX12 7 "LowEnergyModel" "taped" "I", .fieldLink RX12 10 "LowEnergyModel" "tape" "[B"] : List Cond) ++ (wsX120 ++ ([])))
theorem hi_M_byteOf_X12 : ∀ x ∈ u_ws RX12 TX12 123, x ∈ wp_M_byteOf := fun _ h => List.mem_cons_of_mem _ (List.mem_append_right _ (List.mem_append_left _ h))
set_option maxRecDepth 100000 in
theorem gd_M_byteOf_M_in_413 : GoodIn wp_M_byteOf (va_wsS RX12 413 yX12_in wp_M_in) := goodIn_app (goodIn_r _ [2, 3, 4] rfl rfl) (goodIn_ca (goodIn_r _ [5] rfl rfl) (goodIn_nil))
set_option maxHeartbeats 4000000 in
set_option maxRecDepth 100000 in
theorem b_M_byteOf {p : Program} {l : Launch} {e : Env} {R : Room} {s : State} {m : MethodId} {args : Array Value} {below : List Frame} {meth : Method} {c : Code} {D : va_G} {K : Nat → ClassId} {A : Nat → Prop} {Q : State → Prop} {τ : Nat → Option Ty} {dom : List Nat} {zb zL : Nat} {zx : Nat → Int32} {zs : Nat → Nat} (hR : 1 ≤ R.frames ∧ 21 ≤ R.locals) (B : Bx p s m args c cX12_byteOf 4 RX12 wp_M_byteOf D (tysA K) A) (Z : Sk τ dom) (hz : ZL zb zL zx zs A s s.heap) (h : Nat) (q : Nat → Nat) (Y : MS τ h q) (x1 : Int) (x2 : Int) (x3 : Int) (r_x1 : -2147483648 ≤ x1 ∧ x1 ≤ 2147483647) (r_x2 : -2147483648 ≤ x2 ∧ x2 ≤ 2147483647) (r_x3 : -2147483648 ≤ x3 ∧ x3 ≤ 2147483647) (σ0 : Nat → va_E) (G0 : GM K h q σ0) (hend : ∀ (σ' : Nat → va_E) (z : Int) (lv : List (Nat × Value)) (pc : Nat), GM K h q σ' → Fr τ [(50, 0)] σ0 σ' → (-1 ≤ z ∧ z ≤ 255) → decode cX12_byteOf pc = .ok (.ireturn, 1) → V p l e R s m args below meth c 4 D A Q (0, 0) (fd dom σ') lv pc [.int (iI z)]) : V p l e R s m args below meth c 4 D A Q (0, 0) (fd dom σ0) [(0, .ref h), (1, .int (iI x1)), (2, .int (iI x2)), (3, .int (iI x3))] 0 [] := by
  have F0 : Fr τ [(50, 0)] σ0 σ0 := Fr.rf
  obtain ⟨z1, z2, z3, z4, z5, h6, r7, r8, r9, r10, r11⟩ := G0.t.o
  refine v_aload_n B dX12_byteOf_0 rfl rfl ?_
  refine v_iconst B (v := iI 0) dX12_byteOf_1 rfl ?_
  refine u_put B Z (C := RX12) (T := TX12) (N := 123) (ci := 12) hi_M_byteOf_X12 Y.o h6 rfl 0 (by decide +kernel) tyX12 tyX12_ok nmX12 (List.mem_of_getElem? (i := 1) rfl) rfl (ty := .int) (tyX12_ok 0 (by decide +kernel)) rfl rfl (Nat.le_of_ble_eq_true rfl) (fs' := fsM q (iI 0) (iI z2) (iI z3) (iI z4) (iI z5)) rfl dX12_byteOf_2 (fun σ12 h13 n14 => ?_)
  have F15 := F0.put Y.o (by simp) n14
  have G16 := G0.putO Y ⟨0, z2, z3, z4, z5, h13, ⟨by omega, by omega⟩, ⟨by omega, by omega⟩, ⟨by omega, by omega⟩, ⟨by omega, by omega⟩, ⟨by omega, by omega⟩⟩ n14
  refine v_iload_n B dX12_byteOf_5 rfl rfl ?_
  refine v_iconst B (v := iI 2) dX12_byteOf_6 rfl ?_
  refine u_callSi B Z hz (n := 2) (As := [.int (iI x1), .int (iI 2)]) (rest := []) (c_M_in l D K Z _ _ _ _ h q Y x1 2 ⟨by omega, by omega⟩ ⟨by omega, by omega⟩ σ12 (G16.t)) gd_M_byteOf_M_in_413 rfl rfl rfl (by decide +kernel) ⟨Nat.le_trans (by decide +kernel) hR.1, Nat.le_trans (by decide +kernel) hR.2⟩ rfl rfl (Nat.le_of_ble_eq_true rfl) dX12_byteOf_7 ⟨Nat.zero_le _, Nat.zero_le _⟩ (fun v19 σ17 p18 => ?_)
  obtain ⟨rfl, z20, e21, r22, po23⟩ := p18
  subst e21
  refine u_if_eq B (tgt := 17) (by omega) dX12_byteOf_10 (by decide +kernel) (fun c24 => ?_) (fun c24 => ?_)
  · refine v_iconst B (v := iI (-1)) dX12_byteOf_17 rfl ?_
    exact hend σ12 (-1) _ _ G16 F15 ⟨by omega, by omega⟩ dX12_byteOf_18
  · refine v_iload_n B dX12_byteOf_13 rfl rfl ?_
    refine u_if_ge B (tgt := 19) (by omega) dX12_byteOf_14 (by decide +kernel) (fun c25 => ?_) (fun c25 => ?_)
    · refine v_iload_n B dX12_byteOf_19 rfl rfl ?_
      refine v_iconst B (v := iI 4) dX12_byteOf_20 rfl ?_
      refine u_icmp_ne B (tgt := 47) (by omega) (by omega) dX12_byteOf_21 (by decide +kernel) (fun c26 => ?_) (fun c26 => ?_)
      · refine v_iload_n B dX12_byteOf_47 rfl rfl ?_
        refine u_tsw B (tgtd := 215) (by omega) dX12_byteOf_48 (by decide +kernel) ?_ ?_ (tswM (by decide +kernel)) (by decide +kernel)
        · intro i27 o28 g29 o30 x31 t32
          match i27, o30, x31 with
          | 0, o30, x31 =>
            replace o30 : o28 = 32 := by simp at o30; omega
            obtain rfl : g29 = 80 := by omega
            refine v_iload_n B dX12_byteOf_80 rfl rfl ?_
            refine v_aload_n B dX12_byteOf_81 rfl rfl ?_
            refine u_get B Z (C := RX12) (T := TX12) (N := 123) (ci := 12) hi_M_byteOf_X12 Y.o h13 rfl 22 (by decide +kernel) (List.mem_of_getElem? (i := 6) rfl) rfl dX12_byteOf_82 ?_
            refine v_iload_n B dX12_byteOf_85 rfl rfl ?_
            obtain ⟨f33, h34, e35⟩ := ga_22 G16.t
            obtain ⟨z36, e37, r38⟩ := e35 (x1 : Int).toNat
            refine u_iald B Z (t0 := 0) (ym_22 Y) h34 rfl (by omega) e37 dX12_byteOf_86 ?_
            refine u_icmp_ge B (tgt := 108) (by omega) (by omega) dX12_byteOf_87 (by decide +kernel) (fun c39 => ?_) (fun c39 => ?_)
            · refine v_iconst B (v := iI (-1)) dX12_byteOf_108 rfl ?_
              exact hend σ12 (-1) _ _ G16 F15 ⟨by omega, by omega⟩ dX12_byteOf_109
            · refine v_aload_n B dX12_byteOf_90 rfl rfl ?_
              refine u_get B Z (C := RX12) (T := TX12) (N := 123) (ci := 12) hi_M_byteOf_X12 Y.o h13 rfl 20 (by decide +kernel) (List.mem_of_getElem? (i := 7) rfl) rfl dX12_byteOf_91 ?_
              refine v_bipush B (v := iI 32) dX12_byteOf_94 (by decide +kernel) ?_
              refine v_iload_n B dX12_byteOf_96 rfl rfl ?_
              refine v_imul B (v := iI (32 * x1)) dX12_byteOf_97 ((iI_mul _ _).trans (congrArg iI (by omega))) ?_
              refine v_iload_n B dX12_byteOf_98 rfl rfl ?_
              refine v_iadd B (v := iI (32 * x1 + x3)) dX12_byteOf_99 ((iI_add _ _).trans (congrArg iI (by omega))) ?_
              obtain ⟨f40, h41, e42⟩ := ga_20 G16.t
              obtain ⟨z43, e44, r45⟩ := e42 ((32 * x1 + x3) : Int).toNat
              refine u_bald B Z (t0 := 2) (ym_20 Y) h41 rfl (by omega) e44 dX12_byteOf_100 ?_
              refine v_sipush B (v := iI 255) dX12_byteOf_101 (by decide +kernel) ?_
              obtain ⟨z46, e47, r48⟩ := iI_and z43 (c := 255) (by decide) (by decide)
              refine v_iand B (v := iI z46) dX12_byteOf_104 e47 ?_
              refine v_goto B (tgt := 109) dX12_byteOf_105 (by decide +kernel) ?_
              exact hend σ12 z46 _ _ G16 F15 ⟨by omega, by omega⟩ dX12_byteOf_109
          | 1, o30, x31 =>
            replace o30 : o28 = 62 := by simp at o30; omega
            obtain rfl : g29 = 110 := by omega
            refine v_iload_n B dX12_byteOf_110 rfl rfl ?_
            refine v_bipush B (v := iI 16) dX12_byteOf_111 (by decide +kernel) ?_
            refine u_icmp_ge B (tgt := 143) (by omega) (by omega) dX12_byteOf_113 (by decide +kernel) (fun c49 => ?_) (fun c49 => ?_)
            · refine v_iconst B (v := iI (-1)) dX12_byteOf_143 rfl ?_
              exact hend σ12 (-1) _ _ G16 F15 ⟨by omega, by omega⟩ dX12_byteOf_144
            · refine v_aload_n B dX12_byteOf_116 rfl rfl ?_
              refine u_get B Z (C := RX12) (T := TX12) (N := 123) (ci := 12) hi_M_byteOf_X12 Y.o h13 rfl 75 (by decide +kernel) (List.mem_of_getElem? (i := 8) rfl) rfl dX12_byteOf_117 ?_
              refine v_iload_n B dX12_byteOf_120 rfl rfl ?_
              obtain ⟨f50, h51, e52⟩ := ga_75 G16.t
              obtain ⟨z53, e54, r55⟩ := e52 (x1 : Int).toNat
              refine u_zald B Z (t0 := 3) (ym_75 Y) h51 rfl (by omega) e54 dX12_byteOf_121 ?_
              refine u_if_eq B (tgt := 143) (by omega) dX12_byteOf_122 (by decide +kernel) (fun c56 => ?_) (fun c56 => ?_)
              · refine v_iconst B (v := iI (-1)) dX12_byteOf_143 rfl ?_
                exact hend σ12 (-1) _ _ G16 F15 ⟨by omega, by omega⟩ dX12_byteOf_144
              · refine v_aload_n B dX12_byteOf_125 rfl rfl ?_
                refine u_get B Z (C := RX12) (T := TX12) (N := 123) (ci := 12) hi_M_byteOf_X12 Y.o h13 rfl 62 (by decide +kernel) (List.mem_of_getElem? (i := 9) rfl) rfl dX12_byteOf_126 ?_
                refine v_bipush B (v := iI 16) dX12_byteOf_129 (by decide +kernel) ?_
                refine v_iload_n B dX12_byteOf_131 rfl rfl ?_
                refine v_imul B (v := iI (16 * x1)) dX12_byteOf_132 ((iI_mul _ _).trans (congrArg iI (by omega))) ?_
                refine v_iload_n B dX12_byteOf_133 rfl rfl ?_
                refine v_iadd B (v := iI (16 * x1 + x3)) dX12_byteOf_134 ((iI_add _ _).trans (congrArg iI (by omega))) ?_
                obtain ⟨f57, h58, e59⟩ := ga_62 G16.t
                obtain ⟨z60, e61, r62⟩ := e59 ((16 * x1 + x3) : Int).toNat
                refine u_bald B Z (t0 := 2) (ym_62 Y) h58 rfl (by omega) e61 dX12_byteOf_135 ?_
                refine v_sipush B (v := iI 255) dX12_byteOf_136 (by decide +kernel) ?_
                obtain ⟨z63, e64, r65⟩ := iI_and z60 (c := 255) (by decide) (by decide)
                refine v_iand B (v := iI z63) dX12_byteOf_139 e64 ?_
                refine v_goto B (tgt := 144) dX12_byteOf_140 (by decide +kernel) ?_
                exact hend σ12 z63 _ _ G16 F15 ⟨by omega, by omega⟩ dX12_byteOf_144
          | 2, o30, x31 =>
            replace o30 : o28 = 97 := by simp at o30; omega
            obtain rfl : g29 = 145 := by omega
            refine v_iload_n B dX12_byteOf_145 rfl rfl ?_
            refine v_bipush B (v := iI 16) dX12_byteOf_146 (by decide +kernel) ?_
            refine u_icmp_ge B (tgt := 178) (by omega) (by omega) dX12_byteOf_148 (by decide +kernel) (fun c66 => ?_) (fun c66 => ?_)
            · refine v_iconst B (v := iI (-1)) dX12_byteOf_178 rfl ?_
              exact hend σ12 (-1) _ _ G16 F15 ⟨by omega, by omega⟩ dX12_byteOf_179
            · refine v_aload_n B dX12_byteOf_151 rfl rfl ?_
              refine u_get B Z (C := RX12) (T := TX12) (N := 123) (ci := 12) hi_M_byteOf_X12 Y.o h13 rfl 74 (by decide +kernel) (List.mem_of_getElem? (i := 10) rfl) rfl dX12_byteOf_152 ?_
              refine v_iload_n B dX12_byteOf_155 rfl rfl ?_
              obtain ⟨f67, h68, e69⟩ := ga_74 G16.t
              obtain ⟨z70, e71, r72⟩ := e69 (x1 : Int).toNat
              refine u_zald B Z (t0 := 3) (ym_74 Y) h68 rfl (by omega) e71 dX12_byteOf_156 ?_
              refine u_if_eq B (tgt := 178) (by omega) dX12_byteOf_157 (by decide +kernel) (fun c73 => ?_) (fun c73 => ?_)
              · refine v_iconst B (v := iI (-1)) dX12_byteOf_178 rfl ?_
                exact hend σ12 (-1) _ _ G16 F15 ⟨by omega, by omega⟩ dX12_byteOf_179
              · refine v_aload_n B dX12_byteOf_160 rfl rfl ?_
                refine u_get B Z (C := RX12) (T := TX12) (N := 123) (ci := 12) hi_M_byteOf_X12 Y.o h13 rfl 63 (by decide +kernel) (List.mem_of_getElem? (i := 11) rfl) rfl dX12_byteOf_161 ?_
                refine v_bipush B (v := iI 16) dX12_byteOf_164 (by decide +kernel) ?_
                refine v_iload_n B dX12_byteOf_166 rfl rfl ?_
                refine v_imul B (v := iI (16 * x1)) dX12_byteOf_167 ((iI_mul _ _).trans (congrArg iI (by omega))) ?_
                refine v_iload_n B dX12_byteOf_168 rfl rfl ?_
                refine v_iadd B (v := iI (16 * x1 + x3)) dX12_byteOf_169 ((iI_add _ _).trans (congrArg iI (by omega))) ?_
                obtain ⟨f74, h75, e76⟩ := ga_63 G16.t
                obtain ⟨z77, e78, r79⟩ := e76 ((16 * x1 + x3) : Int).toNat
                refine u_bald B Z (t0 := 2) (ym_63 Y) h75 rfl (by omega) e78 dX12_byteOf_170 ?_
                refine v_sipush B (v := iI 255) dX12_byteOf_171 (by decide +kernel) ?_
                obtain ⟨z80, e81, r82⟩ := iI_and z77 (c := 255) (by decide) (by decide)
                refine v_iand B (v := iI z80) dX12_byteOf_174 e81 ?_
                refine v_goto B (tgt := 179) dX12_byteOf_175 (by decide +kernel) ?_
                exact hend σ12 z80 _ _ G16 F15 ⟨by omega, by omega⟩ dX12_byteOf_179
          | 3, o30, x31 =>
            replace o30 : o28 = 132 := by simp at o30; omega
            obtain rfl : g29 = 180 := by omega
            refine v_iload_n B dX12_byteOf_180 rfl rfl ?_
            refine v_bipush B (v := iI 8) dX12_byteOf_181 (by decide +kernel) ?_
            refine u_icmp_ge B (tgt := 213) (by omega) (by omega) dX12_byteOf_183 (by decide +kernel) (fun c83 => ?_) (fun c83 => ?_)
            · refine v_iconst B (v := iI (-1)) dX12_byteOf_213 rfl ?_
              exact hend σ12 (-1) _ _ G16 F15 ⟨by omega, by omega⟩ dX12_byteOf_214
            · refine v_aload_n B dX12_byteOf_186 rfl rfl ?_
              refine u_get B Z (C := RX12) (T := TX12) (N := 123) (ci := 12) hi_M_byteOf_X12 Y.o h13 rfl 74 (by decide +kernel) (List.mem_of_getElem? (i := 10) rfl) rfl dX12_byteOf_187 ?_
              refine v_iload_n B dX12_byteOf_190 rfl rfl ?_
              obtain ⟨f84, h85, e86⟩ := ga_74 G16.t
              obtain ⟨z87, e88, r89⟩ := e86 (x1 : Int).toNat
              refine u_zald B Z (t0 := 3) (ym_74 Y) h85 rfl (by omega) e88 dX12_byteOf_191 ?_
              refine u_if_eq B (tgt := 213) (by omega) dX12_byteOf_192 (by decide +kernel) (fun c90 => ?_) (fun c90 => ?_)
              · refine v_iconst B (v := iI (-1)) dX12_byteOf_213 rfl ?_
                exact hend σ12 (-1) _ _ G16 F15 ⟨by omega, by omega⟩ dX12_byteOf_214
              · refine v_aload_n B dX12_byteOf_195 rfl rfl ?_
                refine u_get B Z (C := RX12) (T := TX12) (N := 123) (ci := 12) hi_M_byteOf_X12 Y.o h13 rfl 64 (by decide +kernel) (List.mem_of_getElem? (i := 12) rfl) rfl dX12_byteOf_196 ?_
                refine v_bipush B (v := iI 8) dX12_byteOf_199 (by decide +kernel) ?_
                refine v_iload_n B dX12_byteOf_201 rfl rfl ?_
                refine v_imul B (v := iI (8 * x1)) dX12_byteOf_202 ((iI_mul _ _).trans (congrArg iI (by omega))) ?_
                refine v_iload_n B dX12_byteOf_203 rfl rfl ?_
                refine v_iadd B (v := iI (8 * x1 + x3)) dX12_byteOf_204 ((iI_add _ _).trans (congrArg iI (by omega))) ?_
                obtain ⟨f91, h92, e93⟩ := ga_64 G16.t
                obtain ⟨z94, e95, r96⟩ := e93 ((8 * x1 + x3) : Int).toNat
                refine u_bald B Z (t0 := 2) (ym_64 Y) h92 rfl (by omega) e95 dX12_byteOf_205 ?_
                refine v_sipush B (v := iI 255) dX12_byteOf_206 (by decide +kernel) ?_
                obtain ⟨z97, e98, r99⟩ := iI_and z94 (c := 255) (by decide) (by decide)
                refine v_iand B (v := iI z97) dX12_byteOf_209 e98 ?_
                refine v_goto B (tgt := 214) dX12_byteOf_210 (by decide +kernel) ?_
                exact hend σ12 z97 _ _ G16 F15 ⟨by omega, by omega⟩ dX12_byteOf_214
          | i27 + 4, o30, x31 => exact absurd (o30.symm.trans (Array.getElem?_eq_none (by simp))) (by simp)
        · intro x31
          refine v_iconst B (v := iI (-1)) dX12_byteOf_215 rfl ?_
          exact hend σ12 (-1) _ _ G16 F15 ⟨by omega, by omega⟩ dX12_byteOf_216
      · refine v_iload_n B dX12_byteOf_24 rfl rfl ?_
        refine v_aload_n B dX12_byteOf_25 rfl rfl ?_
        refine u_get B Z (C := RX12) (T := TX12) (N := 123) (ci := 12) hi_M_byteOf_X12 Y.o h13 rfl 2 (by decide +kernel) (List.mem_of_getElem? (i := 13) rfl) rfl dX12_byteOf_26 ?_
        refine u_icmp_ge B (tgt := 45) (by omega) (by omega) dX12_byteOf_29 (by decide +kernel) (fun c100 => ?_) (fun c100 => ?_)
        · refine v_iconst B (v := iI (-1)) dX12_byteOf_45 rfl ?_
          exact hend σ12 (-1) _ _ G16 F15 ⟨by omega, by omega⟩ dX12_byteOf_46
        · refine v_aload_n B dX12_byteOf_32 rfl rfl ?_
          refine u_get B Z (C := RX12) (T := TX12) (N := 123) (ci := 12) hi_M_byteOf_X12 Y.o h13 rfl 1 (by decide +kernel) (List.mem_of_getElem? (i := 14) rfl) rfl dX12_byteOf_33 ?_
          refine v_iload_n B dX12_byteOf_36 rfl rfl ?_
          obtain ⟨f101, h102, e103⟩ := ga_1 G16.t
          obtain ⟨z104, e105, r106⟩ := e103 (x3 : Int).toNat
          refine u_bald B Z (t0 := 2) (ym_1 Y) h102 rfl (by omega) e105 dX12_byteOf_37 ?_
          refine v_sipush B (v := iI 255) dX12_byteOf_38 (by decide +kernel) ?_
          obtain ⟨z107, e108, r109⟩ := iI_and z104 (c := 255) (by decide) (by decide)
          refine v_iand B (v := iI z107) dX12_byteOf_41 e108 ?_
          refine v_goto B (tgt := 46) dX12_byteOf_42 (by decide +kernel) ?_
          exact hend σ12 z107 _ _ G16 F15 ⟨by omega, by omega⟩ dX12_byteOf_46
    · refine v_iconst B (v := iI (-1)) dX12_byteOf_17 rfl ?_
      exact hend σ12 (-1) _ _ G16 F15 ⟨by omega, by omega⟩ dX12_byteOf_18
set_option maxRecDepth 100000 in
theorem c_M_byteOf (l : Launch) (D : va_G) (K : Nat → ClassId) {τ : Nat → Option Ty} {dom : List Nat} (Z : Sk τ dom) (zb zL : Nat) (zx : Nat → Int32) (zs : Nat → Nat) (h : Nat) (q : Nat → Nat) (Y : MS τ h q) (x1 : Int) (x2 : Int) (x3 : Int) (r_x1 : -2147483648 ≤ x1 ∧ x1 ≤ 2147483647) (r_x2 : -2147483648 ≤ x2 ∧ x2 ≤ 2147483647) (r_x3 : -2147483648 ≤ x3 ∧ x3 ≤ 2147483647) (σ0 : Nat → va_E) (G0 : GM K h q σ0) : MZ l yX12_byteOf wp_M_byteOf ({ frames := 1, cells := 0, slots := 0, locals := 21 }) D (tysA K) [.ref h, .int (iI x1), .int (iI x2), .int (iI x3)] (fd dom σ0) zb zL zx zs (Qi D (fun r σ' => GM K h q σ' ∧ Fr τ [(50, 0)] σ0 σ' ∧ ∃ z : Int, r = iI z ∧ (-1 ≤ z ∧ z ≤ 255)) (fun σ' => fd dom σ')) 0 0 := by
  refine mz_of (cc := cX12_byteOf) (maxL := 4) (ret := (some .int)) (by decide +kernel) rfl (Nat.le_of_ble_eq_true rfl) ?_
  intro p e s m below meth c A B hr hlk _ hz
  exact b_M_byteOf ⟨Nat.le_refl _, Nat.le_refl _⟩ B Z hz h q Y x1 x2 x3 r_x1 r_x2 r_x3 σ0 G0 (fun σ' z lv pc G F hZ hd => v_iret B hr hlk σ' ⟨G, F, z, rfl, hZ⟩ rfl (Nat.le_refl _) (Nat.le_refl _) hd)

def wp_M_mayControl : List Cond := .code yX12_mayControl cX12_mayControl 2 (some .boolean) :: (([.methodLink RX12 413 yX12_in, .static yX12_in, .initialized RX12, .code yX12_in cX12_in 2 (some .boolean), .methodLink RX12 662 yX12_isLinked, .instanceMethod yX12_isLinked, .selects RX12 yX12_isLinked yX12_isLinked, .code yX12_isLinked cX12_isLinked 2 (some .boolean), .fieldLink RX12 45 "LowEnergyModel" "state" "[I", .fieldLink RX12 191 "LowEnergyModel" "controls" "[I", .fieldLink RX12 224 "LowEnergyModel" "held" "[Z"] : List Cond) ++ (wsX120 ++ ([])))
theorem hi_M_mayControl_X12 : ∀ x ∈ u_ws RX12 TX12 123, x ∈ wp_M_mayControl := fun _ h => List.mem_cons_of_mem _ (List.mem_append_right _ (List.mem_append_left _ h))
set_option maxRecDepth 100000 in
theorem gd_M_mayControl_M_in_413 : GoodIn wp_M_mayControl (va_wsS RX12 413 yX12_in wp_M_in) := goodIn_app (goodIn_r _ [1, 2, 3] rfl rfl) (goodIn_ca (goodIn_r _ [4] rfl rfl) (goodIn_nil))
set_option maxRecDepth 100000 in
theorem gd_M_mayControl_M_isLinked_662 : GoodIn wp_M_mayControl (wsV RX12 662 RX12 yX12_isLinked wp_M_isLinked) := goodIn_app (goodIn_r _ [5, 6, 7, 3] rfl rfl) (goodIn_ca (goodIn_r _ [8, 9] rfl rfl) (goodIn_app (goodIn_cls hi_M_mayControl_X12 gw_X12) (goodIn_nil)))
set_option maxHeartbeats 4000000 in
set_option maxRecDepth 100000 in
theorem b_M_mayControl {p : Program} {l : Launch} {e : Env} {R : Room} {s : State} {m : MethodId} {args : Array Value} {below : List Frame} {meth : Method} {c : Code} {D : va_G} {K : Nat → ClassId} {A : Nat → Prop} {Q : State → Prop} {τ : Nat → Option Ty} {dom : List Nat} {zb zL : Nat} {zx : Nat → Int32} {zs : Nat → Nat} (hR : 1 ≤ R.frames ∧ 21 ≤ R.locals) (B : Bx p s m args c cX12_mayControl 2 RX12 wp_M_mayControl D (tysA K) A) (Z : Sk τ dom) (hz : ZL zb zL zx zs A s s.heap) (h : Nat) (q : Nat → Nat) (Y : MS τ h q) (x1 : Int) (r_x1 : -2147483648 ≤ x1 ∧ x1 ≤ 2147483647) (σ0 : Nat → va_E) (G0 : GT K h q σ0) (hend : ∀ (z : Int) (lv : List (Nat × Value)) (pc : Nat), (0 ≤ z ∧ z ≤ 1) → (z = 1 → 0 ≤ x1 ∧ x1 ≤ 1 ∧ At σ0 (q 57) (x1 : Int).toNat (0) (4)) → decode cX12_mayControl pc = .ok (.ireturn, 1) → V p l e R s m args below meth c 2 D A Q (0, 0) (fd dom σ0) lv pc [.int (iI z)]) : V p l e R s m args below meth c 2 D A Q (0, 0) (fd dom σ0) [(0, .ref h), (1, .int (iI x1))] 0 [] := by
  obtain ⟨z1, z2, z3, z4, z5, h6, r7, r8, r9, r10, r11⟩ := G0.o
  refine v_iload_n B dX12_mayControl_0 rfl rfl ?_
  refine v_iconst B (v := iI 2) dX12_mayControl_1 rfl ?_
  refine u_callSi B Z hz (n := 2) (As := [.int (iI x1), .int (iI 2)]) (rest := []) (c_M_in l D K Z _ _ _ _ h q Y x1 2 ⟨by omega, by omega⟩ ⟨by omega, by omega⟩ σ0 (G0)) gd_M_mayControl_M_in_413 rfl rfl rfl (by decide +kernel) ⟨Nat.le_trans (by decide +kernel) hR.1, Nat.le_trans (by decide +kernel) hR.2⟩ rfl rfl (Nat.le_of_ble_eq_true rfl) dX12_mayControl_2 ⟨Nat.zero_le _, Nat.zero_le _⟩ (fun v14 σ12 p13 => ?_)
  obtain ⟨rfl, z15, e16, r17, po18⟩ := p13
  subst e16
  refine u_if_eq B (tgt := 39) (by omega) dX12_mayControl_5 (by decide +kernel) (fun c19 => ?_) (fun c19 => ?_)
  · refine v_iconst B (v := iI 0) dX12_mayControl_39 rfl ?_
    exact hend 0 _ _ ⟨by omega, by omega⟩ (fun q => by omega) dX12_mayControl_40
  · refine v_aload_n B dX12_mayControl_8 rfl rfl ?_
    refine v_iload_n B dX12_mayControl_9 rfl rfl ?_
    refine u_callVi B Z hz (n := 1) (As := [.int (iI x1)]) (rest := []) (c_M_isLinked l D K Z _ _ _ _ h q Y x1 ⟨by omega, by omega⟩ σ0 (G0)) gd_M_mayControl_M_isLinked_662 rfl rfl rfl (by decide +kernel) ⟨Nat.le_trans (by decide +kernel) hR.1, Nat.le_trans (by decide +kernel) hR.2⟩ Y.o (clsM G0) rfl rfl rfl rfl (Nat.le_of_ble_eq_true rfl) dX12_mayControl_10 ⟨Nat.zero_le _, Nat.zero_le _⟩ (fun v22 σ20 p21 => ?_)
    obtain ⟨rfl, z23, e24, r25, po26⟩ := p21
    subst e24
    obtain ⟨f27, h28, e29⟩ := ga_7 G0
    obtain ⟨z30, e31, r32⟩ := e29 (x1 : Int).toNat
    have r33 : z23 = 1 → 4 ≤ z30 := fun q => ((po26 q).use h28 e31 (by omega)).1
    refine u_if_eq B (tgt := 39) (by omega) dX12_mayControl_13 (by decide +kernel) (fun c34 => ?_) (fun c34 => ?_)
    · refine v_iconst B (v := iI 0) dX12_mayControl_39 rfl ?_
      exact hend 0 _ _ ⟨by omega, by omega⟩ (fun q => by omega) dX12_mayControl_40
    · refine v_aload_n B dX12_mayControl_16 rfl rfl ?_
      refine u_get B Z (C := RX12) (T := TX12) (N := 123) (ci := 12) hi_M_mayControl_X12 Y.o h6 rfl 57 (by decide +kernel) (List.mem_of_getElem? (i := 10) rfl) rfl dX12_mayControl_17 ?_
      refine v_iload_n B dX12_mayControl_20 rfl rfl ?_
      obtain ⟨f35, h36, e37⟩ := ga_57 G0
      obtain ⟨z38, e39, r40⟩ := e37 (x1 : Int).toNat
      refine u_iald B Z (t0 := 0) (ym_57 Y) h36 rfl (by omega) e39 dX12_mayControl_21 ?_
      refine v_iconst B (v := iI 4) dX12_mayControl_22 rfl ?_
      refine u_icmp_gt B (tgt := 39) (by omega) (by omega) dX12_mayControl_23 (by decide +kernel) (fun c41 => ?_) (fun c41 => ?_)
      · refine v_iconst B (v := iI 0) dX12_mayControl_39 rfl ?_
        exact hend 0 _ _ ⟨by omega, by omega⟩ (fun q => by omega) dX12_mayControl_40
      · refine v_aload_n B dX12_mayControl_26 rfl rfl ?_
        refine u_get B Z (C := RX12) (T := TX12) (N := 123) (ci := 12) hi_M_mayControl_X12 Y.o h6 rfl 68 (by decide +kernel) (List.mem_of_getElem? (i := 11) rfl) rfl dX12_mayControl_27 ?_
        refine v_iload_n B dX12_mayControl_30 rfl rfl ?_
        obtain ⟨f42, h43, e44⟩ := ga_68 G0
        obtain ⟨z45, e46, r47⟩ := e44 (x1 : Int).toNat
        refine u_zald B Z (t0 := 3) (ym_68 Y) h43 rfl (by omega) e46 dX12_mayControl_31 ?_
        refine u_if_ne B (tgt := 39) (by omega) dX12_mayControl_32 (by decide +kernel) (fun c48 => ?_) (fun c48 => ?_)
        · refine v_iconst B (v := iI 0) dX12_mayControl_39 rfl ?_
          exact hend 0 _ _ ⟨by omega, by omega⟩ (fun q => by omega) dX12_mayControl_40
        · refine v_iconst B (v := iI 1) dX12_mayControl_35 rfl ?_
          refine v_goto B (tgt := 40) dX12_mayControl_36 (by decide +kernel) ?_
          exact hend 1 _ _ ⟨by omega, by omega⟩ (fun _ => ⟨by omega, by omega, (At.mk h36 e39 (by omega) ⟨by omega, by omega⟩)⟩) dX12_mayControl_40
set_option maxRecDepth 100000 in
theorem c_M_mayControl (l : Launch) (D : va_G) (K : Nat → ClassId) {τ : Nat → Option Ty} {dom : List Nat} (Z : Sk τ dom) (zb zL : Nat) (zx : Nat → Int32) (zs : Nat → Nat) (h : Nat) (q : Nat → Nat) (Y : MS τ h q) (x1 : Int) (r_x1 : -2147483648 ≤ x1 ∧ x1 ≤ 2147483647) (σ0 : Nat → va_E) (G0 : GT K h q σ0) : MZ l yX12_mayControl wp_M_mayControl ({ frames := 1, cells := 0, slots := 0, locals := 21 }) D (tysA K) [.ref h, .int (iI x1)] (fd dom σ0) zb zL zx zs (Qi D (fun r σ' => σ0 = σ' ∧ ∃ z : Int, r = iI z ∧ (0 ≤ z ∧ z ≤ 1) ∧ (z = 1 → 0 ≤ x1 ∧ x1 ≤ 1 ∧ At σ0 (q 57) (x1 : Int).toNat (0) (4))) (fun σ' => fd dom σ')) 0 0 := by
  refine mz_of (cc := cX12_mayControl) (maxL := 2) (ret := (some .boolean)) (by decide +kernel) rfl (Nat.le_of_ble_eq_true rfl) ?_
  intro p e s m below meth c A B hr hlk _ hz
  exact b_M_mayControl ⟨Nat.le_refl _, Nat.le_refl _⟩ B Z hz h q Y x1 r_x1 σ0 G0 (fun z lv pc hZ hP hd => v_zret B hr hlk (nar01 (by omega)) σ0 ⟨rfl, z, rfl, hZ, hP⟩ rfl (Nat.le_refl _) (Nat.le_refl _) hd)

def wp_M_control : List Cond := .code yX12_control cX12_control 3 (some .boolean) :: (([.methodLink RX12 486 yX12_adds_, .instanceMethod yX12_adds_, .selects RX12 yX12_adds_ yX12_adds_, .initialized RX12, .code yX12_adds_ cX12_adds_ 5 none, .fieldLink RX12 260 "LowEnergyModel" "pdu" "[B", .methodLink RX12 432 yX12_number, .static yX12_number, .code yX12_number cX12_number 6 none, .methodLink RX12 436 yX12_adds, .instanceMethod yX12_adds, .selects RX12 yX12_adds yX12_adds, .code yX12_adds cX12_adds 5 none, .fieldLink RX12 191 "LowEnergyModel" "controls" "[I", .fieldLink RX12 203 "LowEnergyModel" "control" "[B", .methodLink RX12 29 yX12_copy, .static yX12_copy, .code yX12_copy cX12_copy 6 none, .fieldLink RX12 221 "LowEnergyModel" "controlMany" "[I", .fieldLink RX12 76 "LowEnergyModel" "features" "[J", .methodLink RX12 507 yX12_version, .instanceMethod yX12_version, .selects RX12 yX12_version yX12_version, .code yX12_version cX12_version 2 none, .fieldLink RX12 248 "LowEnergyModel" "toldVersion" "[Z", .constantLong RX12 510 (258), .fieldLink RX12 1 "LowEnergyModel" "thrown" "I", .methodLink RX12 683 yX12_mayControl, .instanceMethod yX12_mayControl, .selects RX12 yX12_mayControl yX12_mayControl, .code yX12_mayControl cX12_mayControl 2 (some .boolean), .methodLink RX12 413 yX12_in, .static yX12_in, .code yX12_in cX12_in 2 (some .boolean), .methodLink RX12 662 yX12_isLinked, .instanceMethod yX12_isLinked, .selects RX12 yX12_isLinked yX12_isLinked, .code yX12_isLinked cX12_isLinked 2 (some .boolean), .fieldLink RX12 45 "LowEnergyModel" "state" "[I", .fieldLink RX12 224 "LowEnergyModel" "held" "[Z"] : List Cond) ++ (wsX120 ++ ([])))
theorem hi_M_control_X12 : ∀ x ∈ u_ws RX12 TX12 123, x ∈ wp_M_control := fun _ h => List.mem_cons_of_mem _ (List.mem_append_right _ (List.mem_append_left _ h))
set_option maxRecDepth 100000 in
theorem gd_M_control_M_adds4_486 : GoodIn wp_M_control (wsV RX12 486 RX12 yX12_adds_ wp_M_adds4) := goodIn_app (goodIn_r _ [1, 2, 3, 4] rfl rfl) (goodIn_ca (goodIn_r _ [5, 6, 7, 8, 4, 9, 10, 11, 12, 13, 14, 15, 16, 17, 18, 19] rfl rfl) (goodIn_app (goodIn_cls hi_M_control_X12 gw_X12) (goodIn_nil)))
set_option maxRecDepth 100000 in
theorem gd_M_control_M_numberP_432 : GoodIn wp_M_control (va_wsS RX12 432 yX12_number wp_M_numberP) := goodIn_app (goodIn_r _ [7, 8, 4] rfl rfl) (goodIn_ca (goodIn_r _ [9] rfl rfl) (goodIn_nil))
set_option maxRecDepth 100000 in
theorem gd_M_control_M_adds_436 : GoodIn wp_M_control (wsV RX12 436 RX12 yX12_adds wp_M_adds) := goodIn_app (goodIn_r _ [10, 11, 12, 4] rfl rfl) (goodIn_ca (goodIn_r _ [13, 14, 15, 16, 17, 4, 18, 19] rfl rfl) (goodIn_app (goodIn_cls hi_M_control_X12 gw_X12) (goodIn_nil)))
set_option maxRecDepth 100000 in
theorem gd_M_control_M_version_507 : GoodIn wp_M_control (wsV RX12 507 RX12 yX12_version wp_M_version) := goodIn_app (goodIn_r _ [21, 22, 23, 4] rfl rfl) (goodIn_ca (goodIn_r _ [24, 25, 6, 7, 8, 4, 9, 26, 10, 11, 12, 13, 14, 15, 16, 17, 18, 19] rfl rfl) (goodIn_app (goodIn_cls hi_M_control_X12 gw_X12) (goodIn_nil)))
set_option maxRecDepth 100000 in
theorem gd_M_control_M_mayControl_683 : GoodIn wp_M_control (wsV RX12 683 RX12 yX12_mayControl wp_M_mayControl) := goodIn_app (goodIn_r _ [28, 29, 30, 4] rfl rfl) (goodIn_ca (goodIn_r _ [31, 32, 33, 4, 34, 35, 36, 37, 38, 39, 14, 40] rfl rfl) (goodIn_app (goodIn_cls hi_M_control_X12 gw_X12) (goodIn_nil)))
set_option maxRecDepth 100000 in
theorem gd_M_control_M_in_413 : GoodIn wp_M_control (va_wsS RX12 413 yX12_in wp_M_in) := goodIn_app (goodIn_r _ [32, 33, 4] rfl rfl) (goodIn_ca (goodIn_r _ [34] rfl rfl) (goodIn_nil))
set_option maxHeartbeats 4000000 in
set_option maxRecDepth 100000 in
theorem b_M_control {p : Program} {l : Launch} {e : Env} {R : Room} {s : State} {m : MethodId} {args : Array Value} {below : List Frame} {meth : Method} {c : Code} {D : va_G} {K : Nat → ClassId} {A : Nat → Prop} {Q : State → Prop} {τ : Nat → Option Ty} {dom : List Nat} {zb zL : Nat} {zx : Nat → Int32} {zs : Nat → Nat} (hR : 3 ≤ R.frames ∧ 73 ≤ R.locals) (B : Bx p s m args c cX12_control 3 RX12 wp_M_control D (tysA K) A) (Z : Sk τ dom) (hz : ZL zb zL zx zs A s s.heap) (h : Nat) (q : Nat → Nat) (Y : MS τ h q) (x1 : Int) (x2 : Int) (r_x1 : -2147483648 ≤ x1 ∧ x1 ≤ 2147483647) (r_x2 : -2147483648 ≤ x2 ∧ x2 ≤ 2147483647) (σ0 : Nat → va_E) (G0 : GM K h q σ0) (hend : ∀ (σ' : Nat → va_E) (z : Int) (lv : List (Nat × Value)) (pc : Nat), GM K h q σ' → Fr τ [(50, 0), (180, 0), (161, 0), (167, 0), (157, 0), (176, 0)] σ0 σ' → (0 ≤ z ∧ z ≤ 1) → decode cX12_control pc = .ok (.ireturn, 1) → V p l e R s m args below meth c 3 D A Q (0, 0) (fd dom σ') lv pc [.int (iI z)]) : V p l e R s m args below meth c 3 D A Q (0, 0) (fd dom σ0) [(0, .ref h), (1, .int (iI x1)), (2, .int (iI x2))] 0 [] := by
  have F0 : Fr τ [(50, 0), (180, 0), (161, 0), (167, 0), (157, 0), (176, 0)] σ0 σ0 := Fr.rf
  obtain ⟨z1, z2, z3, z4, z5, h6, r7, r8, r9, r10, r11⟩ := G0.t.o
  obtain ⟨f12, h13, e14⟩ := ga_57 G0.t
  obtain ⟨z15, e16, r17⟩ := e14 (x1 : Int).toNat
  have J36 : ∀ (σ_36 : Nat → va_E), GM K h q σ_36 → Fr τ [(50, 0), (180, 0), (161, 0), (167, 0), (157, 0), (176, 0)] σ0 σ_36 → (σ_36 (q 57) = .inl (K 0, 2, .inl f12)) → (0 ≤ x1 ∧ x1 ≤ 1) → (0 ≤ x2 ∧ x2 ≤ 2) → (0 ≤ z15 ∧ z15 ≤ 4) → V p l e R s m args below meth c 3 D A Q (0, 0) (fd dom σ_36) [(0, .ref h), (1, .int (iI x1)), (2, .int (iI x2))] 36 [] := by
    intro σ_36 G_36 F_36 hc36_q57 rv36_x1 rv36_x2 rv36_z15
    refine v_iload_n B dX12_control_36 rfl rfl ?_
    refine u_if_ne B (tgt := 48) (by omega) dX12_control_37 (by decide +kernel) (fun c18 => ?_) (fun c18 => ?_)
    · refine v_iload_n B dX12_control_48 rfl rfl ?_
      refine v_iconst B (v := iI 1) dX12_control_49 rfl ?_
      refine u_icmp_ne B (tgt := 91) (by omega) (by omega) dX12_control_50 (by decide +kernel) (fun c19 => ?_) (fun c19 => ?_)
      · refine v_aload_n B dX12_control_91 rfl rfl ?_
        refine v_iload_n B dX12_control_92 rfl rfl ?_
        refine v_iconst B (v := iI 2) dX12_control_93 rfl ?_
        refine v_bipush B (v := iI 19) dX12_control_94 (by decide +kernel) ?_
        refine v_iconst B (v := iI 1) dX12_control_96 rfl ?_
        refine u_callVv B Z hz (n := 4) (As := [.int (iI x1), .int (iI 2), .int (iI 19), .int (iI 1)]) (rest := []) (c_M_adds4 l D K Z _ _ _ _ h q Y x1 2 19 1 z15 ⟨by omega, by omega⟩ ⟨by omega, by omega⟩ ⟨by omega, by omega⟩ ⟨by omega, by omega⟩ ⟨by omega, by omega⟩ σ_36 G_36 (At.mk hc36_q57 e16 (by omega) ⟨by omega, by omega⟩)) gd_M_control_M_adds4_486 rfl rfl rfl (by decide +kernel) ⟨Nat.le_trans (by decide +kernel) hR.1, Nat.le_trans (by decide +kernel) hR.2⟩ Y.o (clsM G_36.t) rfl rfl rfl rfl (Nat.le_of_ble_eq_true rfl) dX12_control_97 ⟨Nat.zero_le _, Nat.zero_le _⟩ (fun σ20 p21 => ?_)
        obtain ⟨G24, F25, po23⟩ := p21
        have F26 := F_36.call F25 (by first | rfl | simp)
        obtain ⟨f27, h28, e29⟩ := ga_57 G24.t
        obtain ⟨z30, e31, r32⟩ := e29 (x1 : Int).toNat
        have r33 := po23.use h28 e31 (by omega)
        refine v_iconst B (v := iI 1) dX12_control_100 rfl ?_
        exact hend σ20 1 _ _ G24 F26 ⟨by omega, by omega⟩ dX12_control_101
      · refine v_aload_n B dX12_control_53 rfl rfl ?_
        obtain ⟨z34, z35, z36, z37, z38, h39, r40, r41, r42, r43, r44⟩ := G_36.t.o
        refine u_get B Z (C := RX12) (T := TX12) (N := 123) (ci := 12) hi_M_control_X12 Y.o h39 rfl 80 (by decide +kernel) (List.mem_of_getElem? (i := 6) rfl) rfl dX12_control_54 ?_
        refine v_iconst B (v := iI 0) dX12_control_57 rfl ?_
        refine v_bipush B (v := iI 8) dX12_control_58 (by decide +kernel) ?_
        obtain ⟨f45, h46, e47⟩ := ga_80 G_36.t
        refine u_bast B Z (t0 := 2) (x := iI 8) (y := iI 8) (ym_80 Y) h46 rfl (by omega) (nar8 (by omega)) dX12_control_60 (fun σ48 h49 n50 => ?_)
        have F51 := F_36.put (ym_80 Y) (by simp) n50
        have G52 := gp_80 Y G_36 ⟨_, h49, el_upd (z := 8) e47 ⟨by omega, by omega⟩ _⟩ n50
        refine v_aload_n B dX12_control_61 rfl rfl ?_
        have h53 := (n50 h (ne_ty Y.o (ym_80 Y) (by decide))).trans (h39)
        refine u_get B Z (C := RX12) (T := TX12) (N := 123) (ci := 12) hi_M_control_X12 Y.o h53 rfl 80 (by decide +kernel) (List.mem_of_getElem? (i := 6) rfl) rfl dX12_control_62 ?_
        refine v_iconst B (v := iI 1) dX12_control_65 rfl ?_
        refine v_aload_n B dX12_control_66 rfl rfl ?_
        refine u_get B Z (C := RX12) (T := TX12) (N := 123) (ci := 12) hi_M_control_X12 Y.o h53 rfl 17 (by decide +kernel) (List.mem_of_getElem? (i := 20) rfl) rfl dX12_control_67 ?_
        refine v_iload_n B dX12_control_70 rfl rfl ?_
        obtain ⟨f54, h55⟩ := ga_17 G52.t
        obtain ⟨yy57, e58, r59⟩ := lI_any (f54 (x1 : Int).toNat)
        refine u_lald B Z (t0 := 1) (ym_17 Y) h55 rfl (by omega) e58 dX12_control_71 ?_
        refine v_bipush B (v := iI 8) dX12_control_72 (by decide +kernel) ?_
        refine u_callSv B Z hz (n := 4) (As := [.ref (q 80), .int (iI 1), .long (lI yy57), .int (iI 8)]) (rest := []) (c_M_numberP l D K Z _ _ _ _ h q Y 80 40 1 yy57 8 rfl ⟨by omega, by omega⟩ ⟨by omega, by omega⟩ ⟨by omega, by omega⟩ σ48 G52 (by omega)) gd_M_control_M_numberP_432 rfl rfl rfl (by decide +kernel) ⟨Nat.le_trans (by decide +kernel) hR.1, Nat.le_trans (by decide +kernel) hR.2⟩ rfl rfl (Nat.le_of_ble_eq_true rfl) dX12_control_74 ⟨Nat.zero_le _, Nat.zero_le _⟩ (fun σ60 p61 => ?_)
        obtain ⟨G63, F64⟩ := p61
        have F65 := F51.call F64 (by first | rfl | simp)
        refine v_aload_n B dX12_control_77 rfl rfl ?_
        refine v_iload_n B dX12_control_78 rfl rfl ?_
        refine v_aload_n B dX12_control_79 rfl rfl ?_
        have h66 := (F64 h _ Y.o (by first | rfl | simp)).trans (h53)
        refine u_get B Z (C := RX12) (T := TX12) (N := 123) (ci := 12) hi_M_control_X12 Y.o h66 rfl 80 (by decide +kernel) (List.mem_of_getElem? (i := 6) rfl) rfl dX12_control_80 ?_
        refine v_bipush B (v := iI 9) dX12_control_83 (by decide +kernel) ?_
        have h67 := (F64 (q 57) _ (ym_57 Y) (by first | rfl | simp)).trans ((n50 (q 57) (ne_ty (ym_57 Y) (ym_80 Y) (by decide))).trans (hc36_q57))
        refine u_callVv B Z hz (n := 3) (As := [.int (iI x1), .ref (q 80), .int (iI 9)]) (rest := []) (c_M_adds l D K Z _ _ _ _ h q Y x1 9 z15 ⟨by omega, by omega⟩ ⟨by omega, by omega⟩ ⟨by omega, by omega⟩ σ60 G63 (At.mk h67 e16 (by omega) ⟨by omega, by omega⟩)) gd_M_control_M_adds_436 rfl rfl rfl (by decide +kernel) ⟨Nat.le_trans (by decide +kernel) hR.1, Nat.le_trans (by decide +kernel) hR.2⟩ Y.o (clsM G63.t) rfl rfl rfl rfl (Nat.le_of_ble_eq_true rfl) dX12_control_85 ⟨Nat.zero_le _, Nat.zero_le _⟩ (fun σ68 p69 => ?_)
        obtain ⟨G72, F73, po71⟩ := p69
        have F74 := F65.call F73 (by first | rfl | simp)
        obtain ⟨f75, h76, e77⟩ := ga_57 G72.t
        obtain ⟨z78, e79, r80⟩ := e77 (x1 : Int).toNat
        have r81 := po71.use h76 e79 (by omega)
        refine v_goto B (tgt := 100) dX12_control_88 (by decide +kernel) ?_
        refine v_iconst B (v := iI 1) dX12_control_100 rfl ?_
        exact hend σ68 1 _ _ G72 F74 ⟨by omega, by omega⟩ dX12_control_101
    · refine v_aload_n B dX12_control_40 rfl rfl ?_
      refine v_iload_n B dX12_control_41 rfl rfl ?_
      refine u_callVv B Z hz (n := 1) (As := [.int (iI x1)]) (rest := []) (c_M_version l D K Z _ _ _ _ h q Y x1 z15 ⟨by omega, by omega⟩ ⟨by omega, by omega⟩ σ_36 G_36 (At.mk hc36_q57 e16 (by omega) ⟨by omega, by omega⟩)) gd_M_control_M_version_507 rfl rfl rfl (by decide +kernel) ⟨Nat.le_trans (by decide +kernel) hR.1, Nat.le_trans (by decide +kernel) hR.2⟩ Y.o (clsM G_36.t) rfl rfl rfl rfl (Nat.le_of_ble_eq_true rfl) dX12_control_42 ⟨Nat.zero_le _, Nat.zero_le _⟩ (fun σ82 p83 => ?_)
      obtain ⟨G86, F87, po85⟩ := p83
      have F88 := F_36.call F87 (by first | rfl | simp)
      obtain ⟨f89, h90, e91⟩ := ga_57 G86.t
      obtain ⟨z92, e93, r94⟩ := e91 (x1 : Int).toNat
      have r95 := po85.use h90 e93 (by omega)
      refine v_goto B (tgt := 100) dX12_control_45 (by decide +kernel) ?_
      refine v_iconst B (v := iI 1) dX12_control_100 rfl ?_
      exact hend σ82 1 _ _ G86 F88 ⟨by omega, by omega⟩ dX12_control_101
  refine v_aload_n B dX12_control_0 rfl rfl ?_
  refine v_iconst B (v := iI 0) dX12_control_1 rfl ?_
  refine u_put B Z (C := RX12) (T := TX12) (N := 123) (ci := 12) hi_M_control_X12 Y.o h6 rfl 0 (by decide +kernel) tyX12 tyX12_ok nmX12 (List.mem_of_getElem? (i := 27) rfl) rfl (ty := .int) (tyX12_ok 0 (by decide +kernel)) rfl rfl (Nat.le_of_ble_eq_true rfl) (fs' := fsM q (iI 0) (iI z2) (iI z3) (iI z4) (iI z5)) rfl dX12_control_2 (fun σ96 h97 n98 => ?_)
  have F99 := F0.put Y.o (by simp) n98
  have G100 := G0.putO Y ⟨0, z2, z3, z4, z5, h97, ⟨by omega, by omega⟩, ⟨by omega, by omega⟩, ⟨by omega, by omega⟩, ⟨by omega, by omega⟩, ⟨by omega, by omega⟩⟩ n98
  refine v_aload_n B dX12_control_5 rfl rfl ?_
  refine v_iload_n B dX12_control_6 rfl rfl ?_
  refine u_callVi B Z hz (n := 1) (As := [.int (iI x1)]) (rest := []) (c_M_mayControl l D K Z _ _ _ _ h q Y x1 ⟨by omega, by omega⟩ σ96 (G100.t)) gd_M_control_M_mayControl_683 rfl rfl rfl (by decide +kernel) ⟨Nat.le_trans (by decide +kernel) hR.1, Nat.le_trans (by decide +kernel) hR.2⟩ Y.o (clsM G100.t) rfl rfl rfl rfl (Nat.le_of_ble_eq_true rfl) dX12_control_7 ⟨Nat.zero_le _, Nat.zero_le _⟩ (fun v103 σ101 p102 => ?_)
  obtain ⟨rfl, z104, e105, r106, po107⟩ := p102
  subst e105
  have h108 := (n98 (q 57) (ne_ty (ym_57 Y) Y.o (by decide))).trans (h13)
  have r109 : z104 = 1 → (0 ≤ x1 ∧ x1 ≤ 1) ∧ z15 ≤ 4 := fun q => ⟨⟨(po107 q).1, (po107 q).2.1⟩, ((po107 q).2.2.use h108 e16 (by omega)).2⟩
  refine u_if_eq B (tgt := 34) (by omega) dX12_control_10 (by decide +kernel) (fun c110 => ?_) (fun c110 => ?_)
  · refine v_iconst B (v := iI 0) dX12_control_34 rfl ?_
    exact hend σ96 0 _ _ G100 F99 ⟨by omega, by omega⟩ dX12_control_35
  · refine v_iload_n B dX12_control_13 rfl rfl ?_
    refine v_iconst B (v := iI 3) dX12_control_14 rfl ?_
    refine u_callSi B Z hz (n := 2) (As := [.int (iI x2), .int (iI 3)]) (rest := []) (c_M_in l D K Z _ _ _ _ h q Y x2 3 ⟨by omega, by omega⟩ ⟨by omega, by omega⟩ σ96 (G100.t)) gd_M_control_M_in_413 rfl rfl rfl (by decide +kernel) ⟨Nat.le_trans (by decide +kernel) hR.1, Nat.le_trans (by decide +kernel) hR.2⟩ rfl rfl (Nat.le_of_ble_eq_true rfl) dX12_control_15 ⟨Nat.zero_le _, Nat.zero_le _⟩ (fun v113 σ111 p112 => ?_)
    obtain ⟨rfl, z114, e115, r116, po117⟩ := p112
    subst e115
    refine u_if_eq B (tgt := 34) (by omega) dX12_control_18 (by decide +kernel) (fun c118 => ?_) (fun c118 => ?_)
    · refine v_iconst B (v := iI 0) dX12_control_34 rfl ?_
      exact hend σ96 0 _ _ G100 F99 ⟨by omega, by omega⟩ dX12_control_35
    · refine v_iload_n B dX12_control_21 rfl rfl ?_
      refine u_if_ne B (tgt := 36) (by omega) dX12_control_22 (by decide +kernel) (fun c119 => ?_) (fun c119 => ?_)
      · exact J36 σ96 G100 F99 h108 ⟨by omega, by omega⟩ ⟨by omega, by omega⟩ ⟨by omega, by omega⟩
      · refine v_aload_n B dX12_control_25 rfl rfl ?_
        refine u_get B Z (C := RX12) (T := TX12) (N := 123) (ci := 12) hi_M_control_X12 Y.o h97 rfl 76 (by decide +kernel) (List.mem_of_getElem? (i := 25) rfl) rfl dX12_control_26 ?_
        refine v_iload_n B dX12_control_29 rfl rfl ?_
        obtain ⟨f120, h121, e122⟩ := ga_76 G100.t
        obtain ⟨z123, e124, r125⟩ := e122 (x1 : Int).toNat
        refine u_zald B Z (t0 := 3) (ym_76 Y) h121 rfl (by omega) e124 dX12_control_30 ?_
        refine u_if_eq B (tgt := 36) (by omega) dX12_control_31 (by decide +kernel) (fun c126 => ?_) (fun c126 => ?_)
        · exact J36 σ96 G100 F99 h108 ⟨by omega, by omega⟩ ⟨by omega, by omega⟩ ⟨by omega, by omega⟩
        · refine v_iconst B (v := iI 0) dX12_control_34 rfl ?_
          exact hend σ96 0 _ _ G100 F99 ⟨by omega, by omega⟩ dX12_control_35
set_option maxRecDepth 100000 in
theorem c_M_control (l : Launch) (D : va_G) (K : Nat → ClassId) {τ : Nat → Option Ty} {dom : List Nat} (Z : Sk τ dom) (zb zL : Nat) (zx : Nat → Int32) (zs : Nat → Nat) (h : Nat) (q : Nat → Nat) (Y : MS τ h q) (x1 : Int) (x2 : Int) (r_x1 : -2147483648 ≤ x1 ∧ x1 ≤ 2147483647) (r_x2 : -2147483648 ≤ x2 ∧ x2 ≤ 2147483647) (σ0 : Nat → va_E) (G0 : GM K h q σ0) : MZ l yX12_control wp_M_control ({ frames := 3, cells := 0, slots := 0, locals := 73 }) D (tysA K) [.ref h, .int (iI x1), .int (iI x2)] (fd dom σ0) zb zL zx zs (Qi D (fun r σ' => GM K h q σ' ∧ Fr τ [(50, 0), (180, 0), (161, 0), (167, 0), (157, 0), (176, 0)] σ0 σ' ∧ ∃ z : Int, r = iI z ∧ (0 ≤ z ∧ z ≤ 1)) (fun σ' => fd dom σ')) 0 0 := by
  refine mz_of (cc := cX12_control) (maxL := 3) (ret := (some .boolean)) (by decide +kernel) rfl (Nat.le_of_ble_eq_true rfl) ?_
  intro p e s m below meth c A B hr hlk _ hz
  exact b_M_control ⟨Nat.le_refl _, Nat.le_refl _⟩ B Z hz h q Y x1 x2 r_x1 r_x2 σ0 G0 (fun σ' z lv pc G F hZ hd => v_zret B hr hlk (nar01 (by omega)) σ' ⟨G, F, z, rfl, hZ⟩ rfl (Nat.le_refl _) (Nat.le_refl _) hd)

def wp_M_map : List Cond := .code yX12_map cX12_map 4 (some .boolean) :: (([.fieldLink RX12 1 "LowEnergyModel" "thrown" "I", .methodLink RX12 683 yX12_mayControl, .instanceMethod yX12_mayControl, .selects RX12 yX12_mayControl yX12_mayControl, .initialized RX12, .code yX12_mayControl cX12_mayControl 2 (some .boolean), .methodLink RX12 413 yX12_in, .static yX12_in, .code yX12_in cX12_in 2 (some .boolean), .methodLink RX12 662 yX12_isLinked, .instanceMethod yX12_isLinked, .selects RX12 yX12_isLinked yX12_isLinked, .code yX12_isLinked cX12_isLinked 2 (some .boolean), .fieldLink RX12 45 "LowEnergyModel" "state" "[I", .fieldLink RX12 191 "LowEnergyModel" "controls" "[I", .fieldLink RX12 224 "LowEnergyModel" "held" "[Z", .fieldLink RX12 149 "LowEnergyModel" "mapWaits" "[Z", .methodLink RX12 497 yX12_isMap, .static yX12_isMap, .code yX12_isMap cX12_isMap 2 (some .boolean), .constantLong RX12 396 (137438953472), .methodLink RX12 398 yJ13_bitCount_95d88, .static yJ13_bitCount_95d88, .initialized RJ13, .code yJ13_bitCount_95d88 cJ13_bitCount_95d88 2 (some .int), .constantLong RJ13 314 (6148914691236517205), .constantLong RJ13 316 (3689348814741910323), .constantLong RJ13 318 (1085102592571150095), .fieldLink RX12 73 "LowEnergyModel" "newMap" "[J", .fieldLink RX12 139 "LowEnergyModel" "instant" "[I", .fieldLink RX12 112 "LowEnergyModel" "event" "[I", .constant RX12 493 (65535), .fieldLink RX12 260 "LowEnergyModel" "pdu" "[B", .methodLink RX12 432 yX12_number, .static yX12_number, .code yX12_number cX12_number 6 none, .methodLink RX12 436 yX12_adds, .instanceMethod yX12_adds, .selects RX12 yX12_adds yX12_adds, .code yX12_adds cX12_adds 5 none, .fieldLink RX12 203 "LowEnergyModel" "control" "[B", .methodLink RX12 29 yX12_copy, .static yX12_copy, .code yX12_copy cX12_copy 6 none, .fieldLink RX12 221 "LowEnergyModel" "controlMany" "[I"] : List Cond) ++ (wsX120 ++ ([])))
theorem hi_M_map_X12 : ∀ x ∈ u_ws RX12 TX12 123, x ∈ wp_M_map := fun _ h => List.mem_cons_of_mem _ (List.mem_append_right _ (List.mem_append_left _ h))
set_option maxRecDepth 100000 in
theorem gd_M_map_M_mayControl_683 : GoodIn wp_M_map (wsV RX12 683 RX12 yX12_mayControl wp_M_mayControl) := goodIn_app (goodIn_r _ [2, 3, 4, 5] rfl rfl) (goodIn_ca (goodIn_r _ [6, 7, 8, 5, 9, 10, 11, 12, 13, 14, 15, 16] rfl rfl) (goodIn_app (goodIn_cls hi_M_map_X12 gw_X12) (goodIn_nil)))
set_option maxRecDepth 100000 in
theorem gd_M_map_M_isMap_497 : GoodIn wp_M_map (va_wsS RX12 497 yX12_isMap wp_M_isMap) := goodIn_app (goodIn_r _ [18, 19, 5] rfl rfl) (goodIn_ca (goodIn_r _ [20, 21, 22, 23, 24, 25, 26, 27, 28] rfl rfl) (goodIn_nil))
set_option maxRecDepth 100000 in
theorem gd_M_map_M_numberP_432 : GoodIn wp_M_map (va_wsS RX12 432 yX12_number wp_M_numberP) := goodIn_app (goodIn_r _ [34, 35, 5] rfl rfl) (goodIn_ca (goodIn_r _ [36] rfl rfl) (goodIn_nil))
set_option maxRecDepth 100000 in
theorem gd_M_map_M_adds_436 : GoodIn wp_M_map (wsV RX12 436 RX12 yX12_adds wp_M_adds) := goodIn_app (goodIn_r _ [37, 38, 39, 5] rfl rfl) (goodIn_ca (goodIn_r _ [40, 15, 41, 42, 43, 5, 44, 45] rfl rfl) (goodIn_app (goodIn_cls hi_M_map_X12 gw_X12) (goodIn_nil)))
set_option maxHeartbeats 4000000 in
set_option maxRecDepth 100000 in
theorem b_M_map {p : Program} {l : Launch} {e : Env} {R : Room} {s : State} {m : MethodId} {args : Array Value} {below : List Frame} {meth : Method} {c : Code} {D : va_G} {K : Nat → ClassId} {A : Nat → Prop} {Q : State → Prop} {τ : Nat → Option Ty} {dom : List Nat} {zb zL : Nat} {zx : Nat → Int32} {zs : Nat → Nat} (hR : 2 ≤ R.frames ∧ 49 ≤ R.locals) (B : Bx p s m args c cX12_map 4 RX12 wp_M_map D (tysA K) A) (Z : Sk τ dom) (hz : ZL zb zL zx zs A s s.heap) (h : Nat) (q : Nat → Nat) (Y : MS τ h q) (x1 : Int) (y2 : Int) (r_x1 : -2147483648 ≤ x1 ∧ x1 ≤ 2147483647) (r_y2 : InL y2) (σ0 : Nat → va_E) (G0 : GM K h q σ0) (hend : ∀ (σ' : Nat → va_E) (z : Int) (lv : List (Nat × Value)) (pc : Nat), GM K h q σ' → Fr τ [(50, 0), (116, 0), (138, 0), (141, 0), (180, 0), (161, 0), (167, 0), (157, 0)] σ0 σ' → (0 ≤ z ∧ z ≤ 1) → decode cX12_map pc = .ok (.ireturn, 1) → V p l e R s m args below meth c 4 D A Q (0, 0) (fd dom σ') lv pc [.int (iI z)]) : V p l e R s m args below meth c 4 D A Q (0, 0) (fd dom σ0) [(0, .ref h), (1, .int (iI x1)), (2, .long (lI y2))] 0 [] := by
  have F0 : Fr τ [(50, 0), (116, 0), (138, 0), (141, 0), (180, 0), (161, 0), (167, 0), (157, 0)] σ0 σ0 := Fr.rf
  obtain ⟨z1, z2, z3, z4, z5, h6, r7, r8, r9, r10, r11⟩ := G0.t.o
  refine v_aload_n B dX12_map_0 rfl rfl ?_
  refine v_iconst B (v := iI 0) dX12_map_1 rfl ?_
  refine u_put B Z (C := RX12) (T := TX12) (N := 123) (ci := 12) hi_M_map_X12 Y.o h6 rfl 0 (by decide +kernel) tyX12 tyX12_ok nmX12 (List.mem_of_getElem? (i := 1) rfl) rfl (ty := .int) (tyX12_ok 0 (by decide +kernel)) rfl rfl (Nat.le_of_ble_eq_true rfl) (fs' := fsM q (iI 0) (iI z2) (iI z3) (iI z4) (iI z5)) rfl dX12_map_2 (fun σ12 h13 n14 => ?_)
  have F15 := F0.put Y.o (by simp) n14
  have G16 := G0.putO Y ⟨0, z2, z3, z4, z5, h13, ⟨by omega, by omega⟩, ⟨by omega, by omega⟩, ⟨by omega, by omega⟩, ⟨by omega, by omega⟩, ⟨by omega, by omega⟩⟩ n14
  refine v_aload_n B dX12_map_5 rfl rfl ?_
  refine v_iload_n B dX12_map_6 rfl rfl ?_
  refine u_callVi B Z hz (n := 1) (As := [.int (iI x1)]) (rest := []) (c_M_mayControl l D K Z _ _ _ _ h q Y x1 ⟨by omega, by omega⟩ σ12 (G16.t)) gd_M_map_M_mayControl_683 rfl rfl rfl (by decide +kernel) ⟨Nat.le_trans (by decide +kernel) hR.1, Nat.le_trans (by decide +kernel) hR.2⟩ Y.o (clsM G16.t) rfl rfl rfl rfl (Nat.le_of_ble_eq_true rfl) dX12_map_7 ⟨Nat.zero_le _, Nat.zero_le _⟩ (fun v19 σ17 p18 => ?_)
  obtain ⟨rfl, z20, e21, r22, po23⟩ := p18
  subst e21
  obtain ⟨f24, h25, e26⟩ := ga_57 G16.t
  obtain ⟨z27, e28, r29⟩ := e26 (x1 : Int).toNat
  have r30 : z20 = 1 → (0 ≤ x1 ∧ x1 ≤ 1) ∧ z27 ≤ 4 := fun q => ⟨⟨(po23 q).1, (po23 q).2.1⟩, ((po23 q).2.2.use h25 e28 (by omega)).2⟩
  refine u_if_eq B (tgt := 39) (by omega) dX12_map_10 (by decide +kernel) (fun c31 => ?_) (fun c31 => ?_)
  · refine v_iconst B (v := iI 0) dX12_map_39 rfl ?_
    exact hend σ12 0 _ _ G16 F15 ⟨by omega, by omega⟩ dX12_map_40
  · refine v_aload_n B dX12_map_13 rfl rfl ?_
    refine u_get B Z (C := RX12) (T := TX12) (N := 123) (ci := 12) hi_M_map_X12 Y.o h13 rfl 7 (by decide +kernel) (List.mem_of_getElem? (i := 14) rfl) rfl dX12_map_14 ?_
    refine v_iload_n B dX12_map_17 rfl rfl ?_
    obtain ⟨f32, h33, e34⟩ := ga_7 G16.t
    obtain ⟨z35, e36, r37⟩ := e34 (x1 : Int).toNat
    refine u_iald B Z (t0 := 0) (ym_7 Y) h33 rfl (by omega) e36 dX12_map_18 ?_
    refine v_iconst B (v := iI 4) dX12_map_19 rfl ?_
    refine u_icmp_ne B (tgt := 39) (by omega) (by omega) dX12_map_20 (by decide +kernel) (fun c38 => ?_) (fun c38 => ?_)
    · refine v_iconst B (v := iI 0) dX12_map_39 rfl ?_
      exact hend σ12 0 _ _ G16 F15 ⟨by omega, by omega⟩ dX12_map_40
    · refine v_aload_n B dX12_map_23 rfl rfl ?_
      refine u_get B Z (C := RX12) (T := TX12) (N := 123) (ci := 12) hi_M_map_X12 Y.o h13 rfl 41 (by decide +kernel) (List.mem_of_getElem? (i := 17) rfl) rfl dX12_map_24 ?_
      refine v_iload_n B dX12_map_27 rfl rfl ?_
      obtain ⟨f39, h40, e41⟩ := ga_41 G16.t
      obtain ⟨z42, e43, r44⟩ := e41 (x1 : Int).toNat
      refine u_zald B Z (t0 := 3) (ym_41 Y) h40 rfl (by omega) e43 dX12_map_28 ?_
      refine u_if_ne B (tgt := 39) (by omega) dX12_map_29 (by decide +kernel) (fun c45 => ?_) (fun c45 => ?_)
      · refine v_iconst B (v := iI 0) dX12_map_39 rfl ?_
        exact hend σ12 0 _ _ G16 F15 ⟨by omega, by omega⟩ dX12_map_40
      · refine v_lload_n B dX12_map_32 rfl rfl ?_
        refine u_callSi B Z hz (n := 1) (As := [.long (lI y2)]) (rest := []) (c_M_isMap l D K Z _ _ _ _ h q Y y2 ⟨by omega, by omega⟩ σ12 (G16.t)) gd_M_map_M_isMap_497 rfl rfl rfl (by decide +kernel) ⟨Nat.le_trans (by decide +kernel) hR.1, Nat.le_trans (by decide +kernel) hR.2⟩ rfl rfl (Nat.le_of_ble_eq_true rfl) dX12_map_33 ⟨Nat.zero_le _, Nat.zero_le _⟩ (fun v48 σ46 p47 => ?_)
        obtain ⟨rfl, z49, e50, r51, po52⟩ := p47
        subst e50
        refine u_if_ne B (tgt := 41) (by omega) dX12_map_36 (by decide +kernel) (fun c53 => ?_) (fun c53 => ?_)
        · refine v_aload_n B dX12_map_41 rfl rfl ?_
          refine u_get B Z (C := RX12) (T := TX12) (N := 123) (ci := 12) hi_M_map_X12 Y.o h13 rfl 16 (by decide +kernel) (List.mem_of_getElem? (i := 29) rfl) rfl dX12_map_42 ?_
          refine v_iload_n B dX12_map_45 rfl rfl ?_
          refine v_lload_n B dX12_map_46 rfl rfl ?_
          obtain ⟨f54, h55⟩ := ga_16 G16.t
          have ra57 := G16.d _ _ _ _ _ _ h40 h55
          refine u_last B Z (t0 := 1) (x := lI y2) (ym_16 Y) h55 rfl (by omega) dX12_map_47 (fun σ58 h59 n60 => ?_)
          have F61 := F15.put (ym_16 Y) (by simp) n60
          have T62 := gp_16 Y G16.t ⟨_, h59⟩ n60
          have R63 := (G16.a).kept (n60 _ (ne_ty (ym_85 Y) (ym_16 Y) (by decide))) (n60 _ (ne_ty (ym_86 Y) (ym_16 Y) (by decide))) (n60 _ (ne_ty (ym_84 Y) (ym_16 Y) (by decide)))
          have R64 := (G16.b).kept (n60 _ (ne_ty (ym_106 Y) (ym_16 Y) (by decide))) (n60 _ (ne_ty (ym_110 Y) (ym_16 Y) (by decide)))
          have R65 := (G16.c).kept (n60 _ (ne_ty (ym_7 Y) (ym_16 Y) (by decide))) (n60 _ (ne_ty (ym_15 Y) (ym_16 Y) (by decide)))
          have h66 := (n60 (q 41) (ne_ty (ym_41 Y) (ym_16 Y) (by decide))).trans (h40)
          have R67 : RelD q σ58 := RelD.mk h66 h59 (RC.set ra57 (x1 : Int).toNat (fun _ _ => rfl) (fun i hi => updL_n hi) (fun x e1 r1 hx => by rw [updL_s]; exact po52 (by omega)))
          have G68 : GM K h q σ58 := ⟨T62, R63, R64, R65, R67⟩
          refine v_aload_n B dX12_map_48 rfl rfl ?_
          have h69 := (n60 h (ne_ty Y.o (ym_16 Y) (by decide))).trans (h13)
          refine u_get B Z (C := RX12) (T := TX12) (N := 123) (ci := 12) hi_M_map_X12 Y.o h69 rfl 38 (by decide +kernel) (List.mem_of_getElem? (i := 30) rfl) rfl dX12_map_49 ?_
          refine v_iload_n B dX12_map_52 rfl rfl ?_
          refine v_aload_n B dX12_map_53 rfl rfl ?_
          refine u_get B Z (C := RX12) (T := TX12) (N := 123) (ci := 12) hi_M_map_X12 Y.o h69 rfl 29 (by decide +kernel) (List.mem_of_getElem? (i := 31) rfl) rfl dX12_map_54 ?_
          refine v_iload_n B dX12_map_57 rfl rfl ?_
          obtain ⟨f70, h71, e72⟩ := ga_29 G68.t
          obtain ⟨z73, e74, r75⟩ := e72 (x1 : Int).toNat
          refine u_iald B Z (t0 := 0) (ym_29 Y) h71 rfl (by omega) e74 dX12_map_58 ?_
          refine v_bipush B (v := iI 8) dX12_map_59 (by decide +kernel) ?_
          obtain ⟨z76, e77, r78⟩ := iI_any (iI z73 + iI 8)
          refine v_iadd B (v := iI z76) dX12_map_61 e77 ?_
          refine v_ldcw B (v := iI 65535) (u_ci (List.mem_of_getElem? (i := 32) rfl) (by decide +kernel)) dX12_map_62 ?_
          obtain ⟨z79, e80, r81⟩ := iI_and z76 (c := 65535) (by decide) (by decide)
          refine v_iand B (v := iI z79) dX12_map_65 e80 ?_
          obtain ⟨f82, h83, e84⟩ := ga_38 G68.t
          refine u_iast B Z (t0 := 0) (x := iI z79) (ym_38 Y) h83 rfl (by omega) dX12_map_66 (fun σ85 h86 n87 => ?_)
          have e88 := el_upd (z := z79) e84 ⟨by omega, by omega⟩ (x1 : Int).toNat
          have F89 := F61.put (ym_38 Y) (by simp) n87
          have G90 := gp_38 Y G68 ⟨_, h86, e88⟩ n87
          refine v_aload_n B dX12_map_67 rfl rfl ?_
          have h91 := (n87 h (ne_ty Y.o (ym_38 Y) (by decide))).trans (h69)
          refine u_get B Z (C := RX12) (T := TX12) (N := 123) (ci := 12) hi_M_map_X12 Y.o h91 rfl 41 (by decide +kernel) (List.mem_of_getElem? (i := 17) rfl) rfl dX12_map_68 ?_
          refine v_iload_n B dX12_map_71 rfl rfl ?_
          refine v_iconst B (v := iI 1) dX12_map_72 rfl ?_
          have h92 := (n87 (q 41) (ne_ty (ym_41 Y) (ym_38 Y) (by decide))).trans (h66)
          have h93 := (n87 (q 16) (ne_ty (ym_16 Y) (ym_38 Y) (by decide))).trans (h59)
          have ra94 := G90.d _ _ _ _ _ _ h92 h93
          refine u_zast B Z (t0 := 3) (x := iI 1) (y := iI 1) (ym_41 Y) h92 rfl (by omega) (narZ (by omega)) dX12_map_73 (fun σ95 h96 n97 => ?_)
          have e98 := el_upd (z := 1) e41 ⟨by omega, by omega⟩ (x1 : Int).toNat
          have F99 := F89.put (ym_41 Y) (by simp) n97
          have T100 := gp_41 Y G90.t ⟨_, h96, e98⟩ n97
          have R101 := (G90.a).kept (n97 _ (ne_ty (ym_85 Y) (ym_41 Y) (by decide))) (n97 _ (ne_ty (ym_86 Y) (ym_41 Y) (by decide))) (n97 _ (ne_ty (ym_84 Y) (ym_41 Y) (by decide)))
          have R102 := (G90.b).kept (n97 _ (ne_ty (ym_106 Y) (ym_41 Y) (by decide))) (n97 _ (ne_ty (ym_110 Y) (ym_41 Y) (by decide)))
          have R103 := (G90.c).kept (n97 _ (ne_ty (ym_7 Y) (ym_41 Y) (by decide))) (n97 _ (ne_ty (ym_15 Y) (ym_41 Y) (by decide)))
          have h104 := (n97 (q 16) (ne_ty (ym_16 Y) (ym_41 Y) (by decide))).trans (h93)
          have R105 : RelD q σ95 := RelD.mk h96 h104 (RC.set ra94 (x1 : Int).toNat (fun i hi => upd_n hi) (fun _ _ => rfl) (fun x e1 r1 hx => by rw [updL_s]; exact po52 (by omega)))
          have G106 : GM K h q σ95 := ⟨T100, R101, R102, R103, R105⟩
          refine v_aload_n B dX12_map_74 rfl rfl ?_
          have h107 := (n97 h (ne_ty Y.o (ym_41 Y) (by decide))).trans (h91)
          refine u_get B Z (C := RX12) (T := TX12) (N := 123) (ci := 12) hi_M_map_X12 Y.o h107 rfl 80 (by decide +kernel) (List.mem_of_getElem? (i := 33) rfl) rfl dX12_map_75 ?_
          refine v_iconst B (v := iI 0) dX12_map_78 rfl ?_
          refine v_iconst B (v := iI 1) dX12_map_79 rfl ?_
          obtain ⟨f108, h109, e110⟩ := ga_80 G106.t
          refine u_bast B Z (t0 := 2) (x := iI 1) (y := iI 1) (ym_80 Y) h109 rfl (by omega) (nar8 (by omega)) dX12_map_80 (fun σ111 h112 n113 => ?_)
          have F114 := F99.put (ym_80 Y) (by simp) n113
          have G115 := gp_80 Y G106 ⟨_, h112, el_upd (z := 1) e110 ⟨by omega, by omega⟩ _⟩ n113
          refine v_aload_n B dX12_map_81 rfl rfl ?_
          have h116 := (n113 h (ne_ty Y.o (ym_80 Y) (by decide))).trans (h107)
          refine u_get B Z (C := RX12) (T := TX12) (N := 123) (ci := 12) hi_M_map_X12 Y.o h116 rfl 80 (by decide +kernel) (List.mem_of_getElem? (i := 33) rfl) rfl dX12_map_82 ?_
          refine v_iconst B (v := iI 1) dX12_map_85 rfl ?_
          refine v_lload_n B dX12_map_86 rfl rfl ?_
          refine v_iconst B (v := iI 5) dX12_map_87 rfl ?_
          refine u_callSv B Z hz (n := 4) (As := [.ref (q 80), .int (iI 1), .long (lI y2), .int (iI 5)]) (rest := []) (c_M_numberP l D K Z _ _ _ _ h q Y 80 40 1 y2 5 rfl ⟨by omega, by omega⟩ ⟨by omega, by omega⟩ ⟨by omega, by omega⟩ σ111 G115 (by omega)) gd_M_map_M_numberP_432 rfl rfl rfl (by decide +kernel) ⟨Nat.le_trans (by decide +kernel) hR.1, Nat.le_trans (by decide +kernel) hR.2⟩ rfl rfl (Nat.le_of_ble_eq_true rfl) dX12_map_88 ⟨Nat.zero_le _, Nat.zero_le _⟩ (fun σ117 p118 => ?_)
          obtain ⟨G120, F121⟩ := p118
          have F122 := F114.call F121 (by first | rfl | simp)
          refine v_aload_n B dX12_map_91 rfl rfl ?_
          have h123 := (F121 h _ Y.o (by first | rfl | simp)).trans (h116)
          refine u_get B Z (C := RX12) (T := TX12) (N := 123) (ci := 12) hi_M_map_X12 Y.o h123 rfl 80 (by decide +kernel) (List.mem_of_getElem? (i := 33) rfl) rfl dX12_map_92 ?_
          refine v_bipush B (v := iI 6) dX12_map_95 (by decide +kernel) ?_
          refine v_aload_n B dX12_map_97 rfl rfl ?_
          refine u_get B Z (C := RX12) (T := TX12) (N := 123) (ci := 12) hi_M_map_X12 Y.o h123 rfl 38 (by decide +kernel) (List.mem_of_getElem? (i := 30) rfl) rfl dX12_map_98 ?_
          refine v_iload_n B dX12_map_101 rfl rfl ?_
          have h124 := (F121 (q 38) _ (ym_38 Y) (by first | rfl | simp)).trans ((n113 (q 38) (ne_ty (ym_38 Y) (ym_80 Y) (by decide))).trans ((n97 (q 38) (ne_ty (ym_38 Y) (ym_41 Y) (by decide))).trans (h86)))
          refine u_iald B Z (t0 := 0) (ym_38 Y) h124 rfl (by omega) upd_s dX12_map_102 ?_
          refine v_i2l B (v := lI z79) dX12_map_103 (lI_i (by omega)) ?_
          refine v_iconst B (v := iI 2) dX12_map_104 rfl ?_
          refine u_callSv B Z hz (n := 4) (As := [.ref (q 80), .int (iI 6), .long (lI z79), .int (iI 2)]) (rest := []) (c_M_numberP l D K Z _ _ _ _ h q Y 80 40 6 z79 2 rfl ⟨by omega, by omega⟩ ⟨by omega, by omega⟩ ⟨by omega, by omega⟩ σ117 G120 (by omega)) gd_M_map_M_numberP_432 rfl rfl rfl (by decide +kernel) ⟨Nat.le_trans (by decide +kernel) hR.1, Nat.le_trans (by decide +kernel) hR.2⟩ rfl rfl (Nat.le_of_ble_eq_true rfl) dX12_map_105 ⟨Nat.zero_le _, Nat.zero_le _⟩ (fun σ125 p126 => ?_)
          obtain ⟨G128, F129⟩ := p126
          have F130 := F122.call F129 (by first | rfl | simp)
          refine v_aload_n B dX12_map_108 rfl rfl ?_
          refine v_iload_n B dX12_map_109 rfl rfl ?_
          refine v_aload_n B dX12_map_110 rfl rfl ?_
          have h131 := (F129 h _ Y.o (by first | rfl | simp)).trans (h123)
          refine u_get B Z (C := RX12) (T := TX12) (N := 123) (ci := 12) hi_M_map_X12 Y.o h131 rfl 80 (by decide +kernel) (List.mem_of_getElem? (i := 33) rfl) rfl dX12_map_111 ?_
          refine v_bipush B (v := iI 8) dX12_map_114 (by decide +kernel) ?_
          have h132 := (F129 (q 57) _ (ym_57 Y) (by first | rfl | simp)).trans ((F121 (q 57) _ (ym_57 Y) (by first | rfl | simp)).trans ((n113 (q 57) (ne_ty (ym_57 Y) (ym_80 Y) (by decide))).trans ((n97 (q 57) (ne_ty (ym_57 Y) (ym_41 Y) (by decide))).trans ((n87 (q 57) (ne_ty (ym_57 Y) (ym_38 Y) (by decide))).trans ((n60 (q 57) (ne_ty (ym_57 Y) (ym_16 Y) (by decide))).trans (h25))))))
          refine u_callVv B Z hz (n := 3) (As := [.int (iI x1), .ref (q 80), .int (iI 8)]) (rest := []) (c_M_adds l D K Z _ _ _ _ h q Y x1 8 z27 ⟨by omega, by omega⟩ ⟨by omega, by omega⟩ ⟨by omega, by omega⟩ σ125 G128 (At.mk h132 e28 (by omega) ⟨by omega, by omega⟩)) gd_M_map_M_adds_436 rfl rfl rfl (by decide +kernel) ⟨Nat.le_trans (by decide +kernel) hR.1, Nat.le_trans (by decide +kernel) hR.2⟩ Y.o (clsM G128.t) rfl rfl rfl rfl (Nat.le_of_ble_eq_true rfl) dX12_map_116 ⟨Nat.zero_le _, Nat.zero_le _⟩ (fun σ133 p134 => ?_)
          obtain ⟨G137, F138, po136⟩ := p134
          have F139 := F130.call F138 (by first | rfl | simp)
          obtain ⟨f140, h141, e142⟩ := ga_57 G137.t
          obtain ⟨z143, e144, r145⟩ := e142 (x1 : Int).toNat
          have r146 := po136.use h141 e144 (by omega)
          refine v_iconst B (v := iI 1) dX12_map_119 rfl ?_
          exact hend σ133 1 _ _ G137 F139 ⟨by omega, by omega⟩ dX12_map_120
        · refine v_iconst B (v := iI 0) dX12_map_39 rfl ?_
          exact hend σ12 0 _ _ G16 F15 ⟨by omega, by omega⟩ dX12_map_40
set_option maxRecDepth 100000 in
theorem c_M_map (l : Launch) (D : va_G) (K : Nat → ClassId) {τ : Nat → Option Ty} {dom : List Nat} (Z : Sk τ dom) (zb zL : Nat) (zx : Nat → Int32) (zs : Nat → Nat) (h : Nat) (q : Nat → Nat) (Y : MS τ h q) (x1 : Int) (y2 : Int) (r_x1 : -2147483648 ≤ x1 ∧ x1 ≤ 2147483647) (r_y2 : InL y2) (σ0 : Nat → va_E) (G0 : GM K h q σ0) : MZ l yX12_map wp_M_map ({ frames := 2, cells := 0, slots := 0, locals := 49 }) D (tysA K) [.ref h, .int (iI x1), .long (lI y2)] (fd dom σ0) zb zL zx zs (Qi D (fun r σ' => GM K h q σ' ∧ Fr τ [(50, 0), (116, 0), (138, 0), (141, 0), (180, 0), (161, 0), (167, 0), (157, 0)] σ0 σ' ∧ ∃ z : Int, r = iI z ∧ (0 ≤ z ∧ z ≤ 1)) (fun σ' => fd dom σ')) 0 0 := by
  refine mz_of (cc := cX12_map) (maxL := 4) (ret := (some .boolean)) (by decide +kernel) rfl (Nat.le_of_ble_eq_true rfl) ?_
  intro p e s m below meth c A B hr hlk _ hz
  exact b_M_map ⟨Nat.le_refl _, Nat.le_refl _⟩ B Z hz h q Y x1 y2 r_x1 r_y2 σ0 G0 (fun σ' z lv pc G F hZ hd => v_zret B hr hlk (nar01 (by omega)) σ' ⟨G, F, z, rfl, hZ⟩ rfl (Nat.le_refl _) (Nat.le_refl _) hd)

def wp_M_encrypt : List Cond := .code yX12_encrypt cX12_encrypt 2 (some .boolean) :: (([.fieldLink RX12 1 "LowEnergyModel" "thrown" "I", .methodLink RX12 683 yX12_mayControl, .instanceMethod yX12_mayControl, .selects RX12 yX12_mayControl yX12_mayControl, .initialized RX12, .code yX12_mayControl cX12_mayControl 2 (some .boolean), .methodLink RX12 413 yX12_in, .static yX12_in, .code yX12_in cX12_in 2 (some .boolean), .methodLink RX12 662 yX12_isLinked, .instanceMethod yX12_isLinked, .selects RX12 yX12_isLinked yX12_isLinked, .code yX12_isLinked cX12_isLinked 2 (some .boolean), .fieldLink RX12 45 "LowEnergyModel" "state" "[I", .fieldLink RX12 191 "LowEnergyModel" "controls" "[I", .fieldLink RX12 224 "LowEnergyModel" "held" "[Z", .fieldLink RX12 245 "LowEnergyModel" "hasKey" "[Z", .fieldLink RX12 239 "LowEnergyModel" "isSecure" "[Z", .fieldLink RX12 227 "LowEnergyModel" "asked" "[Z", .fieldLink RX12 230 "LowEnergyModel" "hasFour" "[Z", .fieldLink RX12 242 "LowEnergyModel" "hasSession" "[Z", .methodLink RX12 512 yX12_draws, .instanceMethod yX12_draws, .selects RX12 yX12_draws yX12_draws, .code yX12_draws cX12_draws 3 none, .fieldLink RX12 218 "LowEnergyModel" "ownIv" "[B", .methodLink RX12 480 yX12_draw, .instanceMethod yX12_draw, .selects RX12 yX12_draw yX12_draw, .code yX12_draw cX12_draw 2 (some .int), .fieldLink RX12 48 "LowEnergyModel" "x" "[I", .constant RX12 395 (1103515245), .fieldLink RX12 215 "LowEnergyModel" "ownSkd" "[B", .methodLink RX12 519 yX12_addsDraws, .instanceMethod yX12_addsDraws, .selects RX12 yX12_addsDraws yX12_addsDraws, .code yX12_addsDraws cX12_addsDraws 3 none, .fieldLink RX12 260 "LowEnergyModel" "pdu" "[B", .methodLink RX12 29 yX12_copy, .static yX12_copy, .code yX12_copy cX12_copy 6 none, .methodLink RX12 436 yX12_adds, .instanceMethod yX12_adds, .selects RX12 yX12_adds yX12_adds, .code yX12_adds cX12_adds 5 none, .fieldLink RX12 203 "LowEnergyModel" "control" "[B", .fieldLink RX12 221 "LowEnergyModel" "controlMany" "[I"] : List Cond) ++ (wsX120 ++ ([])))
theorem hi_M_encrypt_X12 : ∀ x ∈ u_ws RX12 TX12 123, x ∈ wp_M_encrypt := fun _ h => List.mem_cons_of_mem _ (List.mem_append_right _ (List.mem_append_left _ h))
set_option maxRecDepth 100000 in
theorem gd_M_encrypt_M_mayControl_683 : GoodIn wp_M_encrypt (wsV RX12 683 RX12 yX12_mayControl wp_M_mayControl) := goodIn_app (goodIn_r _ [2, 3, 4, 5] rfl rfl) (goodIn_ca (goodIn_r _ [6, 7, 8, 5, 9, 10, 11, 12, 13, 14, 15, 16] rfl rfl) (goodIn_app (goodIn_cls hi_M_encrypt_X12 gw_X12) (goodIn_nil)))
set_option maxRecDepth 100000 in
theorem gd_M_encrypt_M_draws_512 : GoodIn wp_M_encrypt (wsV RX12 512 RX12 yX12_draws wp_M_draws) := goodIn_app (goodIn_r _ [22, 23, 24, 5] rfl rfl) (goodIn_ca (goodIn_r _ [25, 26, 27, 28, 29, 5, 30, 31, 32, 33] rfl rfl) (goodIn_app (goodIn_cls hi_M_encrypt_X12 gw_X12) (goodIn_nil)))
set_option maxRecDepth 100000 in
theorem gd_M_encrypt_M_addsDraws_519 : GoodIn wp_M_encrypt (wsV RX12 519 RX12 yX12_addsDraws wp_M_addsDraws) := goodIn_app (goodIn_r _ [34, 35, 36, 5] rfl rfl) (goodIn_ca (goodIn_r _ [37, 38, 33, 39, 40, 5, 41, 26, 42, 43, 44, 45, 15, 46, 47] rfl rfl) (goodIn_app (goodIn_cls hi_M_encrypt_X12 gw_X12) (goodIn_nil)))
set_option maxHeartbeats 4000000 in
set_option maxRecDepth 100000 in
theorem b_M_encrypt {p : Program} {l : Launch} {e : Env} {R : Room} {s : State} {m : MethodId} {args : Array Value} {below : List Frame} {meth : Method} {c : Code} {D : va_G} {K : Nat → ClassId} {A : Nat → Prop} {Q : State → Prop} {τ : Nat → Option Ty} {dom : List Nat} {zb zL : Nat} {zx : Nat → Int32} {zs : Nat → Nat} (hR : 3 ≤ R.frames ∧ 71 ≤ R.locals) (B : Bx p s m args c cX12_encrypt 2 RX12 wp_M_encrypt D (tysA K) A) (Z : Sk τ dom) (hz : ZL zb zL zx zs A s s.heap) (h : Nat) (q : Nat → Nat) (Y : MS τ h q) (x1 : Int) (r_x1 : -2147483648 ≤ x1 ∧ x1 ≤ 2147483647) (σ0 : Nat → va_E) (G0 : GM K h q σ0) (hend : ∀ (σ' : Nat → va_E) (z : Int) (lv : List (Nat × Value)) (pc : Nat), GM K h q σ' → Fr τ [(50, 0), (168, 0), (169, 0), (170, 0), (174, 0), (108, 0), (165, 0), (166, 0), (180, 0), (161, 0), (167, 0), (157, 0)] σ0 σ' → (0 ≤ z ∧ z ≤ 1) → decode cX12_encrypt pc = .ok (.ireturn, 1) → V p l e R s m args below meth c 2 D A Q (0, 0) (fd dom σ') lv pc [.int (iI z)]) : V p l e R s m args below meth c 2 D A Q (0, 0) (fd dom σ0) [(0, .ref h), (1, .int (iI x1))] 0 [] := by
  have F0 : Fr τ [(50, 0), (168, 0), (169, 0), (170, 0), (174, 0), (108, 0), (165, 0), (166, 0), (180, 0), (161, 0), (167, 0), (157, 0)] σ0 σ0 := Fr.rf
  obtain ⟨z1, z2, z3, z4, z5, h6, r7, r8, r9, r10, r11⟩ := G0.t.o
  refine v_aload_n B dX12_encrypt_0 rfl rfl ?_
  refine v_iconst B (v := iI 0) dX12_encrypt_1 rfl ?_
  refine u_put B Z (C := RX12) (T := TX12) (N := 123) (ci := 12) hi_M_encrypt_X12 Y.o h6 rfl 0 (by decide +kernel) tyX12 tyX12_ok nmX12 (List.mem_of_getElem? (i := 1) rfl) rfl (ty := .int) (tyX12_ok 0 (by decide +kernel)) rfl rfl (Nat.le_of_ble_eq_true rfl) (fs' := fsM q (iI 0) (iI z2) (iI z3) (iI z4) (iI z5)) rfl dX12_encrypt_2 (fun σ12 h13 n14 => ?_)
  have F15 := F0.put Y.o (by simp) n14
  have G16 := G0.putO Y ⟨0, z2, z3, z4, z5, h13, ⟨by omega, by omega⟩, ⟨by omega, by omega⟩, ⟨by omega, by omega⟩, ⟨by omega, by omega⟩, ⟨by omega, by omega⟩⟩ n14
  refine v_aload_n B dX12_encrypt_5 rfl rfl ?_
  refine v_iload_n B dX12_encrypt_6 rfl rfl ?_
  refine u_callVi B Z hz (n := 1) (As := [.int (iI x1)]) (rest := []) (c_M_mayControl l D K Z _ _ _ _ h q Y x1 ⟨by omega, by omega⟩ σ12 (G16.t)) gd_M_encrypt_M_mayControl_683 rfl rfl rfl (by decide +kernel) ⟨Nat.le_trans (by decide +kernel) hR.1, Nat.le_trans (by decide +kernel) hR.2⟩ Y.o (clsM G16.t) rfl rfl rfl rfl (Nat.le_of_ble_eq_true rfl) dX12_encrypt_7 ⟨Nat.zero_le _, Nat.zero_le _⟩ (fun v19 σ17 p18 => ?_)
  obtain ⟨rfl, z20, e21, r22, po23⟩ := p18
  subst e21
  obtain ⟨f24, h25, e26⟩ := ga_57 G16.t
  obtain ⟨z27, e28, r29⟩ := e26 (x1 : Int).toNat
  have r30 : z20 = 1 → (0 ≤ x1 ∧ x1 ≤ 1) ∧ z27 ≤ 4 := fun q => ⟨⟨(po23 q).1, (po23 q).2.1⟩, ((po23 q).2.2.use h25 e28 (by omega)).2⟩
  refine u_if_eq B (tgt := 41) (by omega) dX12_encrypt_10 (by decide +kernel) (fun c31 => ?_) (fun c31 => ?_)
  · refine v_iconst B (v := iI 0) dX12_encrypt_41 rfl ?_
    exact hend σ12 0 _ _ G16 F15 ⟨by omega, by omega⟩ dX12_encrypt_42
  · refine v_aload_n B dX12_encrypt_13 rfl rfl ?_
    refine u_get B Z (C := RX12) (T := TX12) (N := 123) (ci := 12) hi_M_encrypt_X12 Y.o h13 rfl 7 (by decide +kernel) (List.mem_of_getElem? (i := 14) rfl) rfl dX12_encrypt_14 ?_
    refine v_iload_n B dX12_encrypt_17 rfl rfl ?_
    obtain ⟨f32, h33, e34⟩ := ga_7 G16.t
    obtain ⟨z35, e36, r37⟩ := e34 (x1 : Int).toNat
    refine u_iald B Z (t0 := 0) (ym_7 Y) h33 rfl (by omega) e36 dX12_encrypt_18 ?_
    refine v_iconst B (v := iI 4) dX12_encrypt_19 rfl ?_
    refine u_icmp_ne B (tgt := 41) (by omega) (by omega) dX12_encrypt_20 (by decide +kernel) (fun c38 => ?_) (fun c38 => ?_)
    · refine v_iconst B (v := iI 0) dX12_encrypt_41 rfl ?_
      exact hend σ12 0 _ _ G16 F15 ⟨by omega, by omega⟩ dX12_encrypt_42
    · refine v_aload_n B dX12_encrypt_23 rfl rfl ?_
      refine u_get B Z (C := RX12) (T := TX12) (N := 123) (ci := 12) hi_M_encrypt_X12 Y.o h13 rfl 75 (by decide +kernel) (List.mem_of_getElem? (i := 17) rfl) rfl dX12_encrypt_24 ?_
      refine v_iload_n B dX12_encrypt_27 rfl rfl ?_
      obtain ⟨f39, h40, e41⟩ := ga_75 G16.t
      obtain ⟨z42, e43, r44⟩ := e41 (x1 : Int).toNat
      refine u_zald B Z (t0 := 3) (ym_75 Y) h40 rfl (by omega) e43 dX12_encrypt_28 ?_
      refine u_if_eq B (tgt := 41) (by omega) dX12_encrypt_29 (by decide +kernel) (fun c45 => ?_) (fun c45 => ?_)
      · refine v_iconst B (v := iI 0) dX12_encrypt_41 rfl ?_
        exact hend σ12 0 _ _ G16 F15 ⟨by omega, by omega⟩ dX12_encrypt_42
      · refine v_aload_n B dX12_encrypt_32 rfl rfl ?_
        refine u_get B Z (C := RX12) (T := TX12) (N := 123) (ci := 12) hi_M_encrypt_X12 Y.o h13 rfl 73 (by decide +kernel) (List.mem_of_getElem? (i := 18) rfl) rfl dX12_encrypt_33 ?_
        refine v_iload_n B dX12_encrypt_36 rfl rfl ?_
        obtain ⟨f46, h47, e48⟩ := ga_73 G16.t
        obtain ⟨z49, e50, r51⟩ := e48 (x1 : Int).toNat
        refine u_zald B Z (t0 := 3) (ym_73 Y) h47 rfl (by omega) e50 dX12_encrypt_37 ?_
        refine u_if_eq B (tgt := 43) (by omega) dX12_encrypt_38 (by decide +kernel) (fun c52 => ?_) (fun c52 => ?_)
        · refine v_aload_n B dX12_encrypt_43 rfl rfl ?_
          refine u_get B Z (C := RX12) (T := TX12) (N := 123) (ci := 12) hi_M_encrypt_X12 Y.o h13 rfl 68 (by decide +kernel) (List.mem_of_getElem? (i := 16) rfl) rfl dX12_encrypt_44 ?_
          refine v_iload_n B dX12_encrypt_47 rfl rfl ?_
          refine v_iconst B (v := iI 1) dX12_encrypt_48 rfl ?_
          obtain ⟨f53, h54, e55⟩ := ga_68 G16.t
          refine u_zast B Z (t0 := 3) (x := iI 1) (y := iI 1) (ym_68 Y) h54 rfl (by omega) (narZ (by omega)) dX12_encrypt_49 (fun σ56 h57 n58 => ?_)
          have e59 := el_upd (z := 1) e55 ⟨by omega, by omega⟩ (x1 : Int).toNat
          have F60 := F15.put (ym_68 Y) (by simp) n58
          have G61 := gp_68 Y G16 ⟨_, h57, e59⟩ n58
          refine v_aload_n B dX12_encrypt_50 rfl rfl ?_
          have h62 := (n58 h (ne_ty Y.o (ym_68 Y) (by decide))).trans (h13)
          refine u_get B Z (C := RX12) (T := TX12) (N := 123) (ci := 12) hi_M_encrypt_X12 Y.o h62 rfl 69 (by decide +kernel) (List.mem_of_getElem? (i := 19) rfl) rfl dX12_encrypt_51 ?_
          refine v_iload_n B dX12_encrypt_54 rfl rfl ?_
          refine v_iconst B (v := iI 1) dX12_encrypt_55 rfl ?_
          obtain ⟨f63, h64, e65⟩ := ga_69 G61.t
          refine u_zast B Z (t0 := 3) (x := iI 1) (y := iI 1) (ym_69 Y) h64 rfl (by omega) (narZ (by omega)) dX12_encrypt_56 (fun σ66 h67 n68 => ?_)
          have e69 := el_upd (z := 1) e65 ⟨by omega, by omega⟩ (x1 : Int).toNat
          have F70 := F60.put (ym_69 Y) (by simp) n68
          have G71 := gp_69 Y G61 ⟨_, h67, e69⟩ n68
          refine v_aload_n B dX12_encrypt_57 rfl rfl ?_
          have h72 := (n68 h (ne_ty Y.o (ym_69 Y) (by decide))).trans (h62)
          refine u_get B Z (C := RX12) (T := TX12) (N := 123) (ci := 12) hi_M_encrypt_X12 Y.o h72 rfl 70 (by decide +kernel) (List.mem_of_getElem? (i := 20) rfl) rfl dX12_encrypt_58 ?_
          refine v_iload_n B dX12_encrypt_61 rfl rfl ?_
          refine v_iconst B (v := iI 0) dX12_encrypt_62 rfl ?_
          obtain ⟨f73, h74, e75⟩ := ga_70 G71.t
          refine u_zast B Z (t0 := 3) (x := iI 0) (y := iI 0) (ym_70 Y) h74 rfl (by omega) (narZ (by omega)) dX12_encrypt_63 (fun σ76 h77 n78 => ?_)
          have e79 := el_upd (z := 0) e75 ⟨by omega, by omega⟩ (x1 : Int).toNat
          have F80 := F70.put (ym_70 Y) (by simp) n78
          have G81 := gp_70 Y G71 ⟨_, h77, e79⟩ n78
          refine v_aload_n B dX12_encrypt_64 rfl rfl ?_
          have h82 := (n78 h (ne_ty Y.o (ym_70 Y) (by decide))).trans (h72)
          refine u_get B Z (C := RX12) (T := TX12) (N := 123) (ci := 12) hi_M_encrypt_X12 Y.o h82 rfl 74 (by decide +kernel) (List.mem_of_getElem? (i := 21) rfl) rfl dX12_encrypt_65 ?_
          refine v_iload_n B dX12_encrypt_68 rfl rfl ?_
          refine v_iconst B (v := iI 0) dX12_encrypt_69 rfl ?_
          obtain ⟨f83, h84, e85⟩ := ga_74 G81.t
          refine u_zast B Z (t0 := 3) (x := iI 0) (y := iI 0) (ym_74 Y) h84 rfl (by omega) (narZ (by omega)) dX12_encrypt_70 (fun σ86 h87 n88 => ?_)
          have e89 := el_upd (z := 0) e85 ⟨by omega, by omega⟩ (x1 : Int).toNat
          have F90 := F80.put (ym_74 Y) (by simp) n88
          have G91 := gp_74 Y G81 ⟨_, h87, e89⟩ n88
          refine v_aload_n B dX12_encrypt_71 rfl rfl ?_
          refine v_iload_n B dX12_encrypt_72 rfl rfl ?_
          refine u_callVv B Z hz (n := 1) (As := [.int (iI x1)]) (rest := []) (c_M_draws l D K Z _ _ _ _ h q Y x1 ⟨by omega, by omega⟩ σ86 G91) gd_M_encrypt_M_draws_512 rfl rfl rfl (by decide +kernel) ⟨Nat.le_trans (by decide +kernel) hR.1, Nat.le_trans (by decide +kernel) hR.2⟩ Y.o (clsM G91.t) rfl rfl rfl rfl (Nat.le_of_ble_eq_true rfl) dX12_encrypt_73 ⟨Nat.zero_le _, Nat.zero_le _⟩ (fun σ92 p93 => ?_)
          obtain ⟨G95, F96⟩ := p93
          have F97 := F90.call F96 (by first | rfl | simp)
          refine v_aload_n B dX12_encrypt_76 rfl rfl ?_
          refine v_iload_n B dX12_encrypt_77 rfl rfl ?_
          refine v_iconst B (v := iI 3) dX12_encrypt_78 rfl ?_
          have h98 := (F96 (q 57) _ (ym_57 Y) (by first | rfl | simp)).trans ((n88 (q 57) (ne_ty (ym_57 Y) (ym_74 Y) (by decide))).trans ((n78 (q 57) (ne_ty (ym_57 Y) (ym_70 Y) (by decide))).trans ((n68 (q 57) (ne_ty (ym_57 Y) (ym_69 Y) (by decide))).trans ((n58 (q 57) (ne_ty (ym_57 Y) (ym_68 Y) (by decide))).trans (h25)))))
          refine u_callVv B Z hz (n := 2) (As := [.int (iI x1), .int (iI 3)]) (rest := []) (c_M_addsDraws l D K Z _ _ _ _ h q Y x1 3 z27 ⟨by omega, by omega⟩ ⟨by omega, by omega⟩ ⟨by omega, by omega⟩ σ92 G95 (At.mk h98 e28 (by omega) ⟨by omega, by omega⟩)) gd_M_encrypt_M_addsDraws_519 rfl rfl rfl (by decide +kernel) ⟨Nat.le_trans (by decide +kernel) hR.1, Nat.le_trans (by decide +kernel) hR.2⟩ Y.o (clsM G95.t) rfl rfl rfl rfl (Nat.le_of_ble_eq_true rfl) dX12_encrypt_79 ⟨Nat.zero_le _, Nat.zero_le _⟩ (fun σ99 p100 => ?_)
          obtain ⟨G103, F104, po102⟩ := p100
          have F105 := F97.call F104 (by first | rfl | simp)
          obtain ⟨f106, h107, e108⟩ := ga_57 G103.t
          obtain ⟨z109, e110, r111⟩ := e108 (x1 : Int).toNat
          have r112 := po102.use h107 e110 (by omega)
          refine v_iconst B (v := iI 1) dX12_encrypt_82 rfl ?_
          exact hend σ99 1 _ _ G103 F105 ⟨by omega, by omega⟩ dX12_encrypt_83
        · refine v_iconst B (v := iI 0) dX12_encrypt_41 rfl ?_
          exact hend σ12 0 _ _ G16 F15 ⟨by omega, by omega⟩ dX12_encrypt_42
set_option maxRecDepth 100000 in
theorem c_M_encrypt (l : Launch) (D : va_G) (K : Nat → ClassId) {τ : Nat → Option Ty} {dom : List Nat} (Z : Sk τ dom) (zb zL : Nat) (zx : Nat → Int32) (zs : Nat → Nat) (h : Nat) (q : Nat → Nat) (Y : MS τ h q) (x1 : Int) (r_x1 : -2147483648 ≤ x1 ∧ x1 ≤ 2147483647) (σ0 : Nat → va_E) (G0 : GM K h q σ0) : MZ l yX12_encrypt wp_M_encrypt ({ frames := 3, cells := 0, slots := 0, locals := 71 }) D (tysA K) [.ref h, .int (iI x1)] (fd dom σ0) zb zL zx zs (Qi D (fun r σ' => GM K h q σ' ∧ Fr τ [(50, 0), (168, 0), (169, 0), (170, 0), (174, 0), (108, 0), (165, 0), (166, 0), (180, 0), (161, 0), (167, 0), (157, 0)] σ0 σ' ∧ ∃ z : Int, r = iI z ∧ (0 ≤ z ∧ z ≤ 1)) (fun σ' => fd dom σ')) 0 0 := by
  refine mz_of (cc := cX12_encrypt) (maxL := 2) (ret := (some .boolean)) (by decide +kernel) rfl (Nat.le_of_ble_eq_true rfl) ?_
  intro p e s m below meth c A B hr hlk _ hz
  exact b_M_encrypt ⟨Nat.le_refl _, Nat.le_refl _⟩ B Z hz h q Y x1 r_x1 σ0 G0 (fun σ' z lv pc G F hZ hd => v_zret B hr hlk (nar01 (by omega)) σ' ⟨G, F, z, rfl, hZ⟩ rfl (Nat.le_refl _) (Nat.le_refl _) hd)

def wp_M_pair : List Cond := .code yX12_pair cX12_pair 3 (some .boolean) :: (([.fieldLink RX12 1 "LowEnergyModel" "thrown" "I", .methodLink RX12 413 yX12_in, .static yX12_in, .initialized RX12, .code yX12_in cX12_in 2 (some .boolean), .fieldLink RX12 45 "LowEnergyModel" "state" "[I", .fieldLink RX12 296 "LowEnergyModel" "step" "[I", .constant RX12 686 (1000000), .fieldLink RX12 275 "LowEnergyModel" "messages" "[I", .fieldLink RX12 302 "LowEnergyModel" "tk" "[I", .methodLink RX12 534 yX12_saysFirst, .instanceMethod yX12_saysFirst, .selects RX12 yX12_saysFirst yX12_saysFirst, .code yX12_saysFirst cX12_saysFirst 3 none, .fieldLink RX12 290 "LowEnergyModel" "said" "[B", .fieldLink RX12 305 "LowEnergyModel" "firstTwo" "[B", .methodLink RX12 29 yX12_copy, .static yX12_copy, .code yX12_copy cX12_copy 6 none, .methodLink RX12 527 yX12_says, .instanceMethod yX12_says, .selects RX12 yX12_says yX12_says, .code yX12_says cX12_says 5 none, .fieldLink RX12 266 "LowEnergyModel" "message" "[B", .methodLink RX12 432 yX12_number, .static yX12_number, .code yX12_number cX12_number 6 none, .fieldLink RX12 272 "LowEnergyModel" "messageMany" "[I"] : List Cond) ++ (wsX120 ++ ([])))
theorem hi_M_pair_X12 : ∀ x ∈ u_ws RX12 TX12 123, x ∈ wp_M_pair := fun _ h => List.mem_cons_of_mem _ (List.mem_append_right _ (List.mem_append_left _ h))
set_option maxRecDepth 100000 in
theorem gd_M_pair_M_in_413 : GoodIn wp_M_pair (va_wsS RX12 413 yX12_in wp_M_in) := goodIn_app (goodIn_r _ [2, 3, 4] rfl rfl) (goodIn_ca (goodIn_r _ [5] rfl rfl) (goodIn_nil))
set_option maxRecDepth 100000 in
theorem gd_M_pair_M_saysFirst_534 : GoodIn wp_M_pair (wsV RX12 534 RX12 yX12_saysFirst wp_M_saysFirst) := goodIn_app (goodIn_r _ [11, 12, 13, 4] rfl rfl) (goodIn_ca (goodIn_r _ [14, 15, 16, 17, 18, 4, 19, 20, 21, 22, 23, 9, 24, 25, 26, 27, 28] rfl rfl) (goodIn_app (goodIn_cls hi_M_pair_X12 gw_X12) (goodIn_nil)))
set_option maxHeartbeats 4000000 in
set_option maxRecDepth 100000 in
theorem b_M_pair {p : Program} {l : Launch} {e : Env} {R : Room} {s : State} {m : MethodId} {args : Array Value} {below : List Frame} {meth : Method} {c : Code} {D : va_G} {K : Nat → ClassId} {A : Nat → Prop} {Q : State → Prop} {τ : Nat → Option Ty} {dom : List Nat} {zb zL : Nat} {zx : Nat → Int32} {zs : Nat → Nat} (hR : 3 ≤ R.frames ∧ 71 ≤ R.locals) (B : Bx p s m args c cX12_pair 3 RX12 wp_M_pair D (tysA K) A) (Z : Sk τ dom) (hz : ZL zb zL zx zs A s s.heap) (h : Nat) (q : Nat → Nat) (Y : MS τ h q) (x1 : Int) (x2 : Int) (r_x1 : -2147483648 ≤ x1 ∧ x1 ≤ 2147483647) (r_x2 : -2147483648 ≤ x2 ∧ x2 ≤ 2147483647) (σ0 : Nat → va_E) (G0 : GM K h q σ0) (hend : ∀ (σ' : Nat → va_E) (z : Int) (lv : List (Nat × Value)) (pc : Nat), GM K h q σ' → Fr τ [(50, 0), (194, 0), (190, 0), (195, 0), (182, 0), (184, 0), (185, 0), (192, 0)] σ0 σ' → (0 ≤ z ∧ z ≤ 1) → decode cX12_pair pc = .ok (.ireturn, 1) → V p l e R s m args below meth c 3 D A Q (0, 0) (fd dom σ') lv pc [.int (iI z)]) : V p l e R s m args below meth c 3 D A Q (0, 0) (fd dom σ0) [(0, .ref h), (1, .int (iI x1)), (2, .int (iI x2))] 0 [] := by
  have F0 : Fr τ [(50, 0), (194, 0), (190, 0), (195, 0), (182, 0), (184, 0), (185, 0), (192, 0)] σ0 σ0 := Fr.rf
  obtain ⟨z1, z2, z3, z4, z5, h6, r7, r8, r9, r10, r11⟩ := G0.t.o
  refine v_aload_n B dX12_pair_0 rfl rfl ?_
  refine v_iconst B (v := iI 0) dX12_pair_1 rfl ?_
  refine u_put B Z (C := RX12) (T := TX12) (N := 123) (ci := 12) hi_M_pair_X12 Y.o h6 rfl 0 (by decide +kernel) tyX12 tyX12_ok nmX12 (List.mem_of_getElem? (i := 1) rfl) rfl (ty := .int) (tyX12_ok 0 (by decide +kernel)) rfl rfl (Nat.le_of_ble_eq_true rfl) (fs' := fsM q (iI 0) (iI z2) (iI z3) (iI z4) (iI z5)) rfl dX12_pair_2 (fun σ12 h13 n14 => ?_)
  have F15 := F0.put Y.o (by simp) n14
  have G16 := G0.putO Y ⟨0, z2, z3, z4, z5, h13, ⟨by omega, by omega⟩, ⟨by omega, by omega⟩, ⟨by omega, by omega⟩, ⟨by omega, by omega⟩, ⟨by omega, by omega⟩⟩ n14
  refine v_iload_n B dX12_pair_5 rfl rfl ?_
  refine v_iconst B (v := iI 2) dX12_pair_6 rfl ?_
  refine u_callSi B Z hz (n := 2) (As := [.int (iI x1), .int (iI 2)]) (rest := []) (c_M_in l D K Z _ _ _ _ h q Y x1 2 ⟨by omega, by omega⟩ ⟨by omega, by omega⟩ σ12 (G16.t)) gd_M_pair_M_in_413 rfl rfl rfl (by decide +kernel) ⟨Nat.le_trans (by decide +kernel) hR.1, Nat.le_trans (by decide +kernel) hR.2⟩ rfl rfl (Nat.le_of_ble_eq_true rfl) dX12_pair_7 ⟨Nat.zero_le _, Nat.zero_le _⟩ (fun v19 σ17 p18 => ?_)
  obtain ⟨rfl, z20, e21, r22, po23⟩ := p18
  subst e21
  refine u_if_eq B (tgt := 53) (by omega) dX12_pair_10 (by decide +kernel) (fun c24 => ?_) (fun c24 => ?_)
  · refine v_iconst B (v := iI 0) dX12_pair_53 rfl ?_
    exact hend σ12 0 _ _ G16 F15 ⟨by omega, by omega⟩ dX12_pair_54
  · refine v_aload_n B dX12_pair_13 rfl rfl ?_
    refine u_get B Z (C := RX12) (T := TX12) (N := 123) (ci := 12) hi_M_pair_X12 Y.o h13 rfl 7 (by decide +kernel) (List.mem_of_getElem? (i := 6) rfl) rfl dX12_pair_14 ?_
    refine v_iload_n B dX12_pair_17 rfl rfl ?_
    obtain ⟨f25, h26, e27⟩ := ga_7 G16.t
    obtain ⟨z28, e29, r30⟩ := e27 (x1 : Int).toNat
    refine u_iald B Z (t0 := 0) (ym_7 Y) h26 rfl (by omega) e29 dX12_pair_18 ?_
    refine v_iconst B (v := iI 4) dX12_pair_19 rfl ?_
    refine u_icmp_ne B (tgt := 53) (by omega) (by omega) dX12_pair_20 (by decide +kernel) (fun c31 => ?_) (fun c31 => ?_)
    · refine v_iconst B (v := iI 0) dX12_pair_53 rfl ?_
      exact hend σ12 0 _ _ G16 F15 ⟨by omega, by omega⟩ dX12_pair_54
    · refine v_aload_n B dX12_pair_23 rfl rfl ?_
      refine u_get B Z (C := RX12) (T := TX12) (N := 123) (ci := 12) hi_M_pair_X12 Y.o h13 rfl 92 (by decide +kernel) (List.mem_of_getElem? (i := 7) rfl) rfl dX12_pair_24 ?_
      refine v_iload_n B dX12_pair_27 rfl rfl ?_
      obtain ⟨f32, h33, e34⟩ := ga_92 G16.t
      obtain ⟨z35, e36, r37⟩ := e34 (x1 : Int).toNat
      refine u_iald B Z (t0 := 0) (ym_92 Y) h33 rfl (by omega) e36 dX12_pair_28 ?_
      refine u_if_ne B (tgt := 53) (by omega) dX12_pair_29 (by decide +kernel) (fun c38 => ?_) (fun c38 => ?_)
      · refine v_iconst B (v := iI 0) dX12_pair_53 rfl ?_
        exact hend σ12 0 _ _ G16 F15 ⟨by omega, by omega⟩ dX12_pair_54
      · refine v_iload_n B dX12_pair_32 rfl rfl ?_
        refine v_ldcw B (v := iI 1000000) (u_ci (List.mem_of_getElem? (i := 8) rfl) (by decide +kernel)) dX12_pair_33 ?_
        refine u_callSi B Z hz (n := 2) (As := [.int (iI x2), .int (iI 1000000)]) (rest := []) (c_M_in l D K Z _ _ _ _ h q Y x2 1000000 ⟨by omega, by omega⟩ ⟨by omega, by omega⟩ σ12 (G16.t)) gd_M_pair_M_in_413 rfl rfl rfl (by decide +kernel) ⟨Nat.le_trans (by decide +kernel) hR.1, Nat.le_trans (by decide +kernel) hR.2⟩ rfl rfl (Nat.le_of_ble_eq_true rfl) dX12_pair_36 ⟨Nat.zero_le _, Nat.zero_le _⟩ (fun v41 σ39 p40 => ?_)
        obtain ⟨rfl, z42, e43, r44, po45⟩ := p40
        subst e43
        refine u_if_eq B (tgt := 53) (by omega) dX12_pair_39 (by decide +kernel) (fun c46 => ?_) (fun c46 => ?_)
        · refine v_iconst B (v := iI 0) dX12_pair_53 rfl ?_
          exact hend σ12 0 _ _ G16 F15 ⟨by omega, by omega⟩ dX12_pair_54
        · refine v_aload_n B dX12_pair_42 rfl rfl ?_
          refine u_get B Z (C := RX12) (T := TX12) (N := 123) (ci := 12) hi_M_pair_X12 Y.o h13 rfl 85 (by decide +kernel) (List.mem_of_getElem? (i := 9) rfl) rfl dX12_pair_43 ?_
          refine v_iload_n B dX12_pair_46 rfl rfl ?_
          obtain ⟨f47, h48, e49⟩ := ga_85 G16.t
          obtain ⟨z50, e51, r52⟩ := e49 (x1 : Int).toNat
          refine u_iald B Z (t0 := 0) (ym_85 Y) h48 rfl (by omega) e51 dX12_pair_47 ?_
          refine v_bipush B (v := iI 8) dX12_pair_48 (by decide +kernel) ?_
          refine u_icmp_ne B (tgt := 55) (by omega) (by omega) dX12_pair_50 (by decide +kernel) (fun c53 => ?_) (fun c53 => ?_)
          · refine v_aload_n B dX12_pair_55 rfl rfl ?_
            refine u_get B Z (C := RX12) (T := TX12) (N := 123) (ci := 12) hi_M_pair_X12 Y.o h13 rfl 94 (by decide +kernel) (List.mem_of_getElem? (i := 10) rfl) rfl dX12_pair_56 ?_
            refine v_iload_n B dX12_pair_59 rfl rfl ?_
            refine v_iload_n B dX12_pair_60 rfl rfl ?_
            obtain ⟨f54, h55, e56⟩ := ga_94 G16.t
            refine u_iast B Z (t0 := 0) (x := iI x2) (ym_94 Y) h55 rfl (by omega) dX12_pair_61 (fun σ57 h58 n59 => ?_)
            have e60 := el_upd (z := x2) e56 ⟨by omega, by omega⟩ (x1 : Int).toNat
            have F61 := F15.put (ym_94 Y) (by simp) n59
            have G62 := gp_94 Y G16 ⟨_, h58, e60⟩ n59
            refine v_aload_n B dX12_pair_62 rfl rfl ?_
            refine v_iload_n B dX12_pair_63 rfl rfl ?_
            refine v_iconst B (v := iI 1) dX12_pair_64 rfl ?_
            have h63 := (n59 (q 85) (ne_ty (ym_85 Y) (ym_94 Y) (by decide))).trans (h48)
            refine u_callVv B Z hz (n := 2) (As := [.int (iI x1), .int (iI 1)]) (rest := []) (c_M_saysFirst l D K Z _ _ _ _ h q Y x1 1 ⟨by omega, by omega⟩ ⟨by omega, by omega⟩ σ57 G62 (At.mk h63 e51 (by omega) ⟨by omega, by omega⟩)) gd_M_pair_M_saysFirst_534 rfl rfl rfl (by decide +kernel) ⟨Nat.le_trans (by decide +kernel) hR.1, Nat.le_trans (by decide +kernel) hR.2⟩ Y.o (clsM G62.t) rfl rfl rfl rfl (Nat.le_of_ble_eq_true rfl) dX12_pair_65 ⟨Nat.zero_le _, Nat.zero_le _⟩ (fun σ64 p65 => ?_)
            obtain ⟨G67, F68⟩ := p65
            have F69 := F61.call F68 (by first | rfl | simp)
            refine v_aload_n B dX12_pair_68 rfl rfl ?_
            have h70 := (F68 h _ Y.o (by first | rfl | simp)).trans ((n59 h (ne_ty Y.o (ym_94 Y) (by decide))).trans (h13))
            refine u_get B Z (C := RX12) (T := TX12) (N := 123) (ci := 12) hi_M_pair_X12 Y.o h70 rfl 92 (by decide +kernel) (List.mem_of_getElem? (i := 7) rfl) rfl dX12_pair_69 ?_
            refine v_iload_n B dX12_pair_72 rfl rfl ?_
            refine v_iconst B (v := iI 1) dX12_pair_73 rfl ?_
            have h71 := (F68 (q 92) _ (ym_92 Y) (by first | rfl | simp)).trans ((n59 (q 92) (ne_ty (ym_92 Y) (ym_94 Y) (by decide))).trans (h33))
            refine u_iast B Z (t0 := 0) (x := iI 1) (ym_92 Y) h71 rfl (by omega) dX12_pair_74 (fun σ72 h73 n74 => ?_)
            have e75 := el_upd (z := 1) e34 ⟨by omega, by omega⟩ (x1 : Int).toNat
            have F76 := F69.put (ym_92 Y) (by simp) n74
            have G77 := gp_92 Y G67 ⟨_, h73, e75⟩ n74
            refine v_iconst B (v := iI 1) dX12_pair_75 rfl ?_
            exact hend σ72 1 _ _ G77 F76 ⟨by omega, by omega⟩ dX12_pair_76
          · refine v_iconst B (v := iI 0) dX12_pair_53 rfl ?_
            exact hend σ12 0 _ _ G16 F15 ⟨by omega, by omega⟩ dX12_pair_54
set_option maxRecDepth 100000 in
theorem c_M_pair (l : Launch) (D : va_G) (K : Nat → ClassId) {τ : Nat → Option Ty} {dom : List Nat} (Z : Sk τ dom) (zb zL : Nat) (zx : Nat → Int32) (zs : Nat → Nat) (h : Nat) (q : Nat → Nat) (Y : MS τ h q) (x1 : Int) (x2 : Int) (r_x1 : -2147483648 ≤ x1 ∧ x1 ≤ 2147483647) (r_x2 : -2147483648 ≤ x2 ∧ x2 ≤ 2147483647) (σ0 : Nat → va_E) (G0 : GM K h q σ0) : MZ l yX12_pair wp_M_pair ({ frames := 3, cells := 0, slots := 0, locals := 71 }) D (tysA K) [.ref h, .int (iI x1), .int (iI x2)] (fd dom σ0) zb zL zx zs (Qi D (fun r σ' => GM K h q σ' ∧ Fr τ [(50, 0), (194, 0), (190, 0), (195, 0), (182, 0), (184, 0), (185, 0), (192, 0)] σ0 σ' ∧ ∃ z : Int, r = iI z ∧ (0 ≤ z ∧ z ≤ 1)) (fun σ' => fd dom σ')) 0 0 := by
  refine mz_of (cc := cX12_pair) (maxL := 3) (ret := (some .boolean)) (by decide +kernel) rfl (Nat.le_of_ble_eq_true rfl) ?_
  intro p e s m below meth c A B hr hlk _ hz
  exact b_M_pair ⟨Nat.le_refl _, Nat.le_refl _⟩ B Z hz h q Y x1 x2 r_x1 r_x2 σ0 G0 (fun σ' z lv pc G F hZ hd => v_zret B hr hlk (nar01 (by omega)) σ' ⟨G, F, z, rfl, hZ⟩ rfl (Nat.le_refl _) (Nat.le_refl _) hd)

def wp_M_allow : List Cond := .code yX12_allow cX12_allow 3 (some .boolean) :: (([.fieldLink RX12 299 "LowEnergyModel" "passkey" "[I", .fieldLink RX12 1 "LowEnergyModel" "thrown" "I", .methodLink RX12 413 yX12_in, .static yX12_in, .initialized RX12, .code yX12_in cX12_in 2 (some .boolean), .constant RX12 686 (1000000)] : List Cond) ++ (wsX120 ++ ([])))
theorem hi_M_allow_X12 : ∀ x ∈ u_ws RX12 TX12 123, x ∈ wp_M_allow := fun _ h => List.mem_cons_of_mem _ (List.mem_append_right _ (List.mem_append_left _ h))
set_option maxRecDepth 100000 in
theorem gd_M_allow_M_in_413 : GoodIn wp_M_allow (va_wsS RX12 413 yX12_in wp_M_in) := goodIn_app (goodIn_r _ [3, 4, 5] rfl rfl) (goodIn_ca (goodIn_r _ [6] rfl rfl) (goodIn_nil))
set_option maxHeartbeats 4000000 in
set_option maxRecDepth 100000 in
theorem b_M_allow {p : Program} {l : Launch} {e : Env} {R : Room} {s : State} {m : MethodId} {args : Array Value} {below : List Frame} {meth : Method} {c : Code} {D : va_G} {K : Nat → ClassId} {A : Nat → Prop} {Q : State → Prop} {τ : Nat → Option Ty} {dom : List Nat} {zb zL : Nat} {zx : Nat → Int32} {zs : Nat → Nat} (hR : 1 ≤ R.frames ∧ 21 ≤ R.locals) (B : Bx p s m args c cX12_allow 3 RX12 wp_M_allow D (tysA K) A) (Z : Sk τ dom) (hz : ZL zb zL zx zs A s s.heap) (h : Nat) (q : Nat → Nat) (Y : MS τ h q) (x1 : Int) (x2 : Int) (r_x1 : -2147483648 ≤ x1 ∧ x1 ≤ 2147483647) (r_x2 : -2147483648 ≤ x2 ∧ x2 ≤ 2147483647) (σ0 : Nat → va_E) (G0 : GM K h q σ0) (hend : ∀ (σ' : Nat → va_E) (z : Int) (lv : List (Nat × Value)) (pc : Nat), GM K h q σ' → Fr τ [(50, 0), (193, 0)] σ0 σ' → (0 ≤ z ∧ z ≤ 1) → ((z = 1 ∧ ((0 ≤ x1 ∧ x1 ≤ 1) ∧ (x2 = -1 ∨ (0 ≤ x2 ∧ x2 ≤ 999999)))) ∨ (z = 0 ∧ ¬ ((0 ≤ x1 ∧ x1 ≤ 1) ∧ (x2 = -1 ∨ (0 ≤ x2 ∧ x2 ≤ 999999))))) → decode cX12_allow pc = .ok (.ireturn, 1) → V p l e R s m args below meth c 3 D A Q (0, 0) (fd dom σ') lv pc [.int (iI z)]) : V p l e R s m args below meth c 3 D A Q (0, 0) (fd dom σ0) [(0, .ref h), (1, .int (iI x1)), (2, .int (iI x2))] 0 [] := by
  have F0 : Fr τ [(50, 0), (193, 0)] σ0 σ0 := Fr.rf
  obtain ⟨z1, z2, z3, z4, z5, h6, r7, r8, r9, r10, r11⟩ := G0.t.o
  have J30 : ∀ (σ_30 : Nat → va_E), GM K h q σ_30 → Fr τ [(50, 0), (193, 0)] σ0 σ_30 → (0 ≤ x1 ∧ x1 ≤ 1) → (-1 ≤ x2 ∧ x2 ≤ 999999) → V p l e R s m args below meth c 3 D A Q (0, 0) (fd dom σ_30) [(0, .ref h), (1, .int (iI x1)), (2, .int (iI x2))] 30 [] := by
    intro σ_30 G_30 F_30 rv30_x1 rv30_x2
    refine v_aload_n B dX12_allow_30 rfl rfl ?_
    obtain ⟨z12, z13, z14, z15, z16, h17, r18, r19, r20, r21, r22⟩ := G_30.t.o
    refine u_get B Z (C := RX12) (T := TX12) (N := 123) (ci := 12) hi_M_allow_X12 Y.o h17 rfl 93 (by decide +kernel) (List.mem_of_getElem? (i := 1) rfl) rfl dX12_allow_31 ?_
    refine v_iload_n B dX12_allow_34 rfl rfl ?_
    refine v_iload_n B dX12_allow_35 rfl rfl ?_
    obtain ⟨f23, h24, e25⟩ := ga_93 G_30.t
    refine u_iast B Z (t0 := 0) (x := iI x2) (ym_93 Y) h24 rfl (by omega) dX12_allow_36 (fun σ26 h27 n28 => ?_)
    have e29 := el_upd (z := x2) e25 ⟨by omega, by omega⟩ (x1 : Int).toNat
    have F30 := F_30.put (ym_93 Y) (by simp) n28
    have G31 := gp_93 Y G_30 ⟨_, h27, e29⟩ n28
    refine v_iconst B (v := iI 1) dX12_allow_37 rfl ?_
    exact hend σ26 1 _ _ G31 F30 ⟨by omega, by omega⟩ (by omega) dX12_allow_38
  refine v_aload_n B dX12_allow_0 rfl rfl ?_
  refine v_iconst B (v := iI 0) dX12_allow_1 rfl ?_
  refine u_put B Z (C := RX12) (T := TX12) (N := 123) (ci := 12) hi_M_allow_X12 Y.o h6 rfl 0 (by decide +kernel) tyX12 tyX12_ok nmX12 (List.mem_of_getElem? (i := 2) rfl) rfl (ty := .int) (tyX12_ok 0 (by decide +kernel)) rfl rfl (Nat.le_of_ble_eq_true rfl) (fs' := fsM q (iI 0) (iI z2) (iI z3) (iI z4) (iI z5)) rfl dX12_allow_2 (fun σ32 h33 n34 => ?_)
  have F35 := F0.put Y.o (by simp) n34
  have G36 := G0.putO Y ⟨0, z2, z3, z4, z5, h33, ⟨by omega, by omega⟩, ⟨by omega, by omega⟩, ⟨by omega, by omega⟩, ⟨by omega, by omega⟩, ⟨by omega, by omega⟩⟩ n34
  refine v_iload_n B dX12_allow_5 rfl rfl ?_
  refine v_iconst B (v := iI 2) dX12_allow_6 rfl ?_
  refine u_callSi B Z hz (n := 2) (As := [.int (iI x1), .int (iI 2)]) (rest := []) (c_M_in l D K Z _ _ _ _ h q Y x1 2 ⟨by omega, by omega⟩ ⟨by omega, by omega⟩ σ32 (G36.t)) gd_M_allow_M_in_413 rfl rfl rfl (by decide +kernel) ⟨Nat.le_trans (by decide +kernel) hR.1, Nat.le_trans (by decide +kernel) hR.2⟩ rfl rfl (Nat.le_of_ble_eq_true rfl) dX12_allow_7 ⟨Nat.zero_le _, Nat.zero_le _⟩ (fun v39 σ37 p38 => ?_)
  obtain ⟨rfl, z40, e41, r42, po43⟩ := p38
  subst e41
  refine u_if_eq B (tgt := 28) (by omega) dX12_allow_10 (by decide +kernel) (fun c44 => ?_) (fun c44 => ?_)
  · refine v_iconst B (v := iI 0) dX12_allow_28 rfl ?_
    exact hend σ32 0 _ _ G36 F35 ⟨by omega, by omega⟩ (by omega) dX12_allow_29
  · refine v_iload_n B dX12_allow_13 rfl rfl ?_
    refine v_iconst B (v := iI (-1)) dX12_allow_14 rfl ?_
    refine u_icmp_eq B (tgt := 30) (by omega) (by omega) dX12_allow_15 (by decide +kernel) (fun c45 => ?_) (fun c45 => ?_)
    · exact J30 σ32 G36 F35 ⟨by omega, by omega⟩ ⟨by omega, by omega⟩
    · refine v_iload_n B dX12_allow_18 rfl rfl ?_
      refine v_ldcw B (v := iI 1000000) (u_ci (List.mem_of_getElem? (i := 7) rfl) (by decide +kernel)) dX12_allow_19 ?_
      refine u_callSi B Z hz (n := 2) (As := [.int (iI x2), .int (iI 1000000)]) (rest := []) (c_M_in l D K Z _ _ _ _ h q Y x2 1000000 ⟨by omega, by omega⟩ ⟨by omega, by omega⟩ σ32 (G36.t)) gd_M_allow_M_in_413 rfl rfl rfl (by decide +kernel) ⟨Nat.le_trans (by decide +kernel) hR.1, Nat.le_trans (by decide +kernel) hR.2⟩ rfl rfl (Nat.le_of_ble_eq_true rfl) dX12_allow_22 ⟨Nat.zero_le _, Nat.zero_le _⟩ (fun v48 σ46 p47 => ?_)
      obtain ⟨rfl, z49, e50, r51, po52⟩ := p47
      subst e50
      refine u_if_ne B (tgt := 30) (by omega) dX12_allow_25 (by decide +kernel) (fun c53 => ?_) (fun c53 => ?_)
      · exact J30 σ32 G36 F35 ⟨by omega, by omega⟩ ⟨by omega, by omega⟩
      · refine v_iconst B (v := iI 0) dX12_allow_28 rfl ?_
        exact hend σ32 0 _ _ G36 F35 ⟨by omega, by omega⟩ (by omega) dX12_allow_29
set_option maxRecDepth 100000 in
theorem c_M_allow (l : Launch) (D : va_G) (K : Nat → ClassId) {τ : Nat → Option Ty} {dom : List Nat} (Z : Sk τ dom) (zb zL : Nat) (zx : Nat → Int32) (zs : Nat → Nat) (h : Nat) (q : Nat → Nat) (Y : MS τ h q) (x1 : Int) (x2 : Int) (r_x1 : -2147483648 ≤ x1 ∧ x1 ≤ 2147483647) (r_x2 : -2147483648 ≤ x2 ∧ x2 ≤ 2147483647) (σ0 : Nat → va_E) (G0 : GM K h q σ0) : MZ l yX12_allow wp_M_allow ({ frames := 1, cells := 0, slots := 0, locals := 21 }) D (tysA K) [.ref h, .int (iI x1), .int (iI x2)] (fd dom σ0) zb zL zx zs (Qi D (fun r σ' => GM K h q σ' ∧ Fr τ [(50, 0), (193, 0)] σ0 σ' ∧ ∃ z : Int, r = iI z ∧ (0 ≤ z ∧ z ≤ 1) ∧ ((z = 1 ∧ ((0 ≤ x1 ∧ x1 ≤ 1) ∧ (x2 = -1 ∨ (0 ≤ x2 ∧ x2 ≤ 999999)))) ∨ (z = 0 ∧ ¬ ((0 ≤ x1 ∧ x1 ≤ 1) ∧ (x2 = -1 ∨ (0 ≤ x2 ∧ x2 ≤ 999999)))))) (fun σ' => fd dom σ')) 0 0 := by
  refine mz_of (cc := cX12_allow) (maxL := 3) (ret := (some .boolean)) (by decide +kernel) rfl (Nat.le_of_ble_eq_true rfl) ?_
  intro p e s m below meth c A B hr hlk _ hz
  exact b_M_allow ⟨Nat.le_refl _, Nat.le_refl _⟩ B Z hz h q Y x1 x2 r_x1 r_x2 σ0 G0 (fun σ' z lv pc G F hZ hP hd => v_zret B hr hlk (nar01 (by omega)) σ' ⟨G, F, z, rfl, hZ, hP⟩ rfl (Nat.le_refl _) (Nat.le_refl _) hd)

def wp_M_features : List Cond := .code yX12_features cX12_features 4 (some .boolean) :: (([.fieldLink RX12 1 "LowEnergyModel" "thrown" "I", .methodLink RX12 413 yX12_in, .static yX12_in, .initialized RX12, .code yX12_in cX12_in 2 (some .boolean), .fieldLink RX12 76 "LowEnergyModel" "features" "[J"] : List Cond) ++ (wsX120 ++ ([])))
theorem hi_M_features_X12 : ∀ x ∈ u_ws RX12 TX12 123, x ∈ wp_M_features := fun _ h => List.mem_cons_of_mem _ (List.mem_append_right _ (List.mem_append_left _ h))
set_option maxRecDepth 100000 in
theorem gd_M_features_M_in_413 : GoodIn wp_M_features (va_wsS RX12 413 yX12_in wp_M_in) := goodIn_app (goodIn_r _ [2, 3, 4] rfl rfl) (goodIn_ca (goodIn_r _ [5] rfl rfl) (goodIn_nil))
set_option maxHeartbeats 4000000 in
set_option maxRecDepth 100000 in
theorem b_M_features {p : Program} {l : Launch} {e : Env} {R : Room} {s : State} {m : MethodId} {args : Array Value} {below : List Frame} {meth : Method} {c : Code} {D : va_G} {K : Nat → ClassId} {A : Nat → Prop} {Q : State → Prop} {τ : Nat → Option Ty} {dom : List Nat} {zb zL : Nat} {zx : Nat → Int32} {zs : Nat → Nat} (hR : 1 ≤ R.frames ∧ 21 ≤ R.locals) (B : Bx p s m args c cX12_features 4 RX12 wp_M_features D (tysA K) A) (Z : Sk τ dom) (hz : ZL zb zL zx zs A s s.heap) (h : Nat) (q : Nat → Nat) (Y : MS τ h q) (x1 : Int) (y2 : Int) (r_x1 : -2147483648 ≤ x1 ∧ x1 ≤ 2147483647) (r_y2 : InL y2) (σ0 : Nat → va_E) (G0 : GM K h q σ0) (hend : ∀ (σ' : Nat → va_E) (z : Int) (lv : List (Nat × Value)) (pc : Nat), GM K h q σ' → Fr τ [(50, 0), (117, 0)] σ0 σ' → (0 ≤ z ∧ z ≤ 1) → ((z = 1 ∧ (0 ≤ x1 ∧ x1 ≤ 1)) ∨ (z = 0 ∧ ¬ (0 ≤ x1 ∧ x1 ≤ 1))) → decode cX12_features pc = .ok (.ireturn, 1) → V p l e R s m args below meth c 4 D A Q (0, 0) (fd dom σ') lv pc [.int (iI z)]) : V p l e R s m args below meth c 4 D A Q (0, 0) (fd dom σ0) [(0, .ref h), (1, .int (iI x1)), (2, .long (lI y2))] 0 [] := by
  have F0 : Fr τ [(50, 0), (117, 0)] σ0 σ0 := Fr.rf
  obtain ⟨z1, z2, z3, z4, z5, h6, r7, r8, r9, r10, r11⟩ := G0.t.o
  refine v_aload_n B dX12_features_0 rfl rfl ?_
  refine v_iconst B (v := iI 0) dX12_features_1 rfl ?_
  refine u_put B Z (C := RX12) (T := TX12) (N := 123) (ci := 12) hi_M_features_X12 Y.o h6 rfl 0 (by decide +kernel) tyX12 tyX12_ok nmX12 (List.mem_of_getElem? (i := 1) rfl) rfl (ty := .int) (tyX12_ok 0 (by decide +kernel)) rfl rfl (Nat.le_of_ble_eq_true rfl) (fs' := fsM q (iI 0) (iI z2) (iI z3) (iI z4) (iI z5)) rfl dX12_features_2 (fun σ12 h13 n14 => ?_)
  have F15 := F0.put Y.o (by simp) n14
  have G16 := G0.putO Y ⟨0, z2, z3, z4, z5, h13, ⟨by omega, by omega⟩, ⟨by omega, by omega⟩, ⟨by omega, by omega⟩, ⟨by omega, by omega⟩, ⟨by omega, by omega⟩⟩ n14
  refine v_iload_n B dX12_features_5 rfl rfl ?_
  refine v_iconst B (v := iI 2) dX12_features_6 rfl ?_
  refine u_callSi B Z hz (n := 2) (As := [.int (iI x1), .int (iI 2)]) (rest := []) (c_M_in l D K Z _ _ _ _ h q Y x1 2 ⟨by omega, by omega⟩ ⟨by omega, by omega⟩ σ12 (G16.t)) gd_M_features_M_in_413 rfl rfl rfl (by decide +kernel) ⟨Nat.le_trans (by decide +kernel) hR.1, Nat.le_trans (by decide +kernel) hR.2⟩ rfl rfl (Nat.le_of_ble_eq_true rfl) dX12_features_7 ⟨Nat.zero_le _, Nat.zero_le _⟩ (fun v19 σ17 p18 => ?_)
  obtain ⟨rfl, z20, e21, r22, po23⟩ := p18
  subst e21
  refine u_if_ne B (tgt := 15) (by omega) dX12_features_10 (by decide +kernel) (fun c24 => ?_) (fun c24 => ?_)
  · refine v_aload_n B dX12_features_15 rfl rfl ?_
    refine u_get B Z (C := RX12) (T := TX12) (N := 123) (ci := 12) hi_M_features_X12 Y.o h13 rfl 17 (by decide +kernel) (List.mem_of_getElem? (i := 6) rfl) rfl dX12_features_16 ?_
    refine v_iload_n B dX12_features_19 rfl rfl ?_
    refine v_lload_n B dX12_features_20 rfl rfl ?_
    obtain ⟨f25, h26⟩ := ga_17 G16.t
    refine u_last B Z (t0 := 1) (x := lI y2) (ym_17 Y) h26 rfl (by omega) dX12_features_21 (fun σ28 h29 n30 => ?_)
    have F31 := F15.put (ym_17 Y) (by simp) n30
    have G32 := gp_17 Y G16 ⟨_, h29⟩ n30
    refine v_iconst B (v := iI 1) dX12_features_22 rfl ?_
    exact hend σ28 1 _ _ G32 F31 ⟨by omega, by omega⟩ (by omega) dX12_features_23
  · refine v_iconst B (v := iI 0) dX12_features_13 rfl ?_
    exact hend σ12 0 _ _ G16 F15 ⟨by omega, by omega⟩ (by omega) dX12_features_14
set_option maxRecDepth 100000 in
theorem c_M_features (l : Launch) (D : va_G) (K : Nat → ClassId) {τ : Nat → Option Ty} {dom : List Nat} (Z : Sk τ dom) (zb zL : Nat) (zx : Nat → Int32) (zs : Nat → Nat) (h : Nat) (q : Nat → Nat) (Y : MS τ h q) (x1 : Int) (y2 : Int) (r_x1 : -2147483648 ≤ x1 ∧ x1 ≤ 2147483647) (r_y2 : InL y2) (σ0 : Nat → va_E) (G0 : GM K h q σ0) : MZ l yX12_features wp_M_features ({ frames := 1, cells := 0, slots := 0, locals := 21 }) D (tysA K) [.ref h, .int (iI x1), .long (lI y2)] (fd dom σ0) zb zL zx zs (Qi D (fun r σ' => GM K h q σ' ∧ Fr τ [(50, 0), (117, 0)] σ0 σ' ∧ ∃ z : Int, r = iI z ∧ (0 ≤ z ∧ z ≤ 1) ∧ ((z = 1 ∧ (0 ≤ x1 ∧ x1 ≤ 1)) ∨ (z = 0 ∧ ¬ (0 ≤ x1 ∧ x1 ≤ 1)))) (fun σ' => fd dom σ')) 0 0 := by
  refine mz_of (cc := cX12_features) (maxL := 4) (ret := (some .boolean)) (by decide +kernel) rfl (Nat.le_of_ble_eq_true rfl) ?_
  intro p e s m below meth c A B hr hlk _ hz
  exact b_M_features ⟨Nat.le_refl _, Nat.le_refl _⟩ B Z hz h q Y x1 y2 r_x1 r_y2 σ0 G0 (fun σ' z lv pc G F hZ hP hd => v_zret B hr hlk (nar01 (by omega)) σ' ⟨G, F, z, rfl, hZ, hP⟩ rfl (Nat.le_refl _) (Nat.le_refl _) hd)

def wp_M_becomes : List Cond := .code yX12_becomes cX12_becomes 3 none :: (([.fieldLink RX12 329 "LowEnergyModel" "length" "[I", .methodLink RX12 547 yX12_row, .instanceMethod yX12_row, .selects RX12 yX12_row yX12_row, .initialized RX12, .code yX12_row cX12_row 3 (some .int), .fieldLink RX12 7 "LowEnergyModel" "taped" "I", .fieldLink RX12 10 "LowEnergyModel" "tape" "[B", .fieldLink RX12 341 "LowEnergyModel" "values" "[B", .methodLink RX12 29 yX12_copy, .static yX12_copy, .code yX12_copy cX12_copy 6 none] : List Cond) ++ (wsX120 ++ ([])))
theorem hi_M_becomes_X12 : ∀ x ∈ u_ws RX12 TX12 123, x ∈ wp_M_becomes := fun _ h => List.mem_cons_of_mem _ (List.mem_append_right _ (List.mem_append_left _ h))
set_option maxRecDepth 100000 in
theorem gd_M_becomes_M_row_547 : GoodIn wp_M_becomes (wsV RX12 547 RX12 yX12_row wp_M_row) := goodIn_app (goodIn_r _ [2, 3, 4, 5] rfl rfl) (goodIn_ca (goodIn_r _ [6] rfl rfl) (goodIn_nil))
set_option maxRecDepth 100000 in
theorem gd_M_becomes_M_copy_29 : GoodIn wp_M_becomes (va_wsS RX12 29 yX12_copy wp_M_copy) := goodIn_app (goodIn_r _ [10, 11, 5] rfl rfl) (goodIn_ca (goodIn_r _ [12] rfl rfl) (goodIn_nil))
set_option maxHeartbeats 4000000 in
set_option maxRecDepth 100000 in
theorem b_M_becomes {p : Program} {l : Launch} {e : Env} {R : Room} {s : State} {m : MethodId} {args : Array Value} {below : List Frame} {meth : Method} {c : Code} {D : va_G} {K : Nat → ClassId} {A : Nat → Prop} {Q : State → Prop} {τ : Nat → Option Ty} {dom : List Nat} {zb zL : Nat} {zx : Nat → Int32} {zs : Nat → Nat} (hR : 1 ≤ R.frames ∧ 25 ≤ R.locals) (B : Bx p s m args c cX12_becomes 3 RX12 wp_M_becomes D (tysA K) A) (Z : Sk τ dom) (hz : ZL zb zL zx zs A s s.heap) (h : Nat) (q : Nat → Nat) (Y : MS τ h q) (d : Int) (x2 : Int) (r_d : 0 ≤ d ∧ d ≤ 1) (r_x2 : 1 ≤ x2 ∧ x2 ≤ 20) (σ0 : Nat → va_E) (G0 : GM K h q σ0) (hT : Fld σ0 h 12 2 (fun y => y ≤ 40)) (hend : ∀ (σ' : Nat → va_E) (lv : List (Nat × Value)) (pc : Nat), GM K h q σ' → Fr τ [(203, 0), (207, 0), (50, 0)] σ0 σ' → decode cX12_becomes pc = .ok (.return_, 1) → V p l e R s m args below meth c 3 D A Q (0, 0) (fd dom σ') lv pc []) : V p l e R s m args below meth c 3 D A Q (0, 0) (fd dom σ0) [(0, .ref h), (1, .int (iI d)), (2, .int (iI x2))] 0 [] := by
  have F0 : Fr τ [(203, 0), (207, 0), (50, 0)] σ0 σ0 := Fr.rf
  obtain ⟨z1, z2, z3, z4, z5, h6, r7, r8, r9, r10, r11⟩ := G0.t.o
  have r12 : z2 ≤ 40 := hT.use h6 (j := 2) rfl (by omega)
  refine v_aload_n B dX12_becomes_0 rfl rfl ?_
  refine u_get B Z (C := RX12) (T := TX12) (N := 123) (ci := 12) hi_M_becomes_X12 Y.o h6 rfl 103 (by decide +kernel) (List.mem_of_getElem? (i := 1) rfl) rfl dX12_becomes_1 ?_
  refine v_aload_n B dX12_becomes_4 rfl rfl ?_
  refine v_iload_n B dX12_becomes_5 rfl rfl ?_
  refine v_iload_n B dX12_becomes_6 rfl rfl ?_
  refine u_callVi B Z hz (n := 2) (As := [.int (iI d), .int (iI x2)]) (rest := [.ref (q 103)]) (c_M_row l D K Z _ _ _ _ h q Y d x2 ⟨by omega, by omega⟩ ⟨by omega, by omega⟩ σ0 (G0.t)) gd_M_becomes_M_row_547 rfl rfl rfl (by decide +kernel) ⟨Nat.le_trans (by decide +kernel) hR.1, Nat.le_trans (by decide +kernel) hR.2⟩ Y.o (clsM G0.t) rfl rfl rfl rfl (Nat.le_of_ble_eq_true rfl) dX12_becomes_7 ⟨Nat.zero_le _, Nat.zero_le _⟩ (fun v15 σ13 p14 => ?_)
  obtain ⟨rfl, z16, e17, r18, po19⟩ := p14
  subst e17
  subst po19
  show V _ _ _ _ _ _ _ _ _ _ _ _ _ _ _ _ _ _ [.int (iI (20 * d + x2 + (-1))), .ref (q 103)]
  refine v_aload_n B dX12_becomes_10 rfl rfl ?_
  refine u_get B Z (C := RX12) (T := TX12) (N := 123) (ci := 12) hi_M_becomes_X12 Y.o h6 rfl 2 (by decide +kernel) (List.mem_of_getElem? (i := 7) rfl) rfl dX12_becomes_11 ?_
  obtain ⟨f20, h21, e22⟩ := ga_103 G0.t
  refine u_iast B Z (t0 := 0) (x := iI z2) (ym_103 Y) h21 rfl (by omega) dX12_becomes_14 (fun σ23 h24 n25 => ?_)
  have e26 := el_upd (z := z2) e22 ⟨by omega, by omega⟩ ((20 * d + x2 + (-1)) : Int).toNat
  have F27 := F0.put (ym_103 Y) (by simp) n25
  have G28 := gp_103 Y G0 ⟨_, h24, e26⟩ n25
  refine v_aload_n B dX12_becomes_15 rfl rfl ?_
  have h29 := (n25 h (ne_ty Y.o (ym_103 Y) (by decide))).trans (h6)
  refine u_get B Z (C := RX12) (T := TX12) (N := 123) (ci := 12) hi_M_becomes_X12 Y.o h29 rfl 1 (by decide +kernel) (List.mem_of_getElem? (i := 8) rfl) rfl dX12_becomes_16 ?_
  refine v_iconst B (v := iI 0) dX12_becomes_19 rfl ?_
  refine v_aload_n B dX12_becomes_20 rfl rfl ?_
  refine u_get B Z (C := RX12) (T := TX12) (N := 123) (ci := 12) hi_M_becomes_X12 Y.o h29 rfl 107 (by decide +kernel) (List.mem_of_getElem? (i := 9) rfl) rfl dX12_becomes_21 ?_
  refine v_bipush B (v := iI 40) dX12_becomes_24 (by decide +kernel) ?_
  refine v_aload_n B dX12_becomes_26 rfl rfl ?_
  refine v_iload_n B dX12_becomes_27 rfl rfl ?_
  refine v_iload_n B dX12_becomes_28 rfl rfl ?_
  refine u_callVi B Z hz (n := 2) (As := [.int (iI d), .int (iI x2)]) (rest := [.int (iI 40), .ref (q 107), .int (iI 0), .ref (q 1)]) (c_M_row l D K Z _ _ _ _ h q Y d x2 ⟨by omega, by omega⟩ ⟨by omega, by omega⟩ σ23 (G28.t)) gd_M_becomes_M_row_547 rfl rfl rfl (by decide +kernel) ⟨Nat.le_trans (by decide +kernel) hR.1, Nat.le_trans (by decide +kernel) hR.2⟩ Y.o (clsM G28.t) rfl rfl rfl rfl (Nat.le_of_ble_eq_true rfl) dX12_becomes_29 ⟨Nat.zero_le _, Nat.zero_le _⟩ (fun v32 σ30 p31 => ?_)
  obtain ⟨rfl, z33, e34, r35, po36⟩ := p31
  subst e34
  subst po36
  show V _ _ _ _ _ _ _ _ _ _ _ _ _ _ _ _ _ _ [.int (iI (20 * d + x2 + (-1))), .int (iI 40), .ref (q 107), .int (iI 0), .ref (q 1)]
  refine v_imul B (v := iI (800 * d + 40 * x2 + (-40))) dX12_becomes_32 ((iI_mul _ _).trans (congrArg iI (by omega))) ?_
  refine v_aload_n B dX12_becomes_33 rfl rfl ?_
  refine u_get B Z (C := RX12) (T := TX12) (N := 123) (ci := 12) hi_M_becomes_X12 Y.o h29 rfl 2 (by decide +kernel) (List.mem_of_getElem? (i := 7) rfl) rfl dX12_becomes_34 ?_
  refine u_callSv B Z hz (n := 5) (As := [.ref (q 1), .int (iI 0), .ref (q 107), .int (iI (800 * d + 40 * x2 + (-40))), .int (iI z2)]) (rest := []) (c_M_copy l D K Z _ _ _ _ h q Y 1 100 0 107 1600 (800 * d + 40 * x2 + (-40)) z2 rfl ⟨by omega, by omega⟩ rfl ⟨by omega, by omega⟩ ⟨by omega, by omega⟩ σ23 G28 (by omega)) gd_M_becomes_M_copy_29 rfl rfl rfl (by decide +kernel) ⟨Nat.le_trans (by decide +kernel) hR.1, Nat.le_trans (by decide +kernel) hR.2⟩ rfl rfl (Nat.le_of_ble_eq_true rfl) dX12_becomes_37 ⟨Nat.zero_le _, Nat.zero_le _⟩ (fun σ37 p38 => ?_)
  obtain ⟨G40, F41⟩ := p38
  have F42 := F27.call F41 (by first | rfl | simp)
  refine v_aload_n B dX12_becomes_40 rfl rfl ?_
  refine v_iconst B (v := iI 0) dX12_becomes_41 rfl ?_
  have h43 := (F41 h _ Y.o (by first | rfl | simp)).trans (h29)
  refine u_put B Z (C := RX12) (T := TX12) (N := 123) (ci := 12) hi_M_becomes_X12 Y.o h43 rfl 2 (by decide +kernel) tyX12 tyX12_ok nmX12 (List.mem_of_getElem? (i := 7) rfl) rfl (ty := .int) (tyX12_ok 2 (by decide +kernel)) rfl rfl (Nat.le_of_ble_eq_true rfl) (fs' := fsM q (iI z1) (iI 0) (iI z3) (iI z4) (iI z5)) rfl dX12_becomes_42 (fun σ44 h45 n46 => ?_)
  have F47 := F42.put Y.o (by simp) n46
  have G48 := G40.putO Y ⟨z1, 0, z3, z4, z5, h45, ⟨by omega, by omega⟩, ⟨by omega, by omega⟩, ⟨by omega, by omega⟩, ⟨by omega, by omega⟩, ⟨by omega, by omega⟩⟩ n46
  exact hend σ44 _ _ G48 F47 dX12_becomes_45
set_option maxRecDepth 100000 in
theorem c_M_becomes (l : Launch) (D : va_G) (K : Nat → ClassId) {τ : Nat → Option Ty} {dom : List Nat} (Z : Sk τ dom) (zb zL : Nat) (zx : Nat → Int32) (zs : Nat → Nat) (h : Nat) (q : Nat → Nat) (Y : MS τ h q) (d : Int) (x2 : Int) (r_d : 0 ≤ d ∧ d ≤ 1) (r_x2 : 1 ≤ x2 ∧ x2 ≤ 20) (σ0 : Nat → va_E) (G0 : GM K h q σ0) (hT : Fld σ0 h 12 2 (fun y => y ≤ 40)) : MZ l yX12_becomes wp_M_becomes ({ frames := 1, cells := 0, slots := 0, locals := 25 }) D (tysA K) [.ref h, .int (iI d), .int (iI x2)] (fd dom σ0) zb zL zx zs (Qv D (fun σ' => GM K h q σ' ∧ Fr τ [(203, 0), (207, 0), (50, 0)] σ0 σ') (fun σ' => fd dom σ')) 0 0 := by
  refine mz_of (cc := cX12_becomes) (maxL := 3) (ret := none) (by decide +kernel) rfl (Nat.le_of_ble_eq_true rfl) ?_
  intro p e s m below meth c A B hr hlk _ hz
  exact b_M_becomes ⟨Nat.le_refl _, Nat.le_refl _⟩ B Z hz h q Y d x2 r_d r_x2 σ0 G0 hT (fun σ' lv pc G F hd => v_vret B hr hlk σ' ⟨G, F⟩ rfl (Nat.le_refl _) (Nat.le_refl _) hd)

def wp_M_attribute : List Cond := .code yX12_attribute cX12_attribute 5 (some .int) :: (([.fieldLink RX12 1 "LowEnergyModel" "thrown" "I", .methodLink RX12 413 yX12_in, .static yX12_in, .initialized RX12, .code yX12_in cX12_in 2 (some .boolean), .fieldLink RX12 320 "LowEnergyModel" "attributes" "[I", .constant RX12 687 (65536), .fieldLink RX12 7 "LowEnergyModel" "taped" "I", .fieldLink RX12 323 "LowEnergyModel" "type" "[I", .methodLink RX12 547 yX12_row, .instanceMethod yX12_row, .selects RX12 yX12_row yX12_row, .code yX12_row cX12_row 3 (some .int), .fieldLink RX12 326 "LowEnergyModel" "rights" "[I", .methodLink RX12 688 yX12_becomes, .instanceMethod yX12_becomes, .selects RX12 yX12_becomes yX12_becomes, .code yX12_becomes cX12_becomes 3 none, .fieldLink RX12 329 "LowEnergyModel" "length" "[I", .fieldLink RX12 10 "LowEnergyModel" "tape" "[B", .fieldLink RX12 341 "LowEnergyModel" "values" "[B", .methodLink RX12 29 yX12_copy, .static yX12_copy, .code yX12_copy cX12_copy 6 none] : List Cond) ++ (wsX120 ++ ([])))
theorem hi_M_attribute_X12 : ∀ x ∈ u_ws RX12 TX12 123, x ∈ wp_M_attribute := fun _ h => List.mem_cons_of_mem _ (List.mem_append_right _ (List.mem_append_left _ h))
set_option maxRecDepth 100000 in
theorem gd_M_attribute_M_in_413 : GoodIn wp_M_attribute (va_wsS RX12 413 yX12_in wp_M_in) := goodIn_app (goodIn_r _ [2, 3, 4] rfl rfl) (goodIn_ca (goodIn_r _ [5] rfl rfl) (goodIn_nil))
set_option maxRecDepth 100000 in
theorem gd_M_attribute_M_row_547 : GoodIn wp_M_attribute (wsV RX12 547 RX12 yX12_row wp_M_row) := goodIn_app (goodIn_r _ [10, 11, 12, 4] rfl rfl) (goodIn_ca (goodIn_r _ [13] rfl rfl) (goodIn_nil))
set_option maxRecDepth 100000 in
theorem gd_M_attribute_M_becomes_688 : GoodIn wp_M_attribute (wsV RX12 688 RX12 yX12_becomes wp_M_becomes) := goodIn_app (goodIn_r _ [15, 16, 17, 4] rfl rfl) (goodIn_ca (goodIn_r _ [18, 19, 10, 11, 12, 4, 13, 8, 20, 21, 22, 23, 24] rfl rfl) (goodIn_app (goodIn_cls hi_M_attribute_X12 gw_X12) (goodIn_nil)))
set_option maxHeartbeats 4000000 in
set_option maxRecDepth 100000 in
theorem b_M_attribute {p : Program} {l : Launch} {e : Env} {R : Room} {s : State} {m : MethodId} {args : Array Value} {below : List Frame} {meth : Method} {c : Code} {D : va_G} {K : Nat → ClassId} {A : Nat → Prop} {Q : State → Prop} {τ : Nat → Option Ty} {dom : List Nat} {zb zL : Nat} {zx : Nat → Int32} {zs : Nat → Nat} (hR : 2 ≤ R.frames ∧ 47 ≤ R.locals) (B : Bx p s m args c cX12_attribute 5 RX12 wp_M_attribute D (tysA K) A) (Z : Sk τ dom) (hz : ZL zb zL zx zs A s s.heap) (h : Nat) (q : Nat → Nat) (Y : MS τ h q) (x1 : Int) (x2 : Int) (x3 : Int) (r_x1 : -2147483648 ≤ x1 ∧ x1 ≤ 2147483647) (r_x2 : -2147483648 ≤ x2 ∧ x2 ≤ 2147483647) (r_x3 : -2147483648 ≤ x3 ∧ x3 ≤ 2147483647) (σ0 : Nat → va_E) (G0 : GM K h q σ0) (hend : ∀ (σ' : Nat → va_E) (z : Int) (lv : List (Nat × Value)) (pc : Nat), GM K h q σ' → Fr τ [(50, 0), (200, 0), (201, 0), (202, 0), (203, 0), (207, 0)] σ0 σ' → (-1 ≤ z ∧ z ≤ 20) → decode cX12_attribute pc = .ok (.ireturn, 1) → V p l e R s m args below meth c 5 D A Q (0, 0) (fd dom σ') lv pc [.int (iI z)]) : V p l e R s m args below meth c 5 D A Q (0, 0) (fd dom σ0) [(0, .ref h), (1, .int (iI x1)), (2, .int (iI x2)), (3, .int (iI x3))] 0 [] := by
  have F0 : Fr τ [(50, 0), (200, 0), (201, 0), (202, 0), (203, 0), (207, 0)] σ0 σ0 := Fr.rf
  obtain ⟨z1, z2, z3, z4, z5, h6, r7, r8, r9, r10, r11⟩ := G0.t.o
  refine v_aload_n B dX12_attribute_0 rfl rfl ?_
  refine v_iconst B (v := iI 0) dX12_attribute_1 rfl ?_
  refine u_put B Z (C := RX12) (T := TX12) (N := 123) (ci := 12) hi_M_attribute_X12 Y.o h6 rfl 0 (by decide +kernel) tyX12 tyX12_ok nmX12 (List.mem_of_getElem? (i := 1) rfl) rfl (ty := .int) (tyX12_ok 0 (by decide +kernel)) rfl rfl (Nat.le_of_ble_eq_true rfl) (fs' := fsM q (iI 0) (iI z2) (iI z3) (iI z4) (iI z5)) rfl dX12_attribute_2 (fun σ12 h13 n14 => ?_)
  have F15 := F0.put Y.o (by simp) n14
  have G16 := G0.putO Y ⟨0, z2, z3, z4, z5, h13, ⟨by omega, by omega⟩, ⟨by omega, by omega⟩, ⟨by omega, by omega⟩, ⟨by omega, by omega⟩, ⟨by omega, by omega⟩⟩ n14
  refine v_iload_n B dX12_attribute_5 rfl rfl ?_
  refine v_iconst B (v := iI 2) dX12_attribute_6 rfl ?_
  refine u_callSi B Z hz (n := 2) (As := [.int (iI x1), .int (iI 2)]) (rest := []) (c_M_in l D K Z _ _ _ _ h q Y x1 2 ⟨by omega, by omega⟩ ⟨by omega, by omega⟩ σ12 (G16.t)) gd_M_attribute_M_in_413 rfl rfl rfl (by decide +kernel) ⟨Nat.le_trans (by decide +kernel) hR.1, Nat.le_trans (by decide +kernel) hR.2⟩ rfl rfl (Nat.le_of_ble_eq_true rfl) dX12_attribute_7 ⟨Nat.zero_le _, Nat.zero_le _⟩ (fun v19 σ17 p18 => ?_)
  obtain ⟨rfl, z20, e21, r22, po23⟩ := p18
  subst e21
  refine u_if_eq B (tgt := 52) (by omega) dX12_attribute_10 (by decide +kernel) (fun c24 => ?_) (fun c24 => ?_)
  · refine v_iconst B (v := iI (-1)) dX12_attribute_52 rfl ?_
    exact hend σ12 (-1) _ _ G16 F15 ⟨by omega, by omega⟩ dX12_attribute_53
  · refine v_aload_n B dX12_attribute_13 rfl rfl ?_
    refine u_get B Z (C := RX12) (T := TX12) (N := 123) (ci := 12) hi_M_attribute_X12 Y.o h13 rfl 100 (by decide +kernel) (List.mem_of_getElem? (i := 6) rfl) rfl dX12_attribute_14 ?_
    refine v_iload_n B dX12_attribute_17 rfl rfl ?_
    obtain ⟨f25, h26, e27⟩ := ga_100 G16.t
    obtain ⟨z28, e29, r30⟩ := e27 (x1 : Int).toNat
    refine u_iald B Z (t0 := 0) (ym_100 Y) h26 rfl (by omega) e29 dX12_attribute_18 ?_
    refine v_bipush B (v := iI 20) dX12_attribute_19 (by decide +kernel) ?_
    refine u_icmp_eq B (tgt := 52) (by omega) (by omega) dX12_attribute_21 (by decide +kernel) (fun c31 => ?_) (fun c31 => ?_)
    · refine v_iconst B (v := iI (-1)) dX12_attribute_52 rfl ?_
      exact hend σ12 (-1) _ _ G16 F15 ⟨by omega, by omega⟩ dX12_attribute_53
    · refine v_iload_n B dX12_attribute_24 rfl rfl ?_
      refine v_ldcw B (v := iI 65536) (u_ci (List.mem_of_getElem? (i := 7) rfl) (by decide +kernel)) dX12_attribute_25 ?_
      refine u_callSi B Z hz (n := 2) (As := [.int (iI x2), .int (iI 65536)]) (rest := []) (c_M_in l D K Z _ _ _ _ h q Y x2 65536 ⟨by omega, by omega⟩ ⟨by omega, by omega⟩ σ12 (G16.t)) gd_M_attribute_M_in_413 rfl rfl rfl (by decide +kernel) ⟨Nat.le_trans (by decide +kernel) hR.1, Nat.le_trans (by decide +kernel) hR.2⟩ rfl rfl (Nat.le_of_ble_eq_true rfl) dX12_attribute_28 ⟨Nat.zero_le _, Nat.zero_le _⟩ (fun v34 σ32 p33 => ?_)
      obtain ⟨rfl, z35, e36, r37, po38⟩ := p33
      subst e36
      refine u_if_eq B (tgt := 52) (by omega) dX12_attribute_31 (by decide +kernel) (fun c39 => ?_) (fun c39 => ?_)
      · refine v_iconst B (v := iI (-1)) dX12_attribute_52 rfl ?_
        exact hend σ12 (-1) _ _ G16 F15 ⟨by omega, by omega⟩ dX12_attribute_53
      · refine v_iload_n B dX12_attribute_34 rfl rfl ?_
        refine v_bipush B (v := iI 8) dX12_attribute_35 (by decide +kernel) ?_
        refine u_callSi B Z hz (n := 2) (As := [.int (iI x3), .int (iI 8)]) (rest := []) (c_M_in l D K Z _ _ _ _ h q Y x3 8 ⟨by omega, by omega⟩ ⟨by omega, by omega⟩ σ12 (G16.t)) gd_M_attribute_M_in_413 rfl rfl rfl (by decide +kernel) ⟨Nat.le_trans (by decide +kernel) hR.1, Nat.le_trans (by decide +kernel) hR.2⟩ rfl rfl (Nat.le_of_ble_eq_true rfl) dX12_attribute_37 ⟨Nat.zero_le _, Nat.zero_le _⟩ (fun v42 σ40 p41 => ?_)
        obtain ⟨rfl, z43, e44, r45, po46⟩ := p41
        subst e44
        refine u_if_eq B (tgt := 52) (by omega) dX12_attribute_40 (by decide +kernel) (fun c47 => ?_) (fun c47 => ?_)
        · refine v_iconst B (v := iI (-1)) dX12_attribute_52 rfl ?_
          exact hend σ12 (-1) _ _ G16 F15 ⟨by omega, by omega⟩ dX12_attribute_53
        · refine v_aload_n B dX12_attribute_43 rfl rfl ?_
          refine u_get B Z (C := RX12) (T := TX12) (N := 123) (ci := 12) hi_M_attribute_X12 Y.o h13 rfl 2 (by decide +kernel) (List.mem_of_getElem? (i := 8) rfl) rfl dX12_attribute_44 ?_
          refine v_bipush B (v := iI 40) dX12_attribute_47 (by decide +kernel) ?_
          refine u_icmp_le B (tgt := 54) (by omega) (by omega) dX12_attribute_49 (by decide +kernel) (fun c48 => ?_) (fun c48 => ?_)
          · refine v_aload_n B dX12_attribute_54 rfl rfl ?_
            refine u_get B Z (C := RX12) (T := TX12) (N := 123) (ci := 12) hi_M_attribute_X12 Y.o h13 rfl 100 (by decide +kernel) (List.mem_of_getElem? (i := 6) rfl) rfl dX12_attribute_55 ?_
            refine v_iload_n B dX12_attribute_58 rfl rfl ?_
            refine v_dup2 B dX12_attribute_59 rfl rfl ?_
            refine u_iald B Z (t0 := 0) (ym_100 Y) h26 rfl (by omega) e29 dX12_attribute_60 ?_
            refine v_iconst B (v := iI 1) dX12_attribute_61 rfl ?_
            refine v_iadd B (v := iI (z28 + 1)) dX12_attribute_62 ((iI_add _ _).trans (congrArg iI (by omega))) ?_
            refine u_iast B Z (t0 := 0) (x := iI (z28 + 1)) (ym_100 Y) h26 rfl (by omega) dX12_attribute_63 (fun σ49 h50 n51 => ?_)
            have e52 := el_upd (z := (z28 + 1)) e27 ⟨by omega, by omega⟩ (x1 : Int).toNat
            have F53 := F15.put (ym_100 Y) (by simp) n51
            have G54 := gp_100 Y G16 ⟨_, h50, e52⟩ n51
            refine v_aload_n B dX12_attribute_64 rfl rfl ?_
            have h55 := (n51 h (ne_ty Y.o (ym_100 Y) (by decide))).trans (h13)
            refine u_get B Z (C := RX12) (T := TX12) (N := 123) (ci := 12) hi_M_attribute_X12 Y.o h55 rfl 100 (by decide +kernel) (List.mem_of_getElem? (i := 6) rfl) rfl dX12_attribute_65 ?_
            refine v_iload_n B dX12_attribute_68 rfl rfl ?_
            refine u_iald B Z (t0 := 0) (ym_100 Y) h50 rfl (by omega) upd_s dX12_attribute_69 ?_
            refine v_istore B (lv' := [(4, .int (iI (z28 + 1))), (0, .ref h), (1, .int (iI x1)), (2, .int (iI x2)), (3, .int (iI x3))]) dX12_attribute_70 (by decide +kernel) rfl ?_
            refine v_aload_n B dX12_attribute_72 rfl rfl ?_
            refine u_get B Z (C := RX12) (T := TX12) (N := 123) (ci := 12) hi_M_attribute_X12 Y.o h55 rfl 101 (by decide +kernel) (List.mem_of_getElem? (i := 9) rfl) rfl dX12_attribute_73 ?_
            refine v_aload_n B dX12_attribute_76 rfl rfl ?_
            refine v_iload_n B dX12_attribute_77 rfl rfl ?_
            refine v_iload B dX12_attribute_78 rfl ?_
            refine u_callVi B Z hz (n := 2) (As := [.int (iI x1), .int (iI (z28 + 1))]) (rest := [.ref (q 101)]) (c_M_row l D K Z _ _ _ _ h q Y x1 (z28 + 1) ⟨by omega, by omega⟩ ⟨by omega, by omega⟩ σ49 (G54.t)) gd_M_attribute_M_row_547 rfl rfl rfl (by decide +kernel) ⟨Nat.le_trans (by decide +kernel) hR.1, Nat.le_trans (by decide +kernel) hR.2⟩ Y.o (clsM G54.t) rfl rfl rfl rfl (Nat.le_of_ble_eq_true rfl) dX12_attribute_80 ⟨Nat.zero_le _, Nat.zero_le _⟩ (fun v58 σ56 p57 => ?_)
            obtain ⟨rfl, z59, e60, r61, po62⟩ := p57
            subst e60
            subst po62
            rw [show (20 * x1 + (z28 + 1) + (-1) : Int) = (20 * x1 + z28) from by omega]
            show V _ _ _ _ _ _ _ _ _ _ _ _ _ _ _ _ _ _ [.int (iI (20 * x1 + z28)), .ref (q 101)]
            refine v_iload_n B dX12_attribute_83 rfl rfl ?_
            obtain ⟨f63, h64, e65⟩ := ga_101 G54.t
            refine u_iast B Z (t0 := 0) (x := iI x2) (ym_101 Y) h64 rfl (by omega) dX12_attribute_84 (fun σ66 h67 n68 => ?_)
            have e69 := el_upd (z := x2) e65 ⟨by omega, by omega⟩ ((20 * x1 + z28) : Int).toNat
            have F70 := F53.put (ym_101 Y) (by simp) n68
            have G71 := gp_101 Y G54 ⟨_, h67, e69⟩ n68
            refine v_aload_n B dX12_attribute_85 rfl rfl ?_
            have h72 := (n68 h (ne_ty Y.o (ym_101 Y) (by decide))).trans (h55)
            refine u_get B Z (C := RX12) (T := TX12) (N := 123) (ci := 12) hi_M_attribute_X12 Y.o h72 rfl 102 (by decide +kernel) (List.mem_of_getElem? (i := 14) rfl) rfl dX12_attribute_86 ?_
            refine v_aload_n B dX12_attribute_89 rfl rfl ?_
            refine v_iload_n B dX12_attribute_90 rfl rfl ?_
            refine v_iload B dX12_attribute_91 rfl ?_
            refine u_callVi B Z hz (n := 2) (As := [.int (iI x1), .int (iI (z28 + 1))]) (rest := [.ref (q 102)]) (c_M_row l D K Z _ _ _ _ h q Y x1 (z28 + 1) ⟨by omega, by omega⟩ ⟨by omega, by omega⟩ σ66 (G71.t)) gd_M_attribute_M_row_547 rfl rfl rfl (by decide +kernel) ⟨Nat.le_trans (by decide +kernel) hR.1, Nat.le_trans (by decide +kernel) hR.2⟩ Y.o (clsM G71.t) rfl rfl rfl rfl (Nat.le_of_ble_eq_true rfl) dX12_attribute_93 ⟨Nat.zero_le _, Nat.zero_le _⟩ (fun v75 σ73 p74 => ?_)
            obtain ⟨rfl, z76, e77, r78, po79⟩ := p74
            subst e77
            subst po79
            rw [show (20 * x1 + (z28 + 1) + (-1) : Int) = (20 * x1 + z28) from by omega]
            show V _ _ _ _ _ _ _ _ _ _ _ _ _ _ _ _ _ _ [.int (iI (20 * x1 + z28)), .ref (q 102)]
            refine v_iload_n B dX12_attribute_96 rfl rfl ?_
            obtain ⟨f80, h81, e82⟩ := ga_102 G71.t
            refine u_iast B Z (t0 := 0) (x := iI x3) (ym_102 Y) h81 rfl (by omega) dX12_attribute_97 (fun σ83 h84 n85 => ?_)
            have e86 := el_upd (z := x3) e82 ⟨by omega, by omega⟩ ((20 * x1 + z28) : Int).toNat
            have F87 := F70.put (ym_102 Y) (by simp) n85
            have G88 := gp_102 Y G71 ⟨_, h84, e86⟩ n85
            refine v_aload_n B dX12_attribute_98 rfl rfl ?_
            refine v_iload_n B dX12_attribute_99 rfl rfl ?_
            refine v_iload B dX12_attribute_100 rfl ?_
            have h89 := (n85 h (ne_ty Y.o (ym_102 Y) (by decide))).trans (h72)
            refine u_callVv B Z hz (n := 2) (As := [.int (iI x1), .int (iI (z28 + 1))]) (rest := []) (c_M_becomes l D K Z _ _ _ _ h q Y x1 (z28 + 1) ⟨by omega, by omega⟩ ⟨by omega, by omega⟩ σ83 G88 (Fld.mk h89 (j := 2) rfl (by omega) (show z2 ≤ 40 from by omega))) gd_M_attribute_M_becomes_688 rfl rfl rfl (by decide +kernel) ⟨Nat.le_trans (by decide +kernel) hR.1, Nat.le_trans (by decide +kernel) hR.2⟩ Y.o (clsM G88.t) rfl rfl rfl rfl (Nat.le_of_ble_eq_true rfl) dX12_attribute_102 ⟨Nat.zero_le _, Nat.zero_le _⟩ (fun σ90 p91 => ?_)
            obtain ⟨G93, F94⟩ := p91
            have F95 := F87.call F94 (by first | rfl | simp)
            refine v_iload B dX12_attribute_105 rfl ?_
            exact hend σ90 (z28 + 1) _ _ G93 F95 ⟨by omega, by omega⟩ dX12_attribute_107
          · refine v_iconst B (v := iI (-1)) dX12_attribute_52 rfl ?_
            exact hend σ12 (-1) _ _ G16 F15 ⟨by omega, by omega⟩ dX12_attribute_53
set_option maxRecDepth 100000 in
theorem c_M_attribute (l : Launch) (D : va_G) (K : Nat → ClassId) {τ : Nat → Option Ty} {dom : List Nat} (Z : Sk τ dom) (zb zL : Nat) (zx : Nat → Int32) (zs : Nat → Nat) (h : Nat) (q : Nat → Nat) (Y : MS τ h q) (x1 : Int) (x2 : Int) (x3 : Int) (r_x1 : -2147483648 ≤ x1 ∧ x1 ≤ 2147483647) (r_x2 : -2147483648 ≤ x2 ∧ x2 ≤ 2147483647) (r_x3 : -2147483648 ≤ x3 ∧ x3 ≤ 2147483647) (σ0 : Nat → va_E) (G0 : GM K h q σ0) : MZ l yX12_attribute wp_M_attribute ({ frames := 2, cells := 0, slots := 0, locals := 47 }) D (tysA K) [.ref h, .int (iI x1), .int (iI x2), .int (iI x3)] (fd dom σ0) zb zL zx zs (Qi D (fun r σ' => GM K h q σ' ∧ Fr τ [(50, 0), (200, 0), (201, 0), (202, 0), (203, 0), (207, 0)] σ0 σ' ∧ ∃ z : Int, r = iI z ∧ (-1 ≤ z ∧ z ≤ 20)) (fun σ' => fd dom σ')) 0 0 := by
  refine mz_of (cc := cX12_attribute) (maxL := 5) (ret := (some .int)) (by decide +kernel) rfl (Nat.le_of_ble_eq_true rfl) ?_
  intro p e s m below meth c A B hr hlk _ hz
  exact b_M_attribute ⟨Nat.le_refl _, Nat.le_refl _⟩ B Z hz h q Y x1 x2 x3 r_x1 r_x2 r_x3 σ0 G0 (fun σ' z lv pc G F hZ hd => v_iret B hr hlk σ' ⟨G, F, z, rfl, hZ⟩ rfl (Nat.le_refl _) (Nat.le_refl _) hd)

def wp_M_set : List Cond := .code yX12_set cX12_set 3 (some .boolean) :: (([.fieldLink RX12 1 "LowEnergyModel" "thrown" "I", .methodLink RX12 413 yX12_in, .static yX12_in, .initialized RX12, .code yX12_in cX12_in 2 (some .boolean), .methodLink RX12 567 yX12_isHandle, .instanceMethod yX12_isHandle, .selects RX12 yX12_isHandle yX12_isHandle, .code yX12_isHandle cX12_isHandle 3 (some .boolean), .fieldLink RX12 320 "LowEnergyModel" "attributes" "[I", .fieldLink RX12 7 "LowEnergyModel" "taped" "I", .methodLink RX12 688 yX12_becomes, .instanceMethod yX12_becomes, .selects RX12 yX12_becomes yX12_becomes, .code yX12_becomes cX12_becomes 3 none, .fieldLink RX12 329 "LowEnergyModel" "length" "[I", .methodLink RX12 547 yX12_row, .instanceMethod yX12_row, .selects RX12 yX12_row yX12_row, .code yX12_row cX12_row 3 (some .int), .fieldLink RX12 10 "LowEnergyModel" "tape" "[B", .fieldLink RX12 341 "LowEnergyModel" "values" "[B", .methodLink RX12 29 yX12_copy, .static yX12_copy, .code yX12_copy cX12_copy 6 none] : List Cond) ++ (wsX120 ++ ([])))
theorem hi_M_set_X12 : ∀ x ∈ u_ws RX12 TX12 123, x ∈ wp_M_set := fun _ h => List.mem_cons_of_mem _ (List.mem_append_right _ (List.mem_append_left _ h))
set_option maxRecDepth 100000 in
theorem gd_M_set_M_in_413 : GoodIn wp_M_set (va_wsS RX12 413 yX12_in wp_M_in) := goodIn_app (goodIn_r _ [2, 3, 4] rfl rfl) (goodIn_ca (goodIn_r _ [5] rfl rfl) (goodIn_nil))
set_option maxRecDepth 100000 in
theorem gd_M_set_M_isHandle_567 : GoodIn wp_M_set (wsV RX12 567 RX12 yX12_isHandle wp_M_isHandle) := goodIn_app (goodIn_r _ [6, 7, 8, 4] rfl rfl) (goodIn_ca (goodIn_r _ [9, 10] rfl rfl) (goodIn_app (goodIn_cls hi_M_set_X12 gw_X12) (goodIn_nil)))
set_option maxRecDepth 100000 in
theorem gd_M_set_M_becomes_688 : GoodIn wp_M_set (wsV RX12 688 RX12 yX12_becomes wp_M_becomes) := goodIn_app (goodIn_r _ [12, 13, 14, 4] rfl rfl) (goodIn_ca (goodIn_r _ [15, 16, 17, 18, 19, 4, 20, 11, 21, 22, 23, 24, 25] rfl rfl) (goodIn_app (goodIn_cls hi_M_set_X12 gw_X12) (goodIn_nil)))
set_option maxHeartbeats 4000000 in
set_option maxRecDepth 100000 in
theorem b_M_set {p : Program} {l : Launch} {e : Env} {R : Room} {s : State} {m : MethodId} {args : Array Value} {below : List Frame} {meth : Method} {c : Code} {D : va_G} {K : Nat → ClassId} {A : Nat → Prop} {Q : State → Prop} {τ : Nat → Option Ty} {dom : List Nat} {zb zL : Nat} {zx : Nat → Int32} {zs : Nat → Nat} (hR : 2 ≤ R.frames ∧ 47 ≤ R.locals) (B : Bx p s m args c cX12_set 3 RX12 wp_M_set D (tysA K) A) (Z : Sk τ dom) (hz : ZL zb zL zx zs A s s.heap) (h : Nat) (q : Nat → Nat) (Y : MS τ h q) (x1 : Int) (x2 : Int) (r_x1 : -2147483648 ≤ x1 ∧ x1 ≤ 2147483647) (r_x2 : -2147483648 ≤ x2 ∧ x2 ≤ 2147483647) (σ0 : Nat → va_E) (G0 : GM K h q σ0) (hend : ∀ (σ' : Nat → va_E) (z : Int) (lv : List (Nat × Value)) (pc : Nat), GM K h q σ' → Fr τ [(50, 0), (203, 0), (207, 0)] σ0 σ' → (0 ≤ z ∧ z ≤ 1) → decode cX12_set pc = .ok (.ireturn, 1) → V p l e R s m args below meth c 3 D A Q (0, 0) (fd dom σ') lv pc [.int (iI z)]) : V p l e R s m args below meth c 3 D A Q (0, 0) (fd dom σ0) [(0, .ref h), (1, .int (iI x1)), (2, .int (iI x2))] 0 [] := by
  have F0 : Fr τ [(50, 0), (203, 0), (207, 0)] σ0 σ0 := Fr.rf
  obtain ⟨z1, z2, z3, z4, z5, h6, r7, r8, r9, r10, r11⟩ := G0.t.o
  refine v_aload_n B dX12_set_0 rfl rfl ?_
  refine v_iconst B (v := iI 0) dX12_set_1 rfl ?_
  refine u_put B Z (C := RX12) (T := TX12) (N := 123) (ci := 12) hi_M_set_X12 Y.o h6 rfl 0 (by decide +kernel) tyX12 tyX12_ok nmX12 (List.mem_of_getElem? (i := 1) rfl) rfl (ty := .int) (tyX12_ok 0 (by decide +kernel)) rfl rfl (Nat.le_of_ble_eq_true rfl) (fs' := fsM q (iI 0) (iI z2) (iI z3) (iI z4) (iI z5)) rfl dX12_set_2 (fun σ12 h13 n14 => ?_)
  have F15 := F0.put Y.o (by simp) n14
  have G16 := G0.putO Y ⟨0, z2, z3, z4, z5, h13, ⟨by omega, by omega⟩, ⟨by omega, by omega⟩, ⟨by omega, by omega⟩, ⟨by omega, by omega⟩, ⟨by omega, by omega⟩⟩ n14
  refine v_iload_n B dX12_set_5 rfl rfl ?_
  refine v_iconst B (v := iI 2) dX12_set_6 rfl ?_
  refine u_callSi B Z hz (n := 2) (As := [.int (iI x1), .int (iI 2)]) (rest := []) (c_M_in l D K Z _ _ _ _ h q Y x1 2 ⟨by omega, by omega⟩ ⟨by omega, by omega⟩ σ12 (G16.t)) gd_M_set_M_in_413 rfl rfl rfl (by decide +kernel) ⟨Nat.le_trans (by decide +kernel) hR.1, Nat.le_trans (by decide +kernel) hR.2⟩ rfl rfl (Nat.le_of_ble_eq_true rfl) dX12_set_7 ⟨Nat.zero_le _, Nat.zero_le _⟩ (fun v19 σ17 p18 => ?_)
  obtain ⟨rfl, z20, e21, r22, po23⟩ := p18
  subst e21
  refine u_if_eq B (tgt := 31) (by omega) dX12_set_10 (by decide +kernel) (fun c24 => ?_) (fun c24 => ?_)
  · refine v_iconst B (v := iI 0) dX12_set_31 rfl ?_
    exact hend σ12 0 _ _ G16 F15 ⟨by omega, by omega⟩ dX12_set_32
  · refine v_aload_n B dX12_set_13 rfl rfl ?_
    refine v_iload_n B dX12_set_14 rfl rfl ?_
    refine v_iload_n B dX12_set_15 rfl rfl ?_
    refine u_callVi B Z hz (n := 2) (As := [.int (iI x1), .int (iI x2)]) (rest := []) (c_M_isHandle l D K Z _ _ _ _ h q Y x1 x2 ⟨by omega, by omega⟩ ⟨by omega, by omega⟩ σ12 (G16.t)) gd_M_set_M_isHandle_567 rfl rfl rfl (by decide +kernel) ⟨Nat.le_trans (by decide +kernel) hR.1, Nat.le_trans (by decide +kernel) hR.2⟩ Y.o (clsM G16.t) rfl rfl rfl rfl (Nat.le_of_ble_eq_true rfl) dX12_set_16 ⟨Nat.zero_le _, Nat.zero_le _⟩ (fun v27 σ25 p26 => ?_)
    obtain ⟨rfl, z28, e29, r30, po31⟩ := p26
    subst e29
    refine u_if_eq B (tgt := 31) (by omega) dX12_set_19 (by decide +kernel) (fun c32 => ?_) (fun c32 => ?_)
    · refine v_iconst B (v := iI 0) dX12_set_31 rfl ?_
      exact hend σ12 0 _ _ G16 F15 ⟨by omega, by omega⟩ dX12_set_32
    · refine v_aload_n B dX12_set_22 rfl rfl ?_
      refine u_get B Z (C := RX12) (T := TX12) (N := 123) (ci := 12) hi_M_set_X12 Y.o h13 rfl 2 (by decide +kernel) (List.mem_of_getElem? (i := 11) rfl) rfl dX12_set_23 ?_
      refine v_bipush B (v := iI 40) dX12_set_26 (by decide +kernel) ?_
      refine u_icmp_le B (tgt := 33) (by omega) (by omega) dX12_set_28 (by decide +kernel) (fun c33 => ?_) (fun c33 => ?_)
      · refine v_aload_n B dX12_set_33 rfl rfl ?_
        refine v_iload_n B dX12_set_34 rfl rfl ?_
        refine v_iload_n B dX12_set_35 rfl rfl ?_
        refine u_callVv B Z hz (n := 2) (As := [.int (iI x1), .int (iI x2)]) (rest := []) (c_M_becomes l D K Z _ _ _ _ h q Y x1 x2 ⟨by omega, by omega⟩ ⟨by omega, by omega⟩ σ12 G16 (Fld.mk h13 (j := 2) rfl (by omega) (show z2 ≤ 40 from by omega))) gd_M_set_M_becomes_688 rfl rfl rfl (by decide +kernel) ⟨Nat.le_trans (by decide +kernel) hR.1, Nat.le_trans (by decide +kernel) hR.2⟩ Y.o (clsM G16.t) rfl rfl rfl rfl (Nat.le_of_ble_eq_true rfl) dX12_set_36 ⟨Nat.zero_le _, Nat.zero_le _⟩ (fun σ34 p35 => ?_)
        obtain ⟨G37, F38⟩ := p35
        have F39 := F15.call F38 (by first | rfl | simp)
        refine v_iconst B (v := iI 1) dX12_set_39 rfl ?_
        exact hend σ34 1 _ _ G37 F39 ⟨by omega, by omega⟩ dX12_set_40
      · refine v_iconst B (v := iI 0) dX12_set_31 rfl ?_
        exact hend σ12 0 _ _ G16 F15 ⟨by omega, by omega⟩ dX12_set_32
set_option maxRecDepth 100000 in
theorem c_M_set (l : Launch) (D : va_G) (K : Nat → ClassId) {τ : Nat → Option Ty} {dom : List Nat} (Z : Sk τ dom) (zb zL : Nat) (zx : Nat → Int32) (zs : Nat → Nat) (h : Nat) (q : Nat → Nat) (Y : MS τ h q) (x1 : Int) (x2 : Int) (r_x1 : -2147483648 ≤ x1 ∧ x1 ≤ 2147483647) (r_x2 : -2147483648 ≤ x2 ∧ x2 ≤ 2147483647) (σ0 : Nat → va_E) (G0 : GM K h q σ0) : MZ l yX12_set wp_M_set ({ frames := 2, cells := 0, slots := 0, locals := 47 }) D (tysA K) [.ref h, .int (iI x1), .int (iI x2)] (fd dom σ0) zb zL zx zs (Qi D (fun r σ' => GM K h q σ' ∧ Fr τ [(50, 0), (203, 0), (207, 0)] σ0 σ' ∧ ∃ z : Int, r = iI z ∧ (0 ≤ z ∧ z ≤ 1)) (fun σ' => fd dom σ')) 0 0 := by
  refine mz_of (cc := cX12_set) (maxL := 3) (ret := (some .boolean)) (by decide +kernel) rfl (Nat.le_of_ble_eq_true rfl) ?_
  intro p e s m below meth c A B hr hlk _ hz
  exact b_M_set ⟨Nat.le_refl _, Nat.le_refl _⟩ B Z hz h q Y x1 x2 r_x1 r_x2 σ0 G0 (fun σ' z lv pc G F hZ hd => v_zret B hr hlk (nar01 (by omega)) σ' ⟨G, F, z, rfl, hZ⟩ rfl (Nat.le_refl _) (Nat.le_refl _) hd)

def wp_M_value : List Cond := .code yX12_value cX12_value 5 (some .int) :: (([.methodLink RX12 413 yX12_in, .static yX12_in, .initialized RX12, .code yX12_in cX12_in 2 (some .boolean), .fieldLink RX12 1 "LowEnergyModel" "thrown" "I", .methodLink RX12 567 yX12_isHandle, .instanceMethod yX12_isHandle, .selects RX12 yX12_isHandle yX12_isHandle, .code yX12_isHandle cX12_isHandle 3 (some .boolean), .fieldLink RX12 320 "LowEnergyModel" "attributes" "[I", .fieldLink RX12 329 "LowEnergyModel" "length" "[I", .methodLink RX12 547 yX12_row, .instanceMethod yX12_row, .selects RX12 yX12_row yX12_row, .code yX12_row cX12_row 3 (some .int), .fieldLink RX12 341 "LowEnergyModel" "values" "[B"] : List Cond) ++ (wsX120 ++ ([])))
theorem hi_M_value_X12 : ∀ x ∈ u_ws RX12 TX12 123, x ∈ wp_M_value := fun _ h => List.mem_cons_of_mem _ (List.mem_append_right _ (List.mem_append_left _ h))
set_option maxRecDepth 100000 in
theorem gd_M_value_M_in_413 : GoodIn wp_M_value (va_wsS RX12 413 yX12_in wp_M_in) := goodIn_app (goodIn_r _ [1, 2, 3] rfl rfl) (goodIn_ca (goodIn_r _ [4] rfl rfl) (goodIn_nil))
set_option maxRecDepth 100000 in
theorem gd_M_value_M_isHandle_567 : GoodIn wp_M_value (wsV RX12 567 RX12 yX12_isHandle wp_M_isHandle) := goodIn_app (goodIn_r _ [6, 7, 8, 3] rfl rfl) (goodIn_ca (goodIn_r _ [9, 10] rfl rfl) (goodIn_app (goodIn_cls hi_M_value_X12 gw_X12) (goodIn_nil)))
set_option maxRecDepth 100000 in
theorem gd_M_value_M_row_547 : GoodIn wp_M_value (wsV RX12 547 RX12 yX12_row wp_M_row) := goodIn_app (goodIn_r _ [12, 13, 14, 3] rfl rfl) (goodIn_ca (goodIn_r _ [15] rfl rfl) (goodIn_nil))
set_option maxHeartbeats 4000000 in
set_option maxRecDepth 100000 in
theorem b_M_value {p : Program} {l : Launch} {e : Env} {R : Room} {s : State} {m : MethodId} {args : Array Value} {below : List Frame} {meth : Method} {c : Code} {D : va_G} {K : Nat → ClassId} {A : Nat → Prop} {Q : State → Prop} {τ : Nat → Option Ty} {dom : List Nat} {zb zL : Nat} {zx : Nat → Int32} {zs : Nat → Nat} (hR : 1 ≤ R.frames ∧ 22 ≤ R.locals) (B : Bx p s m args c cX12_value 5 RX12 wp_M_value D (tysA K) A) (Z : Sk τ dom) (hz : ZL zb zL zx zs A s s.heap) (h : Nat) (q : Nat → Nat) (Y : MS τ h q) (x1 : Int) (x2 : Int) (x3 : Int) (r_x1 : -2147483648 ≤ x1 ∧ x1 ≤ 2147483647) (r_x2 : -2147483648 ≤ x2 ∧ x2 ≤ 2147483647) (r_x3 : -2147483648 ≤ x3 ∧ x3 ≤ 2147483647) (σ0 : Nat → va_E) (G0 : GM K h q σ0) (hend : ∀ (σ' : Nat → va_E) (z : Int) (lv : List (Nat × Value)) (pc : Nat), GM K h q σ' → Fr τ [(50, 0)] σ0 σ' → (0 ≤ z ∧ z ≤ 255) → decode cX12_value pc = .ok (.ireturn, 1) → V p l e R s m args below meth c 5 D A Q (0, 0) (fd dom σ') lv pc [.int (iI z)]) : V p l e R s m args below meth c 5 D A Q (0, 0) (fd dom σ0) [(0, .ref h), (1, .int (iI x1)), (2, .int (iI x2)), (3, .int (iI x3))] 0 [] := by
  have F0 : Fr τ [(50, 0)] σ0 σ0 := Fr.rf
  obtain ⟨z1, z2, z3, z4, z5, h6, r7, r8, r9, r10, r11⟩ := G0.t.o
  refine v_iload_n B dX12_value_0 rfl rfl ?_
  refine v_iconst B (v := iI 2) dX12_value_1 rfl ?_
  refine u_callSi B Z hz (n := 2) (As := [.int (iI x1), .int (iI 2)]) (rest := []) (c_M_in l D K Z _ _ _ _ h q Y x1 2 ⟨by omega, by omega⟩ ⟨by omega, by omega⟩ σ0 (G0.t)) gd_M_value_M_in_413 rfl rfl rfl (by decide +kernel) ⟨Nat.le_trans (by decide +kernel) hR.1, Nat.le_trans (by decide +kernel) hR.2⟩ rfl rfl (Nat.le_of_ble_eq_true rfl) dX12_value_2 ⟨Nat.zero_le _, Nat.zero_le _⟩ (fun v14 σ12 p13 => ?_)
  obtain ⟨rfl, z15, e16, r17, po18⟩ := p13
  subst e16
  refine u_if_eq B (tgt := 21) (by omega) dX12_value_5 (by decide +kernel) (fun c19 => ?_) (fun c19 => ?_)
  · refine v_iconst B (v := iI 0) dX12_value_21 rfl ?_
    refine v_istore B (lv' := [(4, .int (iI 0)), (0, .ref h), (1, .int (iI x1)), (2, .int (iI x2)), (3, .int (iI x3))]) dX12_value_22 (by decide +kernel) rfl ?_
    refine v_aload_n B dX12_value_24 rfl rfl ?_
    refine v_iload B dX12_value_25 rfl ?_
    refine u_if_eq B (tgt := 57) (by omega) dX12_value_27 (by decide +kernel) (fun c20 => ?_) (fun c20 => by omega)
    refine v_iconst B (v := iI 1) dX12_value_57 rfl ?_
    refine u_put B Z (C := RX12) (T := TX12) (N := 123) (ci := 12) hi_M_value_X12 Y.o h6 rfl 0 (by decide +kernel) tyX12 tyX12_ok nmX12 (List.mem_of_getElem? (i := 5) rfl) rfl (ty := .int) (tyX12_ok 0 (by decide +kernel)) rfl rfl (Nat.le_of_ble_eq_true rfl) (fs' := fsM q (iI 1) (iI z2) (iI z3) (iI z4) (iI z5)) rfl dX12_value_58 (fun σ21 h22 n23 => ?_)
    have F24 := F0.put Y.o (by simp) n23
    have G25 := G0.putO Y ⟨1, z2, z3, z4, z5, h22, ⟨by omega, by omega⟩, ⟨by omega, by omega⟩, ⟨by omega, by omega⟩, ⟨by omega, by omega⟩, ⟨by omega, by omega⟩⟩ n23
    refine v_aload_n B dX12_value_61 rfl rfl ?_
    refine u_get B Z (C := RX12) (T := TX12) (N := 123) (ci := 12) hi_M_value_X12 Y.o h22 rfl 0 (by decide +kernel) (List.mem_of_getElem? (i := 5) rfl) rfl dX12_value_62 ?_
    refine u_if_le B (tgt := 70) (by omega) dX12_value_65 (by decide +kernel) (fun c26 => by omega) (fun c26 => ?_)
    refine v_iconst B (v := iI 0) dX12_value_68 rfl ?_
    exact hend σ21 0 _ _ G25 F24 ⟨by omega, by omega⟩ dX12_value_69
  · refine v_aload_n B dX12_value_8 rfl rfl ?_
    refine v_iload_n B dX12_value_9 rfl rfl ?_
    refine v_iload_n B dX12_value_10 rfl rfl ?_
    refine u_callVi B Z hz (n := 2) (As := [.int (iI x1), .int (iI x2)]) (rest := []) (c_M_isHandle l D K Z _ _ _ _ h q Y x1 x2 ⟨by omega, by omega⟩ ⟨by omega, by omega⟩ σ0 (G0.t)) gd_M_value_M_isHandle_567 rfl rfl rfl (by decide +kernel) ⟨Nat.le_trans (by decide +kernel) hR.1, Nat.le_trans (by decide +kernel) hR.2⟩ Y.o (clsM G0.t) rfl rfl rfl rfl (Nat.le_of_ble_eq_true rfl) dX12_value_11 ⟨Nat.zero_le _, Nat.zero_le _⟩ (fun v29 σ27 p28 => ?_)
    obtain ⟨rfl, z30, e31, r32, po33⟩ := p28
    subst e31
    refine u_if_eq B (tgt := 21) (by omega) dX12_value_14 (by decide +kernel) (fun c34 => ?_) (fun c34 => ?_)
    · refine v_iconst B (v := iI 0) dX12_value_21 rfl ?_
      refine v_istore B (lv' := [(4, .int (iI 0)), (0, .ref h), (1, .int (iI x1)), (2, .int (iI x2)), (3, .int (iI x3))]) dX12_value_22 (by decide +kernel) rfl ?_
      refine v_aload_n B dX12_value_24 rfl rfl ?_
      refine v_iload B dX12_value_25 rfl ?_
      refine u_if_eq B (tgt := 57) (by omega) dX12_value_27 (by decide +kernel) (fun c35 => ?_) (fun c35 => by omega)
      refine v_iconst B (v := iI 1) dX12_value_57 rfl ?_
      refine u_put B Z (C := RX12) (T := TX12) (N := 123) (ci := 12) hi_M_value_X12 Y.o h6 rfl 0 (by decide +kernel) tyX12 tyX12_ok nmX12 (List.mem_of_getElem? (i := 5) rfl) rfl (ty := .int) (tyX12_ok 0 (by decide +kernel)) rfl rfl (Nat.le_of_ble_eq_true rfl) (fs' := fsM q (iI 1) (iI z2) (iI z3) (iI z4) (iI z5)) rfl dX12_value_58 (fun σ36 h37 n38 => ?_)
      have F39 := F0.put Y.o (by simp) n38
      have G40 := G0.putO Y ⟨1, z2, z3, z4, z5, h37, ⟨by omega, by omega⟩, ⟨by omega, by omega⟩, ⟨by omega, by omega⟩, ⟨by omega, by omega⟩, ⟨by omega, by omega⟩⟩ n38
      refine v_aload_n B dX12_value_61 rfl rfl ?_
      refine u_get B Z (C := RX12) (T := TX12) (N := 123) (ci := 12) hi_M_value_X12 Y.o h37 rfl 0 (by decide +kernel) (List.mem_of_getElem? (i := 5) rfl) rfl dX12_value_62 ?_
      refine u_if_le B (tgt := 70) (by omega) dX12_value_65 (by decide +kernel) (fun c41 => by omega) (fun c41 => ?_)
      refine v_iconst B (v := iI 0) dX12_value_68 rfl ?_
      exact hend σ36 0 _ _ G40 F39 ⟨by omega, by omega⟩ dX12_value_69
    · refine v_iconst B (v := iI 1) dX12_value_17 rfl ?_
      refine v_goto B (tgt := 22) dX12_value_18 (by decide +kernel) ?_
      refine v_istore B (lv' := [(4, .int (iI 1)), (0, .ref h), (1, .int (iI x1)), (2, .int (iI x2)), (3, .int (iI x3))]) dX12_value_22 (by decide +kernel) rfl ?_
      refine v_aload_n B dX12_value_24 rfl rfl ?_
      refine v_iload B dX12_value_25 rfl ?_
      refine u_if_eq B (tgt := 57) (by omega) dX12_value_27 (by decide +kernel) (fun c42 => by omega) (fun c42 => ?_)
      refine v_iload_n B dX12_value_30 rfl rfl ?_
      refine v_iconst B (v := iI (-1)) dX12_value_31 rfl ?_
      refine u_icmp_eq B (tgt := 53) (by omega) (by omega) dX12_value_32 (by decide +kernel) (fun c43 => ?_) (fun c43 => ?_)
      · refine v_iconst B (v := iI 0) dX12_value_53 rfl ?_
        refine v_goto B (tgt := 58) dX12_value_54 (by decide +kernel) ?_
        refine u_put B Z (C := RX12) (T := TX12) (N := 123) (ci := 12) hi_M_value_X12 Y.o h6 rfl 0 (by decide +kernel) tyX12 tyX12_ok nmX12 (List.mem_of_getElem? (i := 5) rfl) rfl (ty := .int) (tyX12_ok 0 (by decide +kernel)) rfl rfl (Nat.le_of_ble_eq_true rfl) (fs' := fsM q (iI 0) (iI z2) (iI z3) (iI z4) (iI z5)) rfl dX12_value_58 (fun σ44 h45 n46 => ?_)
        have F47 := F0.put Y.o (by simp) n46
        have G48 := G0.putO Y ⟨0, z2, z3, z4, z5, h45, ⟨by omega, by omega⟩, ⟨by omega, by omega⟩, ⟨by omega, by omega⟩, ⟨by omega, by omega⟩, ⟨by omega, by omega⟩⟩ n46
        refine v_aload_n B dX12_value_61 rfl rfl ?_
        refine u_get B Z (C := RX12) (T := TX12) (N := 123) (ci := 12) hi_M_value_X12 Y.o h45 rfl 0 (by decide +kernel) (List.mem_of_getElem? (i := 5) rfl) rfl dX12_value_62 ?_
        refine u_if_le B (tgt := 70) (by omega) dX12_value_65 (by decide +kernel) (fun c49 => ?_) (fun c49 => by omega)
        refine v_iload_n B dX12_value_70 rfl rfl ?_
        refine v_iconst B (v := iI (-1)) dX12_value_71 rfl ?_
        refine u_icmp_ne B (tgt := 89) (by omega) (by omega) dX12_value_72 (by decide +kernel) (fun c50 => by omega) (fun c50 => ?_)
        refine v_aload_n B dX12_value_75 rfl rfl ?_
        refine u_get B Z (C := RX12) (T := TX12) (N := 123) (ci := 12) hi_M_value_X12 Y.o h45 rfl 103 (by decide +kernel) (List.mem_of_getElem? (i := 11) rfl) rfl dX12_value_76 ?_
        refine v_aload_n B dX12_value_79 rfl rfl ?_
        refine v_iload_n B dX12_value_80 rfl rfl ?_
        refine v_iload_n B dX12_value_81 rfl rfl ?_
        refine u_callVi B Z hz (n := 2) (As := [.int (iI x1), .int (iI x2)]) (rest := [.ref (q 103)]) (c_M_row l D K Z _ _ _ _ h q Y x1 x2 ⟨by omega, by omega⟩ ⟨by omega, by omega⟩ σ44 (G48.t)) gd_M_value_M_row_547 rfl rfl rfl (by decide +kernel) ⟨Nat.le_trans (by decide +kernel) hR.1, Nat.le_trans (by decide +kernel) hR.2⟩ Y.o (clsM G48.t) rfl rfl rfl rfl (Nat.le_of_ble_eq_true rfl) dX12_value_82 ⟨Nat.zero_le _, Nat.zero_le _⟩ (fun v53 σ51 p52 => ?_)
        obtain ⟨rfl, z54, e55, r56, po57⟩ := p52
        subst e55
        subst po57
        show V _ _ _ _ _ _ _ _ _ _ _ _ _ _ _ _ _ _ [.int (iI (20 * x1 + x2 + (-1))), .ref (q 103)]
        obtain ⟨f58, h59, e60⟩ := ga_103 G48.t
        obtain ⟨z61, e62, r63⟩ := e60 ((20 * x1 + x2 + (-1)) : Int).toNat
        refine u_iald B Z (t0 := 0) (ym_103 Y) h59 rfl (by omega) e62 dX12_value_85 ?_
        refine v_goto B (tgt := 109) dX12_value_86 (by decide +kernel) ?_
        exact hend σ44 z61 _ _ G48 F47 ⟨by omega, by omega⟩ dX12_value_109
      · refine v_iload_n B dX12_value_35 rfl rfl ?_
        refine v_aload_n B dX12_value_36 rfl rfl ?_
        refine u_get B Z (C := RX12) (T := TX12) (N := 123) (ci := 12) hi_M_value_X12 Y.o h6 rfl 103 (by decide +kernel) (List.mem_of_getElem? (i := 11) rfl) rfl dX12_value_37 ?_
        refine v_aload_n B dX12_value_40 rfl rfl ?_
        refine v_iload_n B dX12_value_41 rfl rfl ?_
        refine v_iload_n B dX12_value_42 rfl rfl ?_
        refine u_callVi B Z hz (n := 2) (As := [.int (iI x1), .int (iI x2)]) (rest := [.ref (q 103), .int (iI x3), .ref h]) (c_M_row l D K Z _ _ _ _ h q Y x1 x2 ⟨by omega, by omega⟩ ⟨by omega, by omega⟩ σ0 (G0.t)) gd_M_value_M_row_547 rfl rfl rfl (by decide +kernel) ⟨Nat.le_trans (by decide +kernel) hR.1, Nat.le_trans (by decide +kernel) hR.2⟩ Y.o (clsM G0.t) rfl rfl rfl rfl (Nat.le_of_ble_eq_true rfl) dX12_value_43 ⟨Nat.zero_le _, Nat.zero_le _⟩ (fun v66 σ64 p65 => ?_)
        obtain ⟨rfl, z67, e68, r69, po70⟩ := p65
        subst e68
        subst po70
        show V _ _ _ _ _ _ _ _ _ _ _ _ _ _ _ _ _ _ [.int (iI (20 * x1 + x2 + (-1))), .ref (q 103), .int (iI x3), .ref h]
        obtain ⟨f71, h72, e73⟩ := ga_103 G0.t
        obtain ⟨z74, e75, r76⟩ := e73 ((20 * x1 + x2 + (-1)) : Int).toNat
        refine u_iald B Z (t0 := 0) (ym_103 Y) h72 rfl (by omega) e75 dX12_value_46 ?_
        refine u_callSi B Z hz (n := 2) (As := [.int (iI x3), .int (iI z74)]) (rest := [.ref h]) (c_M_in l D K Z _ _ _ _ h q Y x3 z74 ⟨by omega, by omega⟩ ⟨by omega, by omega⟩ σ0 (G0.t)) gd_M_value_M_in_413 rfl rfl rfl (by decide +kernel) ⟨Nat.le_trans (by decide +kernel) hR.1, Nat.le_trans (by decide +kernel) hR.2⟩ rfl rfl (Nat.le_of_ble_eq_true rfl) dX12_value_47 ⟨Nat.zero_le _, Nat.zero_le _⟩ (fun v79 σ77 p78 => ?_)
        obtain ⟨rfl, z80, e81, r82, po83⟩ := p78
        subst e81
        refine u_if_eq B (tgt := 57) (by omega) dX12_value_50 (by decide +kernel) (fun c84 => ?_) (fun c84 => ?_)
        · refine v_iconst B (v := iI 1) dX12_value_57 rfl ?_
          refine u_put B Z (C := RX12) (T := TX12) (N := 123) (ci := 12) hi_M_value_X12 Y.o h6 rfl 0 (by decide +kernel) tyX12 tyX12_ok nmX12 (List.mem_of_getElem? (i := 5) rfl) rfl (ty := .int) (tyX12_ok 0 (by decide +kernel)) rfl rfl (Nat.le_of_ble_eq_true rfl) (fs' := fsM q (iI 1) (iI z2) (iI z3) (iI z4) (iI z5)) rfl dX12_value_58 (fun σ85 h86 n87 => ?_)
          have F88 := F0.put Y.o (by simp) n87
          have G89 := G0.putO Y ⟨1, z2, z3, z4, z5, h86, ⟨by omega, by omega⟩, ⟨by omega, by omega⟩, ⟨by omega, by omega⟩, ⟨by omega, by omega⟩, ⟨by omega, by omega⟩⟩ n87
          refine v_aload_n B dX12_value_61 rfl rfl ?_
          refine u_get B Z (C := RX12) (T := TX12) (N := 123) (ci := 12) hi_M_value_X12 Y.o h86 rfl 0 (by decide +kernel) (List.mem_of_getElem? (i := 5) rfl) rfl dX12_value_62 ?_
          refine u_if_le B (tgt := 70) (by omega) dX12_value_65 (by decide +kernel) (fun c90 => by omega) (fun c90 => ?_)
          refine v_iconst B (v := iI 0) dX12_value_68 rfl ?_
          exact hend σ85 0 _ _ G89 F88 ⟨by omega, by omega⟩ dX12_value_69
        · refine v_iconst B (v := iI 0) dX12_value_53 rfl ?_
          refine v_goto B (tgt := 58) dX12_value_54 (by decide +kernel) ?_
          refine u_put B Z (C := RX12) (T := TX12) (N := 123) (ci := 12) hi_M_value_X12 Y.o h6 rfl 0 (by decide +kernel) tyX12 tyX12_ok nmX12 (List.mem_of_getElem? (i := 5) rfl) rfl (ty := .int) (tyX12_ok 0 (by decide +kernel)) rfl rfl (Nat.le_of_ble_eq_true rfl) (fs' := fsM q (iI 0) (iI z2) (iI z3) (iI z4) (iI z5)) rfl dX12_value_58 (fun σ91 h92 n93 => ?_)
          have F94 := F0.put Y.o (by simp) n93
          have G95 := G0.putO Y ⟨0, z2, z3, z4, z5, h92, ⟨by omega, by omega⟩, ⟨by omega, by omega⟩, ⟨by omega, by omega⟩, ⟨by omega, by omega⟩, ⟨by omega, by omega⟩⟩ n93
          refine v_aload_n B dX12_value_61 rfl rfl ?_
          refine u_get B Z (C := RX12) (T := TX12) (N := 123) (ci := 12) hi_M_value_X12 Y.o h92 rfl 0 (by decide +kernel) (List.mem_of_getElem? (i := 5) rfl) rfl dX12_value_62 ?_
          refine u_if_le B (tgt := 70) (by omega) dX12_value_65 (by decide +kernel) (fun c96 => ?_) (fun c96 => by omega)
          refine v_iload_n B dX12_value_70 rfl rfl ?_
          refine v_iconst B (v := iI (-1)) dX12_value_71 rfl ?_
          refine u_icmp_ne B (tgt := 89) (by omega) (by omega) dX12_value_72 (by decide +kernel) (fun c97 => ?_) (fun c97 => by omega)
          refine v_aload_n B dX12_value_89 rfl rfl ?_
          refine u_get B Z (C := RX12) (T := TX12) (N := 123) (ci := 12) hi_M_value_X12 Y.o h92 rfl 107 (by decide +kernel) (List.mem_of_getElem? (i := 16) rfl) rfl dX12_value_90 ?_
          refine v_bipush B (v := iI 40) dX12_value_93 (by decide +kernel) ?_
          refine v_aload_n B dX12_value_95 rfl rfl ?_
          refine v_iload_n B dX12_value_96 rfl rfl ?_
          refine v_iload_n B dX12_value_97 rfl rfl ?_
          refine u_callVi B Z hz (n := 2) (As := [.int (iI x1), .int (iI x2)]) (rest := [.int (iI 40), .ref (q 107)]) (c_M_row l D K Z _ _ _ _ h q Y x1 x2 ⟨by omega, by omega⟩ ⟨by omega, by omega⟩ σ91 (G95.t)) gd_M_value_M_row_547 rfl rfl rfl (by decide +kernel) ⟨Nat.le_trans (by decide +kernel) hR.1, Nat.le_trans (by decide +kernel) hR.2⟩ Y.o (clsM G95.t) rfl rfl rfl rfl (Nat.le_of_ble_eq_true rfl) dX12_value_98 ⟨Nat.zero_le _, Nat.zero_le _⟩ (fun v100 σ98 p99 => ?_)
          obtain ⟨rfl, z101, e102, r103, po104⟩ := p99
          subst e102
          subst po104
          show V _ _ _ _ _ _ _ _ _ _ _ _ _ _ _ _ _ _ [.int (iI (20 * x1 + x2 + (-1))), .int (iI 40), .ref (q 107)]
          refine v_imul B (v := iI (800 * x1 + 40 * x2 + (-40))) dX12_value_101 ((iI_mul _ _).trans (congrArg iI (by omega))) ?_
          refine v_iload_n B dX12_value_102 rfl rfl ?_
          refine v_iadd B (v := iI (800 * x1 + 40 * x2 + x3 + (-40))) dX12_value_103 ((iI_add _ _).trans (congrArg iI (by omega))) ?_
          obtain ⟨f105, h106, e107⟩ := ga_107 G95.t
          obtain ⟨z108, e109, r110⟩ := e107 ((800 * x1 + 40 * x2 + x3 + (-40)) : Int).toNat
          refine u_bald B Z (t0 := 2) (ym_107 Y) h106 rfl (by omega) e109 dX12_value_104 ?_
          refine v_sipush B (v := iI 255) dX12_value_105 (by decide +kernel) ?_
          obtain ⟨z111, e112, r113⟩ := iI_and z108 (c := 255) (by decide) (by decide)
          refine v_iand B (v := iI z111) dX12_value_108 e112 ?_
          exact hend σ91 z111 _ _ G95 F94 ⟨by omega, by omega⟩ dX12_value_109
set_option maxRecDepth 100000 in
theorem c_M_value (l : Launch) (D : va_G) (K : Nat → ClassId) {τ : Nat → Option Ty} {dom : List Nat} (Z : Sk τ dom) (zb zL : Nat) (zx : Nat → Int32) (zs : Nat → Nat) (h : Nat) (q : Nat → Nat) (Y : MS τ h q) (x1 : Int) (x2 : Int) (x3 : Int) (r_x1 : -2147483648 ≤ x1 ∧ x1 ≤ 2147483647) (r_x2 : -2147483648 ≤ x2 ∧ x2 ≤ 2147483647) (r_x3 : -2147483648 ≤ x3 ∧ x3 ≤ 2147483647) (σ0 : Nat → va_E) (G0 : GM K h q σ0) : MZ l yX12_value wp_M_value ({ frames := 1, cells := 0, slots := 0, locals := 22 }) D (tysA K) [.ref h, .int (iI x1), .int (iI x2), .int (iI x3)] (fd dom σ0) zb zL zx zs (Qi D (fun r σ' => GM K h q σ' ∧ Fr τ [(50, 0)] σ0 σ' ∧ ∃ z : Int, r = iI z ∧ (0 ≤ z ∧ z ≤ 255)) (fun σ' => fd dom σ')) 0 0 := by
  refine mz_of (cc := cX12_value) (maxL := 5) (ret := (some .int)) (by decide +kernel) rfl (Nat.le_of_ble_eq_true rfl) ?_
  intro p e s m below meth c A B hr hlk _ hz
  exact b_M_value ⟨Nat.le_refl _, Nat.le_refl _⟩ B Z hz h q Y x1 x2 x3 r_x1 r_x2 r_x3 σ0 G0 (fun σ' z lv pc G F hZ hd => v_iret B hr hlk σ' ⟨G, F, z, rfl, hZ⟩ rfl (Nat.le_refl _) (Nat.le_refl _) hd)

def wp_M_mtu : List Cond := .code yX12_mtu cX12_mtu 3 (some .boolean) :: (([.fieldLink RX12 1 "LowEnergyModel" "thrown" "I", .methodLink RX12 413 yX12_in, .static yX12_in, .initialized RX12, .code yX12_in cX12_in 2 (some .boolean), .fieldLink RX12 335 "LowEnergyModel" "ownMtu" "[I"] : List Cond) ++ (wsX120 ++ ([])))
theorem hi_M_mtu_X12 : ∀ x ∈ u_ws RX12 TX12 123, x ∈ wp_M_mtu := fun _ h => List.mem_cons_of_mem _ (List.mem_append_right _ (List.mem_append_left _ h))
set_option maxRecDepth 100000 in
theorem gd_M_mtu_M_in_413 : GoodIn wp_M_mtu (va_wsS RX12 413 yX12_in wp_M_in) := goodIn_app (goodIn_r _ [2, 3, 4] rfl rfl) (goodIn_ca (goodIn_r _ [5] rfl rfl) (goodIn_nil))
set_option maxHeartbeats 4000000 in
set_option maxRecDepth 100000 in
theorem b_M_mtu {p : Program} {l : Launch} {e : Env} {R : Room} {s : State} {m : MethodId} {args : Array Value} {below : List Frame} {meth : Method} {c : Code} {D : va_G} {K : Nat → ClassId} {A : Nat → Prop} {Q : State → Prop} {τ : Nat → Option Ty} {dom : List Nat} {zb zL : Nat} {zx : Nat → Int32} {zs : Nat → Nat} (hR : 1 ≤ R.frames ∧ 21 ≤ R.locals) (B : Bx p s m args c cX12_mtu 3 RX12 wp_M_mtu D (tysA K) A) (Z : Sk τ dom) (hz : ZL zb zL zx zs A s s.heap) (h : Nat) (q : Nat → Nat) (Y : MS τ h q) (x1 : Int) (x2 : Int) (r_x1 : -2147483648 ≤ x1 ∧ x1 ≤ 2147483647) (r_x2 : -2147483648 ≤ x2 ∧ x2 ≤ 2147483647) (σ0 : Nat → va_E) (G0 : GM K h q σ0) (hend : ∀ (σ' : Nat → va_E) (z : Int) (lv : List (Nat × Value)) (pc : Nat), GM K h q σ' → Fr τ [(50, 0), (205, 0)] σ0 σ' → (0 ≤ z ∧ z ≤ 1) → ((z = 1 ∧ ((0 ≤ x1 ∧ x1 ≤ 1) ∧ (23 ≤ x2 ∧ x2 ≤ 64))) ∨ (z = 0 ∧ ¬ ((0 ≤ x1 ∧ x1 ≤ 1) ∧ (23 ≤ x2 ∧ x2 ≤ 64)))) → decode cX12_mtu pc = .ok (.ireturn, 1) → V p l e R s m args below meth c 3 D A Q (0, 0) (fd dom σ') lv pc [.int (iI z)]) : V p l e R s m args below meth c 3 D A Q (0, 0) (fd dom σ0) [(0, .ref h), (1, .int (iI x1)), (2, .int (iI x2))] 0 [] := by
  have F0 : Fr τ [(50, 0), (205, 0)] σ0 σ0 := Fr.rf
  obtain ⟨z1, z2, z3, z4, z5, h6, r7, r8, r9, r10, r11⟩ := G0.t.o
  refine v_aload_n B dX12_mtu_0 rfl rfl ?_
  refine v_iconst B (v := iI 0) dX12_mtu_1 rfl ?_
  refine u_put B Z (C := RX12) (T := TX12) (N := 123) (ci := 12) hi_M_mtu_X12 Y.o h6 rfl 0 (by decide +kernel) tyX12 tyX12_ok nmX12 (List.mem_of_getElem? (i := 1) rfl) rfl (ty := .int) (tyX12_ok 0 (by decide +kernel)) rfl rfl (Nat.le_of_ble_eq_true rfl) (fs' := fsM q (iI 0) (iI z2) (iI z3) (iI z4) (iI z5)) rfl dX12_mtu_2 (fun σ12 h13 n14 => ?_)
  have F15 := F0.put Y.o (by simp) n14
  have G16 := G0.putO Y ⟨0, z2, z3, z4, z5, h13, ⟨by omega, by omega⟩, ⟨by omega, by omega⟩, ⟨by omega, by omega⟩, ⟨by omega, by omega⟩, ⟨by omega, by omega⟩⟩ n14
  refine v_iload_n B dX12_mtu_5 rfl rfl ?_
  refine v_iconst B (v := iI 2) dX12_mtu_6 rfl ?_
  refine u_callSi B Z hz (n := 2) (As := [.int (iI x1), .int (iI 2)]) (rest := []) (c_M_in l D K Z _ _ _ _ h q Y x1 2 ⟨by omega, by omega⟩ ⟨by omega, by omega⟩ σ12 (G16.t)) gd_M_mtu_M_in_413 rfl rfl rfl (by decide +kernel) ⟨Nat.le_trans (by decide +kernel) hR.1, Nat.le_trans (by decide +kernel) hR.2⟩ rfl rfl (Nat.le_of_ble_eq_true rfl) dX12_mtu_7 ⟨Nat.zero_le _, Nat.zero_le _⟩ (fun v19 σ17 p18 => ?_)
  obtain ⟨rfl, z20, e21, r22, po23⟩ := p18
  subst e21
  refine u_if_eq B (tgt := 25) (by omega) dX12_mtu_10 (by decide +kernel) (fun c24 => ?_) (fun c24 => ?_)
  · refine v_iconst B (v := iI 0) dX12_mtu_25 rfl ?_
    exact hend σ12 0 _ _ G16 F15 ⟨by omega, by omega⟩ (by omega) dX12_mtu_26
  · refine v_iload_n B dX12_mtu_13 rfl rfl ?_
    refine v_bipush B (v := iI 23) dX12_mtu_14 (by decide +kernel) ?_
    refine u_icmp_lt B (tgt := 25) (by omega) (by omega) dX12_mtu_16 (by decide +kernel) (fun c25 => ?_) (fun c25 => ?_)
    · refine v_iconst B (v := iI 0) dX12_mtu_25 rfl ?_
      exact hend σ12 0 _ _ G16 F15 ⟨by omega, by omega⟩ (by omega) dX12_mtu_26
    · refine v_iload_n B dX12_mtu_19 rfl rfl ?_
      refine v_bipush B (v := iI 64) dX12_mtu_20 (by decide +kernel) ?_
      refine u_icmp_le B (tgt := 27) (by omega) (by omega) dX12_mtu_22 (by decide +kernel) (fun c26 => ?_) (fun c26 => ?_)
      · refine v_aload_n B dX12_mtu_27 rfl rfl ?_
        refine u_get B Z (C := RX12) (T := TX12) (N := 123) (ci := 12) hi_M_mtu_X12 Y.o h13 rfl 105 (by decide +kernel) (List.mem_of_getElem? (i := 6) rfl) rfl dX12_mtu_28 ?_
        refine v_iload_n B dX12_mtu_31 rfl rfl ?_
        refine v_iload_n B dX12_mtu_32 rfl rfl ?_
        obtain ⟨f27, h28, e29⟩ := ga_105 G16.t
        refine u_iast B Z (t0 := 0) (x := iI x2) (ym_105 Y) h28 rfl (by omega) dX12_mtu_33 (fun σ30 h31 n32 => ?_)
        have e33 := el_upd (z := x2) e29 ⟨by omega, by omega⟩ (x1 : Int).toNat
        have F34 := F15.put (ym_105 Y) (by simp) n32
        have G35 := gp_105 Y G16 ⟨_, h31, e33⟩ n32
        refine v_iconst B (v := iI 1) dX12_mtu_34 rfl ?_
        exact hend σ30 1 _ _ G35 F34 ⟨by omega, by omega⟩ (by omega) dX12_mtu_35
      · refine v_iconst B (v := iI 0) dX12_mtu_25 rfl ?_
        exact hend σ12 0 _ _ G16 F15 ⟨by omega, by omega⟩ (by omega) dX12_mtu_26
set_option maxRecDepth 100000 in
theorem c_M_mtu (l : Launch) (D : va_G) (K : Nat → ClassId) {τ : Nat → Option Ty} {dom : List Nat} (Z : Sk τ dom) (zb zL : Nat) (zx : Nat → Int32) (zs : Nat → Nat) (h : Nat) (q : Nat → Nat) (Y : MS τ h q) (x1 : Int) (x2 : Int) (r_x1 : -2147483648 ≤ x1 ∧ x1 ≤ 2147483647) (r_x2 : -2147483648 ≤ x2 ∧ x2 ≤ 2147483647) (σ0 : Nat → va_E) (G0 : GM K h q σ0) : MZ l yX12_mtu wp_M_mtu ({ frames := 1, cells := 0, slots := 0, locals := 21 }) D (tysA K) [.ref h, .int (iI x1), .int (iI x2)] (fd dom σ0) zb zL zx zs (Qi D (fun r σ' => GM K h q σ' ∧ Fr τ [(50, 0), (205, 0)] σ0 σ' ∧ ∃ z : Int, r = iI z ∧ (0 ≤ z ∧ z ≤ 1) ∧ ((z = 1 ∧ ((0 ≤ x1 ∧ x1 ≤ 1) ∧ (23 ≤ x2 ∧ x2 ≤ 64))) ∨ (z = 0 ∧ ¬ ((0 ≤ x1 ∧ x1 ≤ 1) ∧ (23 ≤ x2 ∧ x2 ≤ 64))))) (fun σ' => fd dom σ')) 0 0 := by
  refine mz_of (cc := cX12_mtu) (maxL := 3) (ret := (some .boolean)) (by decide +kernel) rfl (Nat.le_of_ble_eq_true rfl) ?_
  intro p e s m below meth c A B hr hlk _ hz
  exact b_M_mtu ⟨Nat.le_refl _, Nat.le_refl _⟩ B Z hz h q Y x1 x2 r_x1 r_x2 σ0 G0 (fun σ' z lv pc G F hZ hP hd => v_zret B hr hlk (nar01 (by omega)) σ' ⟨G, F, z, rfl, hZ, hP⟩ rfl (Nat.le_refl _) (Nat.le_refl _) hd)

def wp_M_job : List Cond := .code yX12_job cX12_job 6 (some .boolean) :: (([.methodLink RX12 630 yX12_asksFor, .instanceMethod yX12_asksFor, .selects RX12 yX12_asksFor yX12_asksFor, .initialized RX12, .code yX12_asksFor cX12_asksFor 3 none, .methodLink RX12 606 yX12_request, .instanceMethod yX12_request, .selects RX12 yX12_request yX12_request, .code yX12_request cX12_request 4 none, .fieldLink RX12 290 "LowEnergyModel" "said" "[B", .fieldLink RX12 374 "LowEnergyModel" "due" "[I", .methodLink RX12 527 yX12_says, .instanceMethod yX12_says, .selects RX12 yX12_says yX12_says, .code yX12_says cX12_says 5 none, .fieldLink RX12 275 "LowEnergyModel" "messages" "[I", .fieldLink RX12 266 "LowEnergyModel" "message" "[B", .methodLink RX12 432 yX12_number, .static yX12_number, .code yX12_number cX12_number 6 none, .methodLink RX12 29 yX12_copy, .static yX12_copy, .code yX12_copy cX12_copy 6 none, .fieldLink RX12 272 "LowEnergyModel" "messageMany" "[I", .fieldLink RX12 377 "LowEnergyModel" "place" "[I", .fieldLink RX12 365 "LowEnergyModel" "job" "[I", .fieldLink RX12 380 "LowEnergyModel" "jobMany" "[I", .fieldLink RX12 335 "LowEnergyModel" "ownMtu" "[I", .constantLong RX12 609 (65535), .constantLong RX12 611 (10240), .fieldLink RX12 383 "LowEnergyModel" "jobBytes" "[B", .fieldLink RX12 371 "LowEnergyModel" "jobB" "[I", .constantLong RX12 613 (10243), .fieldLink RX12 368 "LowEnergyModel" "jobA" "[I", .methodLink RX12 615 yX12_asksToWrite, .instanceMethod yX12_asksToWrite, .selects RX12 yX12_asksToWrite yX12_asksToWrite, .code yX12_asksToWrite cX12_asksToWrite 3 none, .fieldLink RX12 332 "LowEnergyModel" "mtu" "[I", .methodLink RX12 404 Lib.Math.min.name, .static Lib.Math.min.name, .initialized "java/lang/Math", .code Lib.Math.min.name Lib.Math.min.code 2 (some .int), .fieldLink RX12 1 "LowEnergyModel" "thrown" "I", .methodLink RX12 413 yX12_in, .static yX12_in, .code yX12_in cX12_in 2 (some .boolean), .methodLink RX12 662 yX12_isLinked, .instanceMethod yX12_isLinked, .selects RX12 yX12_isLinked yX12_isLinked, .code yX12_isLinked cX12_isLinked 2 (some .boolean), .fieldLink RX12 45 "LowEnergyModel" "state" "[I", .constant RX12 687 (65536), .fieldLink RX12 7 "LowEnergyModel" "taped" "I", .fieldLink RX12 10 "LowEnergyModel" "tape" "[B"] : List Cond) ++ (wsX120 ++ ([])))
theorem hi_M_job_X12 : ∀ x ∈ u_ws RX12 TX12 123, x ∈ wp_M_job := fun _ h => List.mem_cons_of_mem _ (List.mem_append_right _ (List.mem_append_left _ h))
set_option maxRecDepth 100000 in
theorem gd_M_job_M_asksFor_630 : GoodIn wp_M_job (wsV RX12 630 RX12 yX12_asksFor wp_M_asksFor) := goodIn_app (goodIn_r _ [1, 2, 3, 4] rfl rfl) (goodIn_ca (goodIn_r _ [5, 6, 7, 8, 4, 9, 10, 11, 12, 13, 14, 15, 16, 17, 18, 19, 20, 21, 22, 23, 24, 25, 26, 27, 28, 29, 30, 31, 32, 33, 34, 35, 36, 37, 38, 39, 40, 41, 42, 43] rfl rfl) (goodIn_app (goodIn_cls hi_M_job_X12 gw_X12) (goodIn_nil)))
set_option maxRecDepth 100000 in
theorem gd_M_job_M_in_413 : GoodIn wp_M_job (va_wsS RX12 413 yX12_in wp_M_in) := goodIn_app (goodIn_r _ [45, 46, 4] rfl rfl) (goodIn_ca (goodIn_r _ [47] rfl rfl) (goodIn_nil))
set_option maxRecDepth 100000 in
theorem gd_M_job_M_isLinked_662 : GoodIn wp_M_job (wsV RX12 662 RX12 yX12_isLinked wp_M_isLinked) := goodIn_app (goodIn_r _ [48, 49, 50, 4] rfl rfl) (goodIn_ca (goodIn_r _ [51, 52] rfl rfl) (goodIn_app (goodIn_cls hi_M_job_X12 gw_X12) (goodIn_nil)))
set_option maxRecDepth 100000 in
theorem gd_M_job_M_copy_29 : GoodIn wp_M_job (va_wsS RX12 29 yX12_copy wp_M_copy) := goodIn_app (goodIn_r _ [21, 22, 4] rfl rfl) (goodIn_ca (goodIn_r _ [23] rfl rfl) (goodIn_nil))
set_option maxHeartbeats 4000000 in
set_option maxRecDepth 100000 in
theorem b_M_job {p : Program} {l : Launch} {e : Env} {R : Room} {s : State} {m : MethodId} {args : Array Value} {below : List Frame} {meth : Method} {c : Code} {D : va_G} {K : Nat → ClassId} {A : Nat → Prop} {Q : State → Prop} {τ : Nat → Option Ty} {dom : List Nat} {zb zL : Nat} {zx : Nat → Int32} {zs : Nat → Nat} (hR : 5 ≤ R.frames ∧ 116 ≤ R.locals) (B : Bx p s m args c cX12_job 6 RX12 wp_M_job D (tysA K) A) (Z : Sk τ dom) (hz : ZL zb zL zx zs A s s.heap) (h : Nat) (q : Nat → Nat) (Y : MS τ h q) (x1 : Int) (x2 : Int) (x3 : Int) (x4 : Int) (r_x1 : -2147483648 ≤ x1 ∧ x1 ≤ 2147483647) (r_x2 : -2147483648 ≤ x2 ∧ x2 ≤ 2147483647) (r_x3 : -2147483648 ≤ x3 ∧ x3 ≤ 2147483647) (r_x4 : -2147483648 ≤ x4 ∧ x4 ≤ 2147483647) (σ0 : Nat → va_E) (G0 : GM K h q σ0) (hend : ∀ (σ' : Nat → va_E) (z : Int) (lv : List (Nat × Value)) (pc : Nat), GM K h q σ' → Fr τ [(50, 0), (216, 0), (217, 0), (218, 0), (220, 0), (221, 0), (222, 0), (190, 0), (219, 0), (182, 0), (184, 0), (185, 0)] σ0 σ' → (0 ≤ z ∧ z ≤ 1) → decode cX12_job pc = .ok (.ireturn, 1) → V p l e R s m args below meth c 6 D A Q (0, 0) (fd dom σ') lv pc [.int (iI z)]) : V p l e R s m args below meth c 6 D A Q (0, 0) (fd dom σ0) [(0, .ref h), (1, .int (iI x1)), (2, .int (iI x2)), (3, .int (iI x3)), (4, .int (iI x4))] 0 [] := by
  have F0 : Fr τ [(50, 0), (216, 0), (217, 0), (218, 0), (220, 0), (221, 0), (222, 0), (190, 0), (219, 0), (182, 0), (184, 0), (185, 0)] σ0 σ0 := Fr.rf
  obtain ⟨z1, z2, z3, z4, z5, h6, r7, r8, r9, r10, r11⟩ := G0.t.o
  obtain ⟨f12, h13, e14⟩ := ga_85 G0.t
  obtain ⟨z15, e16, r17⟩ := e14 (x1 : Int).toNat
  have J205 : ∀ (σ_205 : Nat → va_E) (z205_s0 : Int), GM K h q σ_205 → Fr τ [(50, 0), (216, 0), (217, 0), (218, 0), (220, 0), (221, 0), (222, 0), (190, 0), (219, 0), (182, 0), (184, 0), (185, 0)] σ0 σ_205 → (σ_205 (q 85) = .inl (K 0, 2, .inl f12)) → (0 ≤ x1 ∧ x1 ≤ 1) → (0 ≤ x2 ∧ x2 ≤ 6) → (0 ≤ x3 ∧ x3 ≤ 65535) → (0 ≤ x4 ∧ x4 ≤ 65535) → (0 ≤ z15 ∧ z15 ≤ 7) → (0 ≤ z205_s0 ∧ z205_s0 ≤ 65535) → V p l e R s m args below meth c 6 D A Q (0, 0) (fd dom σ_205) [] 205 [.int (iI z205_s0), .int (iI x1), .ref h] := by
    intro σ_205 z205_s0 G_205 F_205 hc205_q85 rv205_x1 rv205_x2 rv205_x3 rv205_x4 rv205_z15 r205_s0
    refine u_callVv B Z hz (n := 2) (As := [.int (iI x1), .int (iI z205_s0)]) (rest := []) (c_M_asksFor l D K Z _ _ _ _ h q Y x1 z205_s0 ⟨by omega, by omega⟩ ⟨by omega, by omega⟩ σ_205 G_205 (At.mk hc205_q85 e16 (by omega) ⟨by omega, by omega⟩)) gd_M_job_M_asksFor_630 rfl rfl rfl (by decide +kernel) ⟨Nat.le_trans (by decide +kernel) hR.1, Nat.le_trans (by decide +kernel) hR.2⟩ Y.o (clsM G_205.t) rfl rfl rfl rfl (Nat.le_of_ble_eq_true rfl) dX12_job_205 ⟨Nat.zero_le _, Nat.zero_le _⟩ (fun σ18 p19 => ?_)
    obtain ⟨G21, F22⟩ := p19
    have F23 := F_205.call F22 (by first | rfl | simp)
    refine v_iconst B (v := iI 1) dX12_job_208 rfl ?_
    exact hend σ18 1 _ _ G21 F23 ⟨by omega, by omega⟩ dX12_job_209
  have J200 : ∀ (σ_200 : Nat → va_E), GM K h q σ_200 → Fr τ [(50, 0), (216, 0), (217, 0), (218, 0), (220, 0), (221, 0), (222, 0), (190, 0), (219, 0), (182, 0), (184, 0), (185, 0)] σ0 σ_200 → (σ_200 (q 85) = .inl (K 0, 2, .inl f12)) → (0 ≤ x1 ∧ x1 ≤ 1) → (2 ≤ x2 ∧ x2 ≤ 3) → (0 ≤ x3 ∧ x3 ≤ 65535) → (0 ≤ x4 ∧ x4 ≤ 65535) → (0 ≤ z15 ∧ z15 ≤ 7) → V p l e R s m args below meth c 6 D A Q (0, 0) (fd dom σ_200) [(3, .int (iI x3))] 200 [.int (iI x1), .ref h] := by
    intro σ_200 G_200 F_200 hc200_q85 rv200_x1 rv200_x2 rv200_x3 rv200_x4 rv200_z15
    refine v_iload_n B dX12_job_200 rfl rfl ?_
    refine v_goto B (tgt := 205) dX12_job_201 (by decide +kernel) ?_
    refine v_lv [] rfl ?_
    exact J205 σ_200 x3 G_200 F_200 hc200_q85 ⟨by omega, by omega⟩ ⟨by omega, by omega⟩ ⟨by omega, by omega⟩ ⟨by omega, by omega⟩ ⟨by omega, by omega⟩ ⟨by omega, by omega⟩
  have J188 : ∀ (σ_188 : Nat → va_E), GM K h q σ_188 → Fr τ [(50, 0), (216, 0), (217, 0), (218, 0), (220, 0), (221, 0), (222, 0), (190, 0), (219, 0), (182, 0), (184, 0), (185, 0)] σ0 σ_188 → (σ_188 (q 85) = .inl (K 0, 2, .inl f12)) → (0 ≤ x1 ∧ x1 ≤ 1) → (0 ≤ x2 ∧ x2 ≤ 6) → (0 ≤ x3 ∧ x3 ≤ 65535) → (0 ≤ x4 ∧ x4 ≤ 65535) → (0 ≤ z15 ∧ z15 ≤ 7) → V p l e R s m args below meth c 6 D A Q (0, 0) (fd dom σ_188) [(0, .ref h), (1, .int (iI x1)), (2, .int (iI x2)), (3, .int (iI x3))] 188 [] := by
    intro σ_188 G_188 F_188 hc188_q85 rv188_x1 rv188_x2 rv188_x3 rv188_x4 rv188_z15
    refine v_aload_n B dX12_job_188 rfl rfl ?_
    refine v_iload_n B dX12_job_189 rfl rfl ?_
    refine v_iload_n B dX12_job_190 rfl rfl ?_
    refine v_iconst B (v := iI 2) dX12_job_191 rfl ?_
    refine u_icmp_eq B (tgt := 200) (by omega) (by omega) dX12_job_192 (by decide +kernel) (fun c24 => ?_) (fun c24 => ?_)
    · refine v_lv [3] rfl ?_
      exact J200 σ_188 G_188 F_188 hc188_q85 ⟨by omega, by omega⟩ ⟨by omega, by omega⟩ ⟨by omega, by omega⟩ ⟨by omega, by omega⟩ ⟨by omega, by omega⟩
    · refine v_iload_n B dX12_job_195 rfl rfl ?_
      refine v_iconst B (v := iI 3) dX12_job_196 rfl ?_
      refine u_icmp_ne B (tgt := 204) (by omega) (by omega) dX12_job_197 (by decide +kernel) (fun c25 => ?_) (fun c25 => ?_)
      · refine v_iconst B (v := iI 1) dX12_job_204 rfl ?_
        refine v_lv [] rfl ?_
        exact J205 σ_188 1 G_188 F_188 hc188_q85 ⟨by omega, by omega⟩ ⟨by omega, by omega⟩ ⟨by omega, by omega⟩ ⟨by omega, by omega⟩ ⟨by omega, by omega⟩ ⟨by omega, by omega⟩
      · refine v_lv [3] rfl ?_
        exact J200 σ_188 G_188 F_188 hc188_q85 ⟨by omega, by omega⟩ ⟨by omega, by omega⟩ ⟨by omega, by omega⟩ ⟨by omega, by omega⟩ ⟨by omega, by omega⟩
  refine v_aload_n B dX12_job_0 rfl rfl ?_
  refine v_iconst B (v := iI 0) dX12_job_1 rfl ?_
  refine u_put B Z (C := RX12) (T := TX12) (N := 123) (ci := 12) hi_M_job_X12 Y.o h6 rfl 0 (by decide +kernel) tyX12 tyX12_ok nmX12 (List.mem_of_getElem? (i := 44) rfl) rfl (ty := .int) (tyX12_ok 0 (by decide +kernel)) rfl rfl (Nat.le_of_ble_eq_true rfl) (fs' := fsM q (iI 0) (iI z2) (iI z3) (iI z4) (iI z5)) rfl dX12_job_2 (fun σ26 h27 n28 => ?_)
  have F29 := F0.put Y.o (by simp) n28
  have G30 := G0.putO Y ⟨0, z2, z3, z4, z5, h27, ⟨by omega, by omega⟩, ⟨by omega, by omega⟩, ⟨by omega, by omega⟩, ⟨by omega, by omega⟩, ⟨by omega, by omega⟩⟩ n28
  refine v_iload_n B dX12_job_5 rfl rfl ?_
  refine v_iconst B (v := iI 2) dX12_job_6 rfl ?_
  refine u_callSi B Z hz (n := 2) (As := [.int (iI x1), .int (iI 2)]) (rest := []) (c_M_in l D K Z _ _ _ _ h q Y x1 2 ⟨by omega, by omega⟩ ⟨by omega, by omega⟩ σ26 (G30.t)) gd_M_job_M_in_413 rfl rfl rfl (by decide +kernel) ⟨Nat.le_trans (by decide +kernel) hR.1, Nat.le_trans (by decide +kernel) hR.2⟩ rfl rfl (Nat.le_of_ble_eq_true rfl) dX12_job_7 ⟨Nat.zero_le _, Nat.zero_le _⟩ (fun v33 σ31 p32 => ?_)
  obtain ⟨rfl, z34, e35, r36, po37⟩ := p32
  subst e35
  refine u_if_eq B (tgt := 72) (by omega) dX12_job_10 (by decide +kernel) (fun c38 => ?_) (fun c38 => ?_)
  · refine v_iconst B (v := iI 0) dX12_job_72 rfl ?_
    exact hend σ26 0 _ _ G30 F29 ⟨by omega, by omega⟩ dX12_job_73
  · refine v_aload_n B dX12_job_13 rfl rfl ?_
    refine v_iload_n B dX12_job_14 rfl rfl ?_
    refine u_callVi B Z hz (n := 1) (As := [.int (iI x1)]) (rest := []) (c_M_isLinked l D K Z _ _ _ _ h q Y x1 ⟨by omega, by omega⟩ σ26 (G30.t)) gd_M_job_M_isLinked_662 rfl rfl rfl (by decide +kernel) ⟨Nat.le_trans (by decide +kernel) hR.1, Nat.le_trans (by decide +kernel) hR.2⟩ Y.o (clsM G30.t) rfl rfl rfl rfl (Nat.le_of_ble_eq_true rfl) dX12_job_15 ⟨Nat.zero_le _, Nat.zero_le _⟩ (fun v41 σ39 p40 => ?_)
    obtain ⟨rfl, z42, e43, r44, po45⟩ := p40
    subst e43
    obtain ⟨f46, h47, e48⟩ := ga_7 G30.t
    obtain ⟨z49, e50, r51⟩ := e48 (x1 : Int).toNat
    have r52 : z42 = 1 → 4 ≤ z49 := fun q => ((po45 q).use h47 e50 (by omega)).1
    refine u_if_eq B (tgt := 72) (by omega) dX12_job_18 (by decide +kernel) (fun c53 => ?_) (fun c53 => ?_)
    · refine v_iconst B (v := iI 0) dX12_job_72 rfl ?_
      exact hend σ26 0 _ _ G30 F29 ⟨by omega, by omega⟩ dX12_job_73
    · refine v_iload_n B dX12_job_21 rfl rfl ?_
      refine v_bipush B (v := iI 7) dX12_job_22 (by decide +kernel) ?_
      refine u_callSi B Z hz (n := 2) (As := [.int (iI x2), .int (iI 7)]) (rest := []) (c_M_in l D K Z _ _ _ _ h q Y x2 7 ⟨by omega, by omega⟩ ⟨by omega, by omega⟩ σ26 (G30.t)) gd_M_job_M_in_413 rfl rfl rfl (by decide +kernel) ⟨Nat.le_trans (by decide +kernel) hR.1, Nat.le_trans (by decide +kernel) hR.2⟩ rfl rfl (Nat.le_of_ble_eq_true rfl) dX12_job_24 ⟨Nat.zero_le _, Nat.zero_le _⟩ (fun v56 σ54 p55 => ?_)
      obtain ⟨rfl, z57, e58, r59, po60⟩ := p55
      subst e58
      refine u_if_eq B (tgt := 72) (by omega) dX12_job_27 (by decide +kernel) (fun c61 => ?_) (fun c61 => ?_)
      · refine v_iconst B (v := iI 0) dX12_job_72 rfl ?_
        exact hend σ26 0 _ _ G30 F29 ⟨by omega, by omega⟩ dX12_job_73
      · refine v_iload_n B dX12_job_30 rfl rfl ?_
        refine v_ldcw B (v := iI 65536) (u_ci (List.mem_of_getElem? (i := 53) rfl) (by decide +kernel)) dX12_job_31 ?_
        refine u_callSi B Z hz (n := 2) (As := [.int (iI x3), .int (iI 65536)]) (rest := []) (c_M_in l D K Z _ _ _ _ h q Y x3 65536 ⟨by omega, by omega⟩ ⟨by omega, by omega⟩ σ26 (G30.t)) gd_M_job_M_in_413 rfl rfl rfl (by decide +kernel) ⟨Nat.le_trans (by decide +kernel) hR.1, Nat.le_trans (by decide +kernel) hR.2⟩ rfl rfl (Nat.le_of_ble_eq_true rfl) dX12_job_34 ⟨Nat.zero_le _, Nat.zero_le _⟩ (fun v64 σ62 p63 => ?_)
        obtain ⟨rfl, z65, e66, r67, po68⟩ := p63
        subst e66
        refine u_if_eq B (tgt := 72) (by omega) dX12_job_37 (by decide +kernel) (fun c69 => ?_) (fun c69 => ?_)
        · refine v_iconst B (v := iI 0) dX12_job_72 rfl ?_
          exact hend σ26 0 _ _ G30 F29 ⟨by omega, by omega⟩ dX12_job_73
        · refine v_iload B dX12_job_40 rfl ?_
          refine v_ldcw B (v := iI 65536) (u_ci (List.mem_of_getElem? (i := 53) rfl) (by decide +kernel)) dX12_job_42 ?_
          refine u_callSi B Z hz (n := 2) (As := [.int (iI x4), .int (iI 65536)]) (rest := []) (c_M_in l D K Z _ _ _ _ h q Y x4 65536 ⟨by omega, by omega⟩ ⟨by omega, by omega⟩ σ26 (G30.t)) gd_M_job_M_in_413 rfl rfl rfl (by decide +kernel) ⟨Nat.le_trans (by decide +kernel) hR.1, Nat.le_trans (by decide +kernel) hR.2⟩ rfl rfl (Nat.le_of_ble_eq_true rfl) dX12_job_45 ⟨Nat.zero_le _, Nat.zero_le _⟩ (fun v72 σ70 p71 => ?_)
          obtain ⟨rfl, z73, e74, r75, po76⟩ := p71
          subst e74
          refine u_if_eq B (tgt := 72) (by omega) dX12_job_48 (by decide +kernel) (fun c77 => ?_) (fun c77 => ?_)
          · refine v_iconst B (v := iI 0) dX12_job_72 rfl ?_
            exact hend σ26 0 _ _ G30 F29 ⟨by omega, by omega⟩ dX12_job_73
          · refine v_aload_n B dX12_job_51 rfl rfl ?_
            refine u_get B Z (C := RX12) (T := TX12) (N := 123) (ci := 12) hi_M_job_X12 Y.o h27 rfl 116 (by decide +kernel) (List.mem_of_getElem? (i := 26) rfl) rfl dX12_job_52 ?_
            refine v_iload_n B dX12_job_55 rfl rfl ?_
            obtain ⟨f78, h79, e80⟩ := ga_116 G30.t
            obtain ⟨z81, e82, r83⟩ := e80 (x1 : Int).toNat
            refine u_iald B Z (t0 := 0) (ym_116 Y) h79 rfl (by omega) e82 dX12_job_56 ?_
            refine v_iconst B (v := iI (-1)) dX12_job_57 rfl ?_
            refine u_icmp_ne B (tgt := 72) (by omega) (by omega) dX12_job_58 (by decide +kernel) (fun c84 => ?_) (fun c84 => ?_)
            · refine v_iconst B (v := iI 0) dX12_job_72 rfl ?_
              exact hend σ26 0 _ _ G30 F29 ⟨by omega, by omega⟩ dX12_job_73
            · refine v_aload_n B dX12_job_61 rfl rfl ?_
              refine u_get B Z (C := RX12) (T := TX12) (N := 123) (ci := 12) hi_M_job_X12 Y.o h27 rfl 85 (by decide +kernel) (List.mem_of_getElem? (i := 16) rfl) rfl dX12_job_62 ?_
              refine v_iload_n B dX12_job_65 rfl rfl ?_
              have h85 := (n28 (q 85) (ne_ty (ym_85 Y) Y.o (by decide))).trans (h13)
              refine u_iald B Z (t0 := 0) (ym_85 Y) h85 rfl (by omega) e16 dX12_job_66 ?_
              refine v_bipush B (v := iI 8) dX12_job_67 (by decide +kernel) ?_
              refine u_icmp_ne B (tgt := 74) (by omega) (by omega) dX12_job_69 (by decide +kernel) (fun c86 => ?_) (fun c86 => ?_)
              · refine v_iload_n B dX12_job_74 rfl rfl ?_
                refine v_iconst B (v := iI 5) dX12_job_75 rfl ?_
                refine u_icmp_eq B (tgt := 85) (by omega) (by omega) dX12_job_76 (by decide +kernel) (fun c87 => ?_) (fun c87 => ?_)
                · refine v_iconst B (v := iI 1) dX12_job_85 rfl ?_
                  refine v_goto B (tgt := 90) dX12_job_86 (by decide +kernel) ?_
                  refine v_istore B (lv' := [(5, .int (iI 1)), (0, .ref h), (1, .int (iI x1)), (2, .int (iI x2)), (3, .int (iI x3)), (4, .int (iI x4))]) dX12_job_90 (by decide +kernel) rfl ?_
                  refine v_iload B dX12_job_92 rfl ?_
                  refine u_if_eq B (tgt := 108) (by omega) dX12_job_94 (by decide +kernel) (fun c88 => by omega) (fun c88 => ?_)
                  refine v_aload_n B dX12_job_97 rfl rfl ?_
                  refine u_get B Z (C := RX12) (T := TX12) (N := 123) (ci := 12) hi_M_job_X12 Y.o h27 rfl 2 (by decide +kernel) (List.mem_of_getElem? (i := 54) rfl) rfl dX12_job_98 ?_
                  refine v_bipush B (v := iI 40) dX12_job_101 (by decide +kernel) ?_
                  refine u_icmp_le B (tgt := 108) (by omega) (by omega) dX12_job_103 (by decide +kernel) (fun c89 => ?_) (fun c89 => ?_)
                  · refine v_aload_n B dX12_job_108 rfl rfl ?_
                    refine u_get B Z (C := RX12) (T := TX12) (N := 123) (ci := 12) hi_M_job_X12 Y.o h27 rfl 116 (by decide +kernel) (List.mem_of_getElem? (i := 26) rfl) rfl dX12_job_109 ?_
                    refine v_iload_n B dX12_job_112 rfl rfl ?_
                    refine v_iload_n B dX12_job_113 rfl rfl ?_
                    refine u_iast B Z (t0 := 0) (x := iI x2) (ym_116 Y) h79 rfl (by omega) dX12_job_114 (fun σ90 h91 n92 => ?_)
                    have e93 := el_upd (z := x2) e80 ⟨by omega, by omega⟩ (x1 : Int).toNat
                    have F94 := F29.put (ym_116 Y) (by simp) n92
                    have G95 := gp_116 Y G30 ⟨_, h91, e93⟩ n92
                    refine v_aload_n B dX12_job_115 rfl rfl ?_
                    have h96 := (n92 h (ne_ty Y.o (ym_116 Y) (by decide))).trans (h27)
                    refine u_get B Z (C := RX12) (T := TX12) (N := 123) (ci := 12) hi_M_job_X12 Y.o h96 rfl 117 (by decide +kernel) (List.mem_of_getElem? (i := 34) rfl) rfl dX12_job_116 ?_
                    refine v_iload_n B dX12_job_119 rfl rfl ?_
                    refine v_iload_n B dX12_job_120 rfl rfl ?_
                    obtain ⟨f97, h98, e99⟩ := ga_117 G95.t
                    refine u_iast B Z (t0 := 0) (x := iI x3) (ym_117 Y) h98 rfl (by omega) dX12_job_121 (fun σ100 h101 n102 => ?_)
                    have e103 := el_upd (z := x3) e99 ⟨by omega, by omega⟩ (x1 : Int).toNat
                    have F104 := F94.put (ym_117 Y) (by simp) n102
                    have G105 := gp_117 Y G95 ⟨_, h101, e103⟩ n102
                    refine v_aload_n B dX12_job_122 rfl rfl ?_
                    have h106 := (n102 h (ne_ty Y.o (ym_117 Y) (by decide))).trans (h96)
                    refine u_get B Z (C := RX12) (T := TX12) (N := 123) (ci := 12) hi_M_job_X12 Y.o h106 rfl 118 (by decide +kernel) (List.mem_of_getElem? (i := 32) rfl) rfl dX12_job_123 ?_
                    refine v_iload_n B dX12_job_126 rfl rfl ?_
                    refine v_iload B dX12_job_127 rfl ?_
                    obtain ⟨f107, h108, e109⟩ := ga_118 G105.t
                    refine u_iast B Z (t0 := 0) (x := iI x4) (ym_118 Y) h108 rfl (by omega) dX12_job_129 (fun σ110 h111 n112 => ?_)
                    have e113 := el_upd (z := x4) e109 ⟨by omega, by omega⟩ (x1 : Int).toNat
                    have F114 := F104.put (ym_118 Y) (by simp) n112
                    have G115 := gp_118 Y G105 ⟨_, h111, e113⟩ n112
                    refine v_aload_n B dX12_job_130 rfl rfl ?_
                    have h116 := (n112 h (ne_ty Y.o (ym_118 Y) (by decide))).trans (h106)
                    refine u_get B Z (C := RX12) (T := TX12) (N := 123) (ci := 12) hi_M_job_X12 Y.o h116 rfl 120 (by decide +kernel) (List.mem_of_getElem? (i := 25) rfl) rfl dX12_job_131 ?_
                    refine v_iload_n B dX12_job_134 rfl rfl ?_
                    refine v_iconst B (v := iI 0) dX12_job_135 rfl ?_
                    obtain ⟨f117, h118, e119⟩ := ga_120 G115.t
                    refine u_iast B Z (t0 := 0) (x := iI 0) (ym_120 Y) h118 rfl (by omega) dX12_job_136 (fun σ120 h121 n122 => ?_)
                    have e123 := el_upd (z := 0) e119 ⟨by omega, by omega⟩ (x1 : Int).toNat
                    have F124 := F114.put (ym_120 Y) (by simp) n122
                    have G125 := gp_120 Y G115 ⟨_, h121, e123⟩ n122
                    refine v_aload_n B dX12_job_137 rfl rfl ?_
                    have h126 := (n122 h (ne_ty Y.o (ym_120 Y) (by decide))).trans (h116)
                    refine u_get B Z (C := RX12) (T := TX12) (N := 123) (ci := 12) hi_M_job_X12 Y.o h126 rfl 121 (by decide +kernel) (List.mem_of_getElem? (i := 27) rfl) rfl dX12_job_138 ?_
                    refine v_iload_n B dX12_job_141 rfl rfl ?_
                    refine v_iload B dX12_job_142 rfl ?_
                    refine u_if_eq B (tgt := 154) (by omega) dX12_job_144 (by decide +kernel) (fun c127 => by omega) (fun c127 => ?_)
                    refine v_aload_n B dX12_job_147 rfl rfl ?_
                    refine u_get B Z (C := RX12) (T := TX12) (N := 123) (ci := 12) hi_M_job_X12 Y.o h126 rfl 2 (by decide +kernel) (List.mem_of_getElem? (i := 54) rfl) rfl dX12_job_148 ?_
                    refine v_goto B (tgt := 155) dX12_job_151 (by decide +kernel) ?_
                    obtain ⟨f128, h129, e130⟩ := ga_121 G125.t
                    refine u_iast B Z (t0 := 0) (x := iI z2) (ym_121 Y) h129 rfl (by omega) dX12_job_155 (fun σ131 h132 n133 => ?_)
                    have e134 := el_upd (z := z2) e130 ⟨by omega, by omega⟩ (x1 : Int).toNat
                    have F135 := F124.put (ym_121 Y) (by simp) n133
                    have G136 := gp_121 Y G125 ⟨_, h132, e134⟩ n133
                    refine v_aload_n B dX12_job_156 rfl rfl ?_
                    have h137 := (n133 h (ne_ty Y.o (ym_121 Y) (by decide))).trans (h126)
                    refine u_get B Z (C := RX12) (T := TX12) (N := 123) (ci := 12) hi_M_job_X12 Y.o h137 rfl 1 (by decide +kernel) (List.mem_of_getElem? (i := 55) rfl) rfl dX12_job_157 ?_
                    refine v_iconst B (v := iI 0) dX12_job_160 rfl ?_
                    refine v_aload_n B dX12_job_161 rfl rfl ?_
                    refine u_get B Z (C := RX12) (T := TX12) (N := 123) (ci := 12) hi_M_job_X12 Y.o h137 rfl 122 (by decide +kernel) (List.mem_of_getElem? (i := 31) rfl) rfl dX12_job_162 ?_
                    refine v_bipush B (v := iI 40) dX12_job_165 (by decide +kernel) ?_
                    refine v_iload_n B dX12_job_167 rfl rfl ?_
                    refine v_imul B (v := iI (40 * x1)) dX12_job_168 ((iI_mul _ _).trans (congrArg iI (by omega))) ?_
                    refine v_aload_n B dX12_job_169 rfl rfl ?_
                    refine u_get B Z (C := RX12) (T := TX12) (N := 123) (ci := 12) hi_M_job_X12 Y.o h137 rfl 121 (by decide +kernel) (List.mem_of_getElem? (i := 27) rfl) rfl dX12_job_170 ?_
                    refine v_iload_n B dX12_job_173 rfl rfl ?_
                    refine u_iald B Z (t0 := 0) (ym_121 Y) h132 rfl (by omega) upd_s dX12_job_174 ?_
                    refine u_callSv B Z hz (n := 5) (As := [.ref (q 1), .int (iI 0), .ref (q 122), .int (iI (40 * x1)), .int (iI z2)]) (rest := []) (c_M_copy l D K Z _ _ _ _ h q Y 1 100 0 122 80 (40 * x1) z2 rfl ⟨by omega, by omega⟩ rfl ⟨by omega, by omega⟩ ⟨by omega, by omega⟩ σ131 G136 (by omega)) gd_M_job_M_copy_29 rfl rfl rfl (by decide +kernel) ⟨Nat.le_trans (by decide +kernel) hR.1, Nat.le_trans (by decide +kernel) hR.2⟩ rfl rfl (Nat.le_of_ble_eq_true rfl) dX12_job_175 ⟨Nat.zero_le _, Nat.zero_le _⟩ (fun σ138 p139 => ?_)
                    obtain ⟨G141, F142⟩ := p139
                    have F143 := F135.call F142 (by first | rfl | simp)
                    refine v_iload B dX12_job_178 rfl ?_
                    refine u_if_eq B (tgt := 188) (by omega) dX12_job_180 (by decide +kernel) (fun c144 => by omega) (fun c144 => ?_)
                    refine v_aload_n B dX12_job_183 rfl rfl ?_
                    refine v_iconst B (v := iI 0) dX12_job_184 rfl ?_
                    have h145 := (F142 h _ Y.o (by first | rfl | simp)).trans (h137)
                    refine u_put B Z (C := RX12) (T := TX12) (N := 123) (ci := 12) hi_M_job_X12 Y.o h145 rfl 2 (by decide +kernel) tyX12 tyX12_ok nmX12 (List.mem_of_getElem? (i := 54) rfl) rfl (ty := .int) (tyX12_ok 2 (by decide +kernel)) rfl rfl (Nat.le_of_ble_eq_true rfl) (fs' := fsM q (iI 0) (iI 0) (iI z3) (iI z4) (iI z5)) rfl dX12_job_185 (fun σ146 h147 n148 => ?_)
                    have F149 := F143.put Y.o (by simp) n148
                    have G150 := G141.putO Y ⟨0, 0, z3, z4, z5, h147, ⟨by omega, by omega⟩, ⟨by omega, by omega⟩, ⟨by omega, by omega⟩, ⟨by omega, by omega⟩, ⟨by omega, by omega⟩⟩ n148
                    refine v_lv [1, 2, 3, 4] rfl ?_
                    have h151 := (n148 (q 85) (ne_ty (ym_85 Y) Y.o (by decide))).trans ((F142 (q 85) _ (ym_85 Y) (by first | rfl | simp)).trans ((n133 (q 85) (ne_ty (ym_85 Y) (ym_121 Y) (by decide))).trans ((n122 (q 85) (ne_ty (ym_85 Y) (ym_120 Y) (by decide))).trans ((n112 (q 85) (ne_ty (ym_85 Y) (ym_118 Y) (by decide))).trans ((n102 (q 85) (ne_ty (ym_85 Y) (ym_117 Y) (by decide))).trans ((n92 (q 85) (ne_ty (ym_85 Y) (ym_116 Y) (by decide))).trans (h85)))))))
                    exact J188 σ146 G150 F149 h151 ⟨by omega, by omega⟩ ⟨by omega, by omega⟩ ⟨by omega, by omega⟩ ⟨by omega, by omega⟩ ⟨by omega, by omega⟩
                  · refine v_iconst B (v := iI 0) dX12_job_106 rfl ?_
                    exact hend σ26 0 _ _ G30 F29 ⟨by omega, by omega⟩ dX12_job_107
                · refine v_iload_n B dX12_job_79 rfl rfl ?_
                  refine v_bipush B (v := iI 6) dX12_job_80 (by decide +kernel) ?_
                  refine u_icmp_ne B (tgt := 89) (by omega) (by omega) dX12_job_82 (by decide +kernel) (fun c152 => ?_) (fun c152 => ?_)
                  · refine v_iconst B (v := iI 0) dX12_job_89 rfl ?_
                    refine v_istore B (lv' := [(5, .int (iI 0)), (0, .ref h), (1, .int (iI x1)), (2, .int (iI x2)), (3, .int (iI x3)), (4, .int (iI x4))]) dX12_job_90 (by decide +kernel) rfl ?_
                    refine v_iload B dX12_job_92 rfl ?_
                    refine u_if_eq B (tgt := 108) (by omega) dX12_job_94 (by decide +kernel) (fun c153 => ?_) (fun c153 => by omega)
                    refine v_aload_n B dX12_job_108 rfl rfl ?_
                    refine u_get B Z (C := RX12) (T := TX12) (N := 123) (ci := 12) hi_M_job_X12 Y.o h27 rfl 116 (by decide +kernel) (List.mem_of_getElem? (i := 26) rfl) rfl dX12_job_109 ?_
                    refine v_iload_n B dX12_job_112 rfl rfl ?_
                    refine v_iload_n B dX12_job_113 rfl rfl ?_
                    refine u_iast B Z (t0 := 0) (x := iI x2) (ym_116 Y) h79 rfl (by omega) dX12_job_114 (fun σ154 h155 n156 => ?_)
                    have e157 := el_upd (z := x2) e80 ⟨by omega, by omega⟩ (x1 : Int).toNat
                    have F158 := F29.put (ym_116 Y) (by simp) n156
                    have G159 := gp_116 Y G30 ⟨_, h155, e157⟩ n156
                    refine v_aload_n B dX12_job_115 rfl rfl ?_
                    have h160 := (n156 h (ne_ty Y.o (ym_116 Y) (by decide))).trans (h27)
                    refine u_get B Z (C := RX12) (T := TX12) (N := 123) (ci := 12) hi_M_job_X12 Y.o h160 rfl 117 (by decide +kernel) (List.mem_of_getElem? (i := 34) rfl) rfl dX12_job_116 ?_
                    refine v_iload_n B dX12_job_119 rfl rfl ?_
                    refine v_iload_n B dX12_job_120 rfl rfl ?_
                    obtain ⟨f161, h162, e163⟩ := ga_117 G159.t
                    refine u_iast B Z (t0 := 0) (x := iI x3) (ym_117 Y) h162 rfl (by omega) dX12_job_121 (fun σ164 h165 n166 => ?_)
                    have e167 := el_upd (z := x3) e163 ⟨by omega, by omega⟩ (x1 : Int).toNat
                    have F168 := F158.put (ym_117 Y) (by simp) n166
                    have G169 := gp_117 Y G159 ⟨_, h165, e167⟩ n166
                    refine v_aload_n B dX12_job_122 rfl rfl ?_
                    have h170 := (n166 h (ne_ty Y.o (ym_117 Y) (by decide))).trans (h160)
                    refine u_get B Z (C := RX12) (T := TX12) (N := 123) (ci := 12) hi_M_job_X12 Y.o h170 rfl 118 (by decide +kernel) (List.mem_of_getElem? (i := 32) rfl) rfl dX12_job_123 ?_
                    refine v_iload_n B dX12_job_126 rfl rfl ?_
                    refine v_iload B dX12_job_127 rfl ?_
                    obtain ⟨f171, h172, e173⟩ := ga_118 G169.t
                    refine u_iast B Z (t0 := 0) (x := iI x4) (ym_118 Y) h172 rfl (by omega) dX12_job_129 (fun σ174 h175 n176 => ?_)
                    have e177 := el_upd (z := x4) e173 ⟨by omega, by omega⟩ (x1 : Int).toNat
                    have F178 := F168.put (ym_118 Y) (by simp) n176
                    have G179 := gp_118 Y G169 ⟨_, h175, e177⟩ n176
                    refine v_aload_n B dX12_job_130 rfl rfl ?_
                    have h180 := (n176 h (ne_ty Y.o (ym_118 Y) (by decide))).trans (h170)
                    refine u_get B Z (C := RX12) (T := TX12) (N := 123) (ci := 12) hi_M_job_X12 Y.o h180 rfl 120 (by decide +kernel) (List.mem_of_getElem? (i := 25) rfl) rfl dX12_job_131 ?_
                    refine v_iload_n B dX12_job_134 rfl rfl ?_
                    refine v_iconst B (v := iI 0) dX12_job_135 rfl ?_
                    obtain ⟨f181, h182, e183⟩ := ga_120 G179.t
                    refine u_iast B Z (t0 := 0) (x := iI 0) (ym_120 Y) h182 rfl (by omega) dX12_job_136 (fun σ184 h185 n186 => ?_)
                    have e187 := el_upd (z := 0) e183 ⟨by omega, by omega⟩ (x1 : Int).toNat
                    have F188 := F178.put (ym_120 Y) (by simp) n186
                    have G189 := gp_120 Y G179 ⟨_, h185, e187⟩ n186
                    refine v_aload_n B dX12_job_137 rfl rfl ?_
                    have h190 := (n186 h (ne_ty Y.o (ym_120 Y) (by decide))).trans (h180)
                    refine u_get B Z (C := RX12) (T := TX12) (N := 123) (ci := 12) hi_M_job_X12 Y.o h190 rfl 121 (by decide +kernel) (List.mem_of_getElem? (i := 27) rfl) rfl dX12_job_138 ?_
                    refine v_iload_n B dX12_job_141 rfl rfl ?_
                    refine v_iload B dX12_job_142 rfl ?_
                    refine u_if_eq B (tgt := 154) (by omega) dX12_job_144 (by decide +kernel) (fun c191 => ?_) (fun c191 => by omega)
                    refine v_iconst B (v := iI 0) dX12_job_154 rfl ?_
                    obtain ⟨f192, h193, e194⟩ := ga_121 G189.t
                    refine u_iast B Z (t0 := 0) (x := iI 0) (ym_121 Y) h193 rfl (by omega) dX12_job_155 (fun σ195 h196 n197 => ?_)
                    have e198 := el_upd (z := 0) e194 ⟨by omega, by omega⟩ (x1 : Int).toNat
                    have F199 := F188.put (ym_121 Y) (by simp) n197
                    have G200 := gp_121 Y G189 ⟨_, h196, e198⟩ n197
                    refine v_aload_n B dX12_job_156 rfl rfl ?_
                    have h201 := (n197 h (ne_ty Y.o (ym_121 Y) (by decide))).trans (h190)
                    refine u_get B Z (C := RX12) (T := TX12) (N := 123) (ci := 12) hi_M_job_X12 Y.o h201 rfl 1 (by decide +kernel) (List.mem_of_getElem? (i := 55) rfl) rfl dX12_job_157 ?_
                    refine v_iconst B (v := iI 0) dX12_job_160 rfl ?_
                    refine v_aload_n B dX12_job_161 rfl rfl ?_
                    refine u_get B Z (C := RX12) (T := TX12) (N := 123) (ci := 12) hi_M_job_X12 Y.o h201 rfl 122 (by decide +kernel) (List.mem_of_getElem? (i := 31) rfl) rfl dX12_job_162 ?_
                    refine v_bipush B (v := iI 40) dX12_job_165 (by decide +kernel) ?_
                    refine v_iload_n B dX12_job_167 rfl rfl ?_
                    refine v_imul B (v := iI (40 * x1)) dX12_job_168 ((iI_mul _ _).trans (congrArg iI (by omega))) ?_
                    refine v_aload_n B dX12_job_169 rfl rfl ?_
                    refine u_get B Z (C := RX12) (T := TX12) (N := 123) (ci := 12) hi_M_job_X12 Y.o h201 rfl 121 (by decide +kernel) (List.mem_of_getElem? (i := 27) rfl) rfl dX12_job_170 ?_
                    refine v_iload_n B dX12_job_173 rfl rfl ?_
                    refine u_iald B Z (t0 := 0) (ym_121 Y) h196 rfl (by omega) upd_s dX12_job_174 ?_
                    refine u_callSv B Z hz (n := 5) (As := [.ref (q 1), .int (iI 0), .ref (q 122), .int (iI (40 * x1)), .int (iI 0)]) (rest := []) (c_M_copy l D K Z _ _ _ _ h q Y 1 100 0 122 80 (40 * x1) 0 rfl ⟨by omega, by omega⟩ rfl ⟨by omega, by omega⟩ ⟨by omega, by omega⟩ σ195 G200 (by omega)) gd_M_job_M_copy_29 rfl rfl rfl (by decide +kernel) ⟨Nat.le_trans (by decide +kernel) hR.1, Nat.le_trans (by decide +kernel) hR.2⟩ rfl rfl (Nat.le_of_ble_eq_true rfl) dX12_job_175 ⟨Nat.zero_le _, Nat.zero_le _⟩ (fun σ202 p203 => ?_)
                    obtain ⟨G205, F206⟩ := p203
                    have F207 := F199.call F206 (by first | rfl | simp)
                    refine v_iload B dX12_job_178 rfl ?_
                    refine u_if_eq B (tgt := 188) (by omega) dX12_job_180 (by decide +kernel) (fun c208 => ?_) (fun c208 => by omega)
                    refine v_lv [1, 2, 3, 4] rfl ?_
                    have h209 := (F206 (q 85) _ (ym_85 Y) (by first | rfl | simp)).trans ((n197 (q 85) (ne_ty (ym_85 Y) (ym_121 Y) (by decide))).trans ((n186 (q 85) (ne_ty (ym_85 Y) (ym_120 Y) (by decide))).trans ((n176 (q 85) (ne_ty (ym_85 Y) (ym_118 Y) (by decide))).trans ((n166 (q 85) (ne_ty (ym_85 Y) (ym_117 Y) (by decide))).trans ((n156 (q 85) (ne_ty (ym_85 Y) (ym_116 Y) (by decide))).trans (h85))))))
                    exact J188 σ202 G205 F207 h209 ⟨by omega, by omega⟩ ⟨by omega, by omega⟩ ⟨by omega, by omega⟩ ⟨by omega, by omega⟩ ⟨by omega, by omega⟩
                  · refine v_iconst B (v := iI 1) dX12_job_85 rfl ?_
                    refine v_goto B (tgt := 90) dX12_job_86 (by decide +kernel) ?_
                    refine v_istore B (lv' := [(5, .int (iI 1)), (0, .ref h), (1, .int (iI x1)), (2, .int (iI x2)), (3, .int (iI x3)), (4, .int (iI x4))]) dX12_job_90 (by decide +kernel) rfl ?_
                    refine v_iload B dX12_job_92 rfl ?_
                    refine u_if_eq B (tgt := 108) (by omega) dX12_job_94 (by decide +kernel) (fun c210 => by omega) (fun c210 => ?_)
                    refine v_aload_n B dX12_job_97 rfl rfl ?_
                    refine u_get B Z (C := RX12) (T := TX12) (N := 123) (ci := 12) hi_M_job_X12 Y.o h27 rfl 2 (by decide +kernel) (List.mem_of_getElem? (i := 54) rfl) rfl dX12_job_98 ?_
                    refine v_bipush B (v := iI 40) dX12_job_101 (by decide +kernel) ?_
                    refine u_icmp_le B (tgt := 108) (by omega) (by omega) dX12_job_103 (by decide +kernel) (fun c211 => ?_) (fun c211 => ?_)
                    · refine v_aload_n B dX12_job_108 rfl rfl ?_
                      refine u_get B Z (C := RX12) (T := TX12) (N := 123) (ci := 12) hi_M_job_X12 Y.o h27 rfl 116 (by decide +kernel) (List.mem_of_getElem? (i := 26) rfl) rfl dX12_job_109 ?_
                      refine v_iload_n B dX12_job_112 rfl rfl ?_
                      refine v_iload_n B dX12_job_113 rfl rfl ?_
                      refine u_iast B Z (t0 := 0) (x := iI x2) (ym_116 Y) h79 rfl (by omega) dX12_job_114 (fun σ212 h213 n214 => ?_)
                      have e215 := el_upd (z := x2) e80 ⟨by omega, by omega⟩ (x1 : Int).toNat
                      have F216 := F29.put (ym_116 Y) (by simp) n214
                      have G217 := gp_116 Y G30 ⟨_, h213, e215⟩ n214
                      refine v_aload_n B dX12_job_115 rfl rfl ?_
                      have h218 := (n214 h (ne_ty Y.o (ym_116 Y) (by decide))).trans (h27)
                      refine u_get B Z (C := RX12) (T := TX12) (N := 123) (ci := 12) hi_M_job_X12 Y.o h218 rfl 117 (by decide +kernel) (List.mem_of_getElem? (i := 34) rfl) rfl dX12_job_116 ?_
                      refine v_iload_n B dX12_job_119 rfl rfl ?_
                      refine v_iload_n B dX12_job_120 rfl rfl ?_
                      obtain ⟨f219, h220, e221⟩ := ga_117 G217.t
                      refine u_iast B Z (t0 := 0) (x := iI x3) (ym_117 Y) h220 rfl (by omega) dX12_job_121 (fun σ222 h223 n224 => ?_)
                      have e225 := el_upd (z := x3) e221 ⟨by omega, by omega⟩ (x1 : Int).toNat
                      have F226 := F216.put (ym_117 Y) (by simp) n224
                      have G227 := gp_117 Y G217 ⟨_, h223, e225⟩ n224
                      refine v_aload_n B dX12_job_122 rfl rfl ?_
                      have h228 := (n224 h (ne_ty Y.o (ym_117 Y) (by decide))).trans (h218)
                      refine u_get B Z (C := RX12) (T := TX12) (N := 123) (ci := 12) hi_M_job_X12 Y.o h228 rfl 118 (by decide +kernel) (List.mem_of_getElem? (i := 32) rfl) rfl dX12_job_123 ?_
                      refine v_iload_n B dX12_job_126 rfl rfl ?_
                      refine v_iload B dX12_job_127 rfl ?_
                      obtain ⟨f229, h230, e231⟩ := ga_118 G227.t
                      refine u_iast B Z (t0 := 0) (x := iI x4) (ym_118 Y) h230 rfl (by omega) dX12_job_129 (fun σ232 h233 n234 => ?_)
                      have e235 := el_upd (z := x4) e231 ⟨by omega, by omega⟩ (x1 : Int).toNat
                      have F236 := F226.put (ym_118 Y) (by simp) n234
                      have G237 := gp_118 Y G227 ⟨_, h233, e235⟩ n234
                      refine v_aload_n B dX12_job_130 rfl rfl ?_
                      have h238 := (n234 h (ne_ty Y.o (ym_118 Y) (by decide))).trans (h228)
                      refine u_get B Z (C := RX12) (T := TX12) (N := 123) (ci := 12) hi_M_job_X12 Y.o h238 rfl 120 (by decide +kernel) (List.mem_of_getElem? (i := 25) rfl) rfl dX12_job_131 ?_
                      refine v_iload_n B dX12_job_134 rfl rfl ?_
                      refine v_iconst B (v := iI 0) dX12_job_135 rfl ?_
                      obtain ⟨f239, h240, e241⟩ := ga_120 G237.t
                      refine u_iast B Z (t0 := 0) (x := iI 0) (ym_120 Y) h240 rfl (by omega) dX12_job_136 (fun σ242 h243 n244 => ?_)
                      have e245 := el_upd (z := 0) e241 ⟨by omega, by omega⟩ (x1 : Int).toNat
                      have F246 := F236.put (ym_120 Y) (by simp) n244
                      have G247 := gp_120 Y G237 ⟨_, h243, e245⟩ n244
                      refine v_aload_n B dX12_job_137 rfl rfl ?_
                      have h248 := (n244 h (ne_ty Y.o (ym_120 Y) (by decide))).trans (h238)
                      refine u_get B Z (C := RX12) (T := TX12) (N := 123) (ci := 12) hi_M_job_X12 Y.o h248 rfl 121 (by decide +kernel) (List.mem_of_getElem? (i := 27) rfl) rfl dX12_job_138 ?_
                      refine v_iload_n B dX12_job_141 rfl rfl ?_
                      refine v_iload B dX12_job_142 rfl ?_
                      refine u_if_eq B (tgt := 154) (by omega) dX12_job_144 (by decide +kernel) (fun c249 => by omega) (fun c249 => ?_)
                      refine v_aload_n B dX12_job_147 rfl rfl ?_
                      refine u_get B Z (C := RX12) (T := TX12) (N := 123) (ci := 12) hi_M_job_X12 Y.o h248 rfl 2 (by decide +kernel) (List.mem_of_getElem? (i := 54) rfl) rfl dX12_job_148 ?_
                      refine v_goto B (tgt := 155) dX12_job_151 (by decide +kernel) ?_
                      obtain ⟨f250, h251, e252⟩ := ga_121 G247.t
                      refine u_iast B Z (t0 := 0) (x := iI z2) (ym_121 Y) h251 rfl (by omega) dX12_job_155 (fun σ253 h254 n255 => ?_)
                      have e256 := el_upd (z := z2) e252 ⟨by omega, by omega⟩ (x1 : Int).toNat
                      have F257 := F246.put (ym_121 Y) (by simp) n255
                      have G258 := gp_121 Y G247 ⟨_, h254, e256⟩ n255
                      refine v_aload_n B dX12_job_156 rfl rfl ?_
                      have h259 := (n255 h (ne_ty Y.o (ym_121 Y) (by decide))).trans (h248)
                      refine u_get B Z (C := RX12) (T := TX12) (N := 123) (ci := 12) hi_M_job_X12 Y.o h259 rfl 1 (by decide +kernel) (List.mem_of_getElem? (i := 55) rfl) rfl dX12_job_157 ?_
                      refine v_iconst B (v := iI 0) dX12_job_160 rfl ?_
                      refine v_aload_n B dX12_job_161 rfl rfl ?_
                      refine u_get B Z (C := RX12) (T := TX12) (N := 123) (ci := 12) hi_M_job_X12 Y.o h259 rfl 122 (by decide +kernel) (List.mem_of_getElem? (i := 31) rfl) rfl dX12_job_162 ?_
                      refine v_bipush B (v := iI 40) dX12_job_165 (by decide +kernel) ?_
                      refine v_iload_n B dX12_job_167 rfl rfl ?_
                      refine v_imul B (v := iI (40 * x1)) dX12_job_168 ((iI_mul _ _).trans (congrArg iI (by omega))) ?_
                      refine v_aload_n B dX12_job_169 rfl rfl ?_
                      refine u_get B Z (C := RX12) (T := TX12) (N := 123) (ci := 12) hi_M_job_X12 Y.o h259 rfl 121 (by decide +kernel) (List.mem_of_getElem? (i := 27) rfl) rfl dX12_job_170 ?_
                      refine v_iload_n B dX12_job_173 rfl rfl ?_
                      refine u_iald B Z (t0 := 0) (ym_121 Y) h254 rfl (by omega) upd_s dX12_job_174 ?_
                      refine u_callSv B Z hz (n := 5) (As := [.ref (q 1), .int (iI 0), .ref (q 122), .int (iI (40 * x1)), .int (iI z2)]) (rest := []) (c_M_copy l D K Z _ _ _ _ h q Y 1 100 0 122 80 (40 * x1) z2 rfl ⟨by omega, by omega⟩ rfl ⟨by omega, by omega⟩ ⟨by omega, by omega⟩ σ253 G258 (by omega)) gd_M_job_M_copy_29 rfl rfl rfl (by decide +kernel) ⟨Nat.le_trans (by decide +kernel) hR.1, Nat.le_trans (by decide +kernel) hR.2⟩ rfl rfl (Nat.le_of_ble_eq_true rfl) dX12_job_175 ⟨Nat.zero_le _, Nat.zero_le _⟩ (fun σ260 p261 => ?_)
                      obtain ⟨G263, F264⟩ := p261
                      have F265 := F257.call F264 (by first | rfl | simp)
                      refine v_iload B dX12_job_178 rfl ?_
                      refine u_if_eq B (tgt := 188) (by omega) dX12_job_180 (by decide +kernel) (fun c266 => by omega) (fun c266 => ?_)
                      refine v_aload_n B dX12_job_183 rfl rfl ?_
                      refine v_iconst B (v := iI 0) dX12_job_184 rfl ?_
                      have h267 := (F264 h _ Y.o (by first | rfl | simp)).trans (h259)
                      refine u_put B Z (C := RX12) (T := TX12) (N := 123) (ci := 12) hi_M_job_X12 Y.o h267 rfl 2 (by decide +kernel) tyX12 tyX12_ok nmX12 (List.mem_of_getElem? (i := 54) rfl) rfl (ty := .int) (tyX12_ok 2 (by decide +kernel)) rfl rfl (Nat.le_of_ble_eq_true rfl) (fs' := fsM q (iI 0) (iI 0) (iI z3) (iI z4) (iI z5)) rfl dX12_job_185 (fun σ268 h269 n270 => ?_)
                      have F271 := F265.put Y.o (by simp) n270
                      have G272 := G263.putO Y ⟨0, 0, z3, z4, z5, h269, ⟨by omega, by omega⟩, ⟨by omega, by omega⟩, ⟨by omega, by omega⟩, ⟨by omega, by omega⟩, ⟨by omega, by omega⟩⟩ n270
                      refine v_lv [1, 2, 3, 4] rfl ?_
                      have h273 := (n270 (q 85) (ne_ty (ym_85 Y) Y.o (by decide))).trans ((F264 (q 85) _ (ym_85 Y) (by first | rfl | simp)).trans ((n255 (q 85) (ne_ty (ym_85 Y) (ym_121 Y) (by decide))).trans ((n244 (q 85) (ne_ty (ym_85 Y) (ym_120 Y) (by decide))).trans ((n234 (q 85) (ne_ty (ym_85 Y) (ym_118 Y) (by decide))).trans ((n224 (q 85) (ne_ty (ym_85 Y) (ym_117 Y) (by decide))).trans ((n214 (q 85) (ne_ty (ym_85 Y) (ym_116 Y) (by decide))).trans (h85)))))))
                      exact J188 σ268 G272 F271 h273 ⟨by omega, by omega⟩ ⟨by omega, by omega⟩ ⟨by omega, by omega⟩ ⟨by omega, by omega⟩ ⟨by omega, by omega⟩
                    · refine v_iconst B (v := iI 0) dX12_job_106 rfl ?_
                      exact hend σ26 0 _ _ G30 F29 ⟨by omega, by omega⟩ dX12_job_107
              · refine v_iconst B (v := iI 0) dX12_job_72 rfl ?_
                exact hend σ26 0 _ _ G30 F29 ⟨by omega, by omega⟩ dX12_job_73
set_option maxRecDepth 100000 in
theorem c_M_job (l : Launch) (D : va_G) (K : Nat → ClassId) {τ : Nat → Option Ty} {dom : List Nat} (Z : Sk τ dom) (zb zL : Nat) (zx : Nat → Int32) (zs : Nat → Nat) (h : Nat) (q : Nat → Nat) (Y : MS τ h q) (x1 : Int) (x2 : Int) (x3 : Int) (x4 : Int) (r_x1 : -2147483648 ≤ x1 ∧ x1 ≤ 2147483647) (r_x2 : -2147483648 ≤ x2 ∧ x2 ≤ 2147483647) (r_x3 : -2147483648 ≤ x3 ∧ x3 ≤ 2147483647) (r_x4 : -2147483648 ≤ x4 ∧ x4 ≤ 2147483647) (σ0 : Nat → va_E) (G0 : GM K h q σ0) : MZ l yX12_job wp_M_job ({ frames := 5, cells := 0, slots := 0, locals := 116 }) D (tysA K) [.ref h, .int (iI x1), .int (iI x2), .int (iI x3), .int (iI x4)] (fd dom σ0) zb zL zx zs (Qi D (fun r σ' => GM K h q σ' ∧ Fr τ [(50, 0), (216, 0), (217, 0), (218, 0), (220, 0), (221, 0), (222, 0), (190, 0), (219, 0), (182, 0), (184, 0), (185, 0)] σ0 σ' ∧ ∃ z : Int, r = iI z ∧ (0 ≤ z ∧ z ≤ 1)) (fun σ' => fd dom σ')) 0 0 := by
  refine mz_of (cc := cX12_job) (maxL := 6) (ret := (some .boolean)) (by decide +kernel) rfl (Nat.le_of_ble_eq_true rfl) ?_
  intro p e s m below meth c A B hr hlk _ hz
  exact b_M_job ⟨Nat.le_refl _, Nat.le_refl _⟩ B Z hz h q Y x1 x2 x3 x4 r_x1 r_x2 r_x3 r_x4 σ0 G0 (fun σ' z lv pc G F hZ hd => v_zret B hr hlk (nar01 (by omega)) σ' ⟨G, F, z, rfl, hZ⟩ rfl (Nat.le_refl _) (Nat.le_refl _) hd)

def wp_M_send : List Cond := .code yX12_send cX12_send 6 (some .boolean) :: (([.fieldLink RX12 1 "LowEnergyModel" "thrown" "I", .methodLink RX12 413 yX12_in, .static yX12_in, .initialized RX12, .code yX12_in cX12_in 2 (some .boolean), .methodLink RX12 662 yX12_isLinked, .instanceMethod yX12_isLinked, .selects RX12 yX12_isLinked yX12_isLinked, .code yX12_isLinked cX12_isLinked 2 (some .boolean), .fieldLink RX12 45 "LowEnergyModel" "state" "[I", .constant RX12 687 (65536), .fieldLink RX12 275 "LowEnergyModel" "messages" "[I", .fieldLink RX12 332 "LowEnergyModel" "mtu" "[I", .methodLink RX12 567 yX12_isHandle, .instanceMethod yX12_isHandle, .selects RX12 yX12_isHandle yX12_isHandle, .code yX12_isHandle cX12_isHandle 3 (some .boolean), .fieldLink RX12 320 "LowEnergyModel" "attributes" "[I", .fieldLink RX12 329 "LowEnergyModel" "length" "[I", .methodLink RX12 547 yX12_row, .instanceMethod yX12_row, .selects RX12 yX12_row yX12_row, .code yX12_row cX12_row 3 (some .int), .methodLink RX12 404 Lib.Math.min.name, .static Lib.Math.min.name, .initialized "java/lang/Math", .code Lib.Math.min.name Lib.Math.min.code 2 (some .int), .fieldLink RX12 290 "LowEnergyModel" "said" "[B", .methodLink RX12 432 yX12_number, .static yX12_number, .code yX12_number cX12_number 6 none, .fieldLink RX12 341 "LowEnergyModel" "values" "[B", .methodLink RX12 29 yX12_copy, .static yX12_copy, .code yX12_copy cX12_copy 6 none, .methodLink RX12 527 yX12_says, .instanceMethod yX12_says, .selects RX12 yX12_says yX12_says, .code yX12_says cX12_says 5 none, .fieldLink RX12 266 "LowEnergyModel" "message" "[B", .fieldLink RX12 272 "LowEnergyModel" "messageMany" "[I", .fieldLink RX12 362 "LowEnergyModel" "waits30" "[Z", .fieldLink RX12 7 "LowEnergyModel" "taped" "I", .fieldLink RX12 10 "LowEnergyModel" "tape" "[B"] : List Cond) ++ (wsX120 ++ ([])))
theorem hi_M_send_X12 : ∀ x ∈ u_ws RX12 TX12 123, x ∈ wp_M_send := fun _ h => List.mem_cons_of_mem _ (List.mem_append_right _ (List.mem_append_left _ h))
set_option maxRecDepth 100000 in
theorem gd_M_send_M_in_413 : GoodIn wp_M_send (va_wsS RX12 413 yX12_in wp_M_in) := goodIn_app (goodIn_r _ [2, 3, 4] rfl rfl) (goodIn_ca (goodIn_r _ [5] rfl rfl) (goodIn_nil))
set_option maxRecDepth 100000 in
theorem gd_M_send_M_isLinked_662 : GoodIn wp_M_send (wsV RX12 662 RX12 yX12_isLinked wp_M_isLinked) := goodIn_app (goodIn_r _ [6, 7, 8, 4] rfl rfl) (goodIn_ca (goodIn_r _ [9, 10] rfl rfl) (goodIn_app (goodIn_cls hi_M_send_X12 gw_X12) (goodIn_nil)))
set_option maxRecDepth 100000 in
theorem gd_M_send_M_isHandle_567 : GoodIn wp_M_send (wsV RX12 567 RX12 yX12_isHandle wp_M_isHandle) := goodIn_app (goodIn_r _ [14, 15, 16, 4] rfl rfl) (goodIn_ca (goodIn_r _ [17, 18] rfl rfl) (goodIn_app (goodIn_cls hi_M_send_X12 gw_X12) (goodIn_nil)))
set_option maxRecDepth 100000 in
theorem gd_M_send_M_row_547 : GoodIn wp_M_send (wsV RX12 547 RX12 yX12_row wp_M_row) := goodIn_app (goodIn_r _ [20, 21, 22, 4] rfl rfl) (goodIn_ca (goodIn_r _ [23] rfl rfl) (goodIn_nil))
set_option maxRecDepth 100000 in
theorem gd_M_send_M_numberP_432 : GoodIn wp_M_send (va_wsS RX12 432 yX12_number wp_M_numberP) := goodIn_app (goodIn_r _ [29, 30, 4] rfl rfl) (goodIn_ca (goodIn_r _ [31] rfl rfl) (goodIn_nil))
set_option maxRecDepth 100000 in
theorem gd_M_send_M_copy_29 : GoodIn wp_M_send (va_wsS RX12 29 yX12_copy wp_M_copy) := goodIn_app (goodIn_r _ [33, 34, 4] rfl rfl) (goodIn_ca (goodIn_r _ [35] rfl rfl) (goodIn_nil))
set_option maxRecDepth 100000 in
theorem gd_M_send_M_says_527 : GoodIn wp_M_send (wsV RX12 527 RX12 yX12_says wp_M_says) := goodIn_app (goodIn_r _ [36, 37, 38, 4] rfl rfl) (goodIn_ca (goodIn_r _ [39, 12, 40, 29, 30, 4, 31, 28, 33, 34, 35, 41] rfl rfl) (goodIn_app (goodIn_cls hi_M_send_X12 gw_X12) (goodIn_nil)))
set_option maxHeartbeats 4000000 in
set_option maxRecDepth 100000 in
theorem b_M_send {p : Program} {l : Launch} {e : Env} {R : Room} {s : State} {m : MethodId} {args : Array Value} {below : List Frame} {meth : Method} {c : Code} {D : va_G} {K : Nat → ClassId} {A : Nat → Prop} {Q : State → Prop} {τ : Nat → Option Ty} {dom : List Nat} {zb zL : Nat} {zx : Nat → Int32} {zs : Nat → Nat} (hR : 2 ≤ R.frames ∧ 49 ≤ R.locals) (B : Bx p s m args c cX12_send 6 RX12 wp_M_send D (tysA K) A) (Z : Sk τ dom) (hz : ZL zb zL zx zs A s s.heap) (h : Nat) (q : Nat → Nat) (Y : MS τ h q) (x1 : Int) (x2 : Int) (x3 : Int) (r_x1 : -2147483648 ≤ x1 ∧ x1 ≤ 2147483647) (r_x2 : -2147483648 ≤ x2 ∧ x2 ≤ 2147483647) (r_x3 : -2147483648 ≤ x3 ∧ x3 ≤ 2147483647) (σ0 : Nat → va_E) (G0 : GM K h q σ0) (hend : ∀ (σ' : Nat → va_E) (z : Int) (lv : List (Nat × Value)) (pc : Nat), GM K h q σ' → Fr τ [(50, 0), (190, 0), (182, 0), (184, 0), (185, 0), (214, 0)] σ0 σ' → (0 ≤ z ∧ z ≤ 1) → decode cX12_send pc = .ok (.ireturn, 1) → V p l e R s m args below meth c 6 D A Q (0, 0) (fd dom σ') lv pc [.int (iI z)]) : V p l e R s m args below meth c 6 D A Q (0, 0) (fd dom σ0) [(0, .ref h), (1, .int (iI x1)), (2, .int (iI x2)), (3, .int (iI x3))] 0 [] := by
  have F0 : Fr τ [(50, 0), (190, 0), (182, 0), (184, 0), (185, 0), (214, 0)] σ0 σ0 := Fr.rf
  obtain ⟨z1, z2, z3, z4, z5, h6, r7, r8, r9, r10, r11⟩ := G0.t.o
  refine v_aload_n B dX12_send_0 rfl rfl ?_
  refine v_iconst B (v := iI 0) dX12_send_1 rfl ?_
  refine u_put B Z (C := RX12) (T := TX12) (N := 123) (ci := 12) hi_M_send_X12 Y.o h6 rfl 0 (by decide +kernel) tyX12 tyX12_ok nmX12 (List.mem_of_getElem? (i := 1) rfl) rfl (ty := .int) (tyX12_ok 0 (by decide +kernel)) rfl rfl (Nat.le_of_ble_eq_true rfl) (fs' := fsM q (iI 0) (iI z2) (iI z3) (iI z4) (iI z5)) rfl dX12_send_2 (fun σ12 h13 n14 => ?_)
  have F15 := F0.put Y.o (by simp) n14
  have G16 := G0.putO Y ⟨0, z2, z3, z4, z5, h13, ⟨by omega, by omega⟩, ⟨by omega, by omega⟩, ⟨by omega, by omega⟩, ⟨by omega, by omega⟩, ⟨by omega, by omega⟩⟩ n14
  refine v_iload_n B dX12_send_5 rfl rfl ?_
  refine v_iconst B (v := iI 2) dX12_send_6 rfl ?_
  refine u_callSi B Z hz (n := 2) (As := [.int (iI x1), .int (iI 2)]) (rest := []) (c_M_in l D K Z _ _ _ _ h q Y x1 2 ⟨by omega, by omega⟩ ⟨by omega, by omega⟩ σ12 (G16.t)) gd_M_send_M_in_413 rfl rfl rfl (by decide +kernel) ⟨Nat.le_trans (by decide +kernel) hR.1, Nat.le_trans (by decide +kernel) hR.2⟩ rfl rfl (Nat.le_of_ble_eq_true rfl) dX12_send_7 ⟨Nat.zero_le _, Nat.zero_le _⟩ (fun v19 σ17 p18 => ?_)
  obtain ⟨rfl, z20, e21, r22, po23⟩ := p18
  subst e21
  refine u_if_eq B (tgt := 50) (by omega) dX12_send_10 (by decide +kernel) (fun c24 => ?_) (fun c24 => ?_)
  · refine v_iconst B (v := iI 0) dX12_send_50 rfl ?_
    exact hend σ12 0 _ _ G16 F15 ⟨by omega, by omega⟩ dX12_send_51
  · refine v_aload_n B dX12_send_13 rfl rfl ?_
    refine v_iload_n B dX12_send_14 rfl rfl ?_
    refine u_callVi B Z hz (n := 1) (As := [.int (iI x1)]) (rest := []) (c_M_isLinked l D K Z _ _ _ _ h q Y x1 ⟨by omega, by omega⟩ σ12 (G16.t)) gd_M_send_M_isLinked_662 rfl rfl rfl (by decide +kernel) ⟨Nat.le_trans (by decide +kernel) hR.1, Nat.le_trans (by decide +kernel) hR.2⟩ Y.o (clsM G16.t) rfl rfl rfl rfl (Nat.le_of_ble_eq_true rfl) dX12_send_15 ⟨Nat.zero_le _, Nat.zero_le _⟩ (fun v27 σ25 p26 => ?_)
    obtain ⟨rfl, z28, e29, r30, po31⟩ := p26
    subst e29
    obtain ⟨f32, h33, e34⟩ := ga_7 G16.t
    obtain ⟨z35, e36, r37⟩ := e34 (x1 : Int).toNat
    have r38 : z28 = 1 → 4 ≤ z35 := fun q => ((po31 q).use h33 e36 (by omega)).1
    refine u_if_eq B (tgt := 50) (by omega) dX12_send_18 (by decide +kernel) (fun c39 => ?_) (fun c39 => ?_)
    · refine v_iconst B (v := iI 0) dX12_send_50 rfl ?_
      exact hend σ12 0 _ _ G16 F15 ⟨by omega, by omega⟩ dX12_send_51
    · refine v_iload_n B dX12_send_21 rfl rfl ?_
      refine v_iconst B (v := iI 3) dX12_send_22 rfl ?_
      refine u_callSi B Z hz (n := 2) (As := [.int (iI x2), .int (iI 3)]) (rest := []) (c_M_in l D K Z _ _ _ _ h q Y x2 3 ⟨by omega, by omega⟩ ⟨by omega, by omega⟩ σ12 (G16.t)) gd_M_send_M_in_413 rfl rfl rfl (by decide +kernel) ⟨Nat.le_trans (by decide +kernel) hR.1, Nat.le_trans (by decide +kernel) hR.2⟩ rfl rfl (Nat.le_of_ble_eq_true rfl) dX12_send_23 ⟨Nat.zero_le _, Nat.zero_le _⟩ (fun v42 σ40 p41 => ?_)
      obtain ⟨rfl, z43, e44, r45, po46⟩ := p41
      subst e44
      refine u_if_eq B (tgt := 50) (by omega) dX12_send_26 (by decide +kernel) (fun c47 => ?_) (fun c47 => ?_)
      · refine v_iconst B (v := iI 0) dX12_send_50 rfl ?_
        exact hend σ12 0 _ _ G16 F15 ⟨by omega, by omega⟩ dX12_send_51
      · refine v_iload_n B dX12_send_29 rfl rfl ?_
        refine v_ldcw B (v := iI 65536) (u_ci (List.mem_of_getElem? (i := 11) rfl) (by decide +kernel)) dX12_send_30 ?_
        refine u_callSi B Z hz (n := 2) (As := [.int (iI x3), .int (iI 65536)]) (rest := []) (c_M_in l D K Z _ _ _ _ h q Y x3 65536 ⟨by omega, by omega⟩ ⟨by omega, by omega⟩ σ12 (G16.t)) gd_M_send_M_in_413 rfl rfl rfl (by decide +kernel) ⟨Nat.le_trans (by decide +kernel) hR.1, Nat.le_trans (by decide +kernel) hR.2⟩ rfl rfl (Nat.le_of_ble_eq_true rfl) dX12_send_33 ⟨Nat.zero_le _, Nat.zero_le _⟩ (fun v50 σ48 p49 => ?_)
        obtain ⟨rfl, z51, e52, r53, po54⟩ := p49
        subst e52
        refine u_if_eq B (tgt := 50) (by omega) dX12_send_36 (by decide +kernel) (fun c55 => ?_) (fun c55 => ?_)
        · refine v_iconst B (v := iI 0) dX12_send_50 rfl ?_
          exact hend σ12 0 _ _ G16 F15 ⟨by omega, by omega⟩ dX12_send_51
        · refine v_aload_n B dX12_send_39 rfl rfl ?_
          refine u_get B Z (C := RX12) (T := TX12) (N := 123) (ci := 12) hi_M_send_X12 Y.o h13 rfl 85 (by decide +kernel) (List.mem_of_getElem? (i := 12) rfl) rfl dX12_send_40 ?_
          refine v_iload_n B dX12_send_43 rfl rfl ?_
          obtain ⟨f56, h57, e58⟩ := ga_85 G16.t
          obtain ⟨z59, e60, r61⟩ := e58 (x1 : Int).toNat
          refine u_iald B Z (t0 := 0) (ym_85 Y) h57 rfl (by omega) e60 dX12_send_44 ?_
          refine v_bipush B (v := iI 8) dX12_send_45 (by decide +kernel) ?_
          refine u_icmp_ne B (tgt := 52) (by omega) (by omega) dX12_send_47 (by decide +kernel) (fun c62 => ?_) (fun c62 => ?_)
          · refine v_aload_n B dX12_send_52 rfl rfl ?_
            refine u_get B Z (C := RX12) (T := TX12) (N := 123) (ci := 12) hi_M_send_X12 Y.o h13 rfl 104 (by decide +kernel) (List.mem_of_getElem? (i := 13) rfl) rfl dX12_send_53 ?_
            refine v_iload_n B dX12_send_56 rfl rfl ?_
            obtain ⟨f63, h64, e65⟩ := ga_104 G16.t
            obtain ⟨z66, e67, r68⟩ := e65 (x1 : Int).toNat
            refine u_iald B Z (t0 := 0) (ym_104 Y) h64 rfl (by omega) e67 dX12_send_57 ?_
            refine v_iconst B (v := iI 3) dX12_send_58 rfl ?_
            refine v_isub B (v := iI (z66 + (-3))) dX12_send_59 ((iI_sub _ _).trans (congrArg iI (by omega))) ?_
            refine v_istore B (lv' := [(4, .int (iI (z66 + (-3)))), (0, .ref h), (1, .int (iI x1)), (2, .int (iI x2)), (3, .int (iI x3))]) dX12_send_60 (by decide +kernel) rfl ?_
            refine v_iload_n B dX12_send_62 rfl rfl ?_
            refine u_if_ne B (tgt := 75) (by omega) dX12_send_63 (by decide +kernel) (fun c69 => ?_) (fun c69 => ?_)
            · refine v_iload_n B dX12_send_75 rfl rfl ?_
              refine u_if_le B (tgt := 88) (by omega) dX12_send_76 (by decide +kernel) (fun c70 => by omega) (fun c70 => ?_)
              refine v_aload_n B dX12_send_79 rfl rfl ?_
              refine v_iload_n B dX12_send_80 rfl rfl ?_
              refine v_iload_n B dX12_send_81 rfl rfl ?_
              refine u_callVi B Z hz (n := 2) (As := [.int (iI x1), .int (iI x3)]) (rest := []) (c_M_isHandle l D K Z _ _ _ _ h q Y x1 x3 ⟨by omega, by omega⟩ ⟨by omega, by omega⟩ σ12 (G16.t)) gd_M_send_M_isHandle_567 rfl rfl rfl (by decide +kernel) ⟨Nat.le_trans (by decide +kernel) hR.1, Nat.le_trans (by decide +kernel) hR.2⟩ Y.o (clsM G16.t) rfl rfl rfl rfl (Nat.le_of_ble_eq_true rfl) dX12_send_82 ⟨Nat.zero_le _, Nat.zero_le _⟩ (fun v73 σ71 p72 => ?_)
              obtain ⟨rfl, z74, e75, r76, po77⟩ := p72
              subst e75
              refine u_if_eq B (tgt := 102) (by omega) dX12_send_85 (by decide +kernel) (fun c78 => ?_) (fun c78 => ?_)
              · refine v_iconst B (v := iI 0) dX12_send_102 rfl ?_
                exact hend σ12 0 _ _ G16 F15 ⟨by omega, by omega⟩ dX12_send_103
              · refine v_iload_n B dX12_send_88 rfl rfl ?_
                refine v_iconst B (v := iI 2) dX12_send_89 rfl ?_
                refine u_icmp_ne B (tgt := 104) (by omega) (by omega) dX12_send_90 (by decide +kernel) (fun c79 => ?_) (fun c79 => ?_)
                · refine v_iload_n B dX12_send_104 rfl rfl ?_
                  refine u_if_ne B (tgt := 115) (by omega) dX12_send_105 (by decide +kernel) (fun c80 => ?_) (fun c80 => by omega)
                  refine v_iload B dX12_send_115 rfl ?_
                  refine v_aload_n B dX12_send_117 rfl rfl ?_
                  refine u_get B Z (C := RX12) (T := TX12) (N := 123) (ci := 12) hi_M_send_X12 Y.o h13 rfl 103 (by decide +kernel) (List.mem_of_getElem? (i := 19) rfl) rfl dX12_send_118 ?_
                  refine v_aload_n B dX12_send_121 rfl rfl ?_
                  refine v_iload_n B dX12_send_122 rfl rfl ?_
                  refine v_iload_n B dX12_send_123 rfl rfl ?_
                  refine u_callVi B Z hz (n := 2) (As := [.int (iI x1), .int (iI x3)]) (rest := [.ref (q 103), .int (iI (z66 + (-3)))]) (c_M_row l D K Z _ _ _ _ h q Y x1 x3 ⟨by omega, by omega⟩ ⟨by omega, by omega⟩ σ12 (G16.t)) gd_M_send_M_row_547 rfl rfl rfl (by decide +kernel) ⟨Nat.le_trans (by decide +kernel) hR.1, Nat.le_trans (by decide +kernel) hR.2⟩ Y.o (clsM G16.t) rfl rfl rfl rfl (Nat.le_of_ble_eq_true rfl) dX12_send_124 ⟨Nat.zero_le _, Nat.zero_le _⟩ (fun v83 σ81 p82 => ?_)
                  obtain ⟨rfl, z84, e85, r86, po87⟩ := p82
                  subst e85
                  subst po87
                  show V _ _ _ _ _ _ _ _ _ _ _ _ _ _ _ _ _ _ [.int (iI (20 * x1 + x3 + (-1))), .ref (q 103), .int (iI (z66 + (-3)))]
                  obtain ⟨f88, h89, e90⟩ := ga_103 G16.t
                  obtain ⟨z91, e92, r93⟩ := e90 ((20 * x1 + x3 + (-1)) : Int).toNat
                  refine u_iald B Z (t0 := 0) (ym_103 Y) h89 rfl (by omega) e92 dX12_send_127 ?_
                  obtain ⟨z94, e95, r96⟩ := iI_min (a := (z66 + (-3))) (b := z91) (by omega) (by omega)
                  refine v_mmin B (v := iI z94) (List.mem_of_getElem? (i := 24) rfl) (List.mem_of_getElem? (i := 25) rfl) (List.mem_of_getElem? (i := 26) rfl) (List.mem_of_getElem? (i := 27) rfl) (Nat.le_trans (by decide +kernel) hR.1) (Nat.le_trans (Nat.le_of_ble_eq_true rfl) hR.2) (Nat.zero_le _) (Nat.zero_le _) e95 dX12_send_128 ?_
                  refine v_istore B (lv' := [(5, .int (iI z94)), (4, .int (iI (z66 + (-3)))), (0, .ref h), (1, .int (iI x1)), (2, .int (iI x2)), (3, .int (iI x3))]) dX12_send_131 (by decide +kernel) rfl ?_
                  refine v_aload_n B dX12_send_133 rfl rfl ?_
                  refine u_get B Z (C := RX12) (T := TX12) (N := 123) (ci := 12) hi_M_send_X12 Y.o h13 rfl 90 (by decide +kernel) (List.mem_of_getElem? (i := 28) rfl) rfl dX12_send_134 ?_
                  refine v_iconst B (v := iI 0) dX12_send_137 rfl ?_
                  refine v_iload_n B dX12_send_138 rfl rfl ?_
                  refine u_if_ne B (tgt := 147) (by omega) dX12_send_139 (by decide +kernel) (fun c97 => ?_) (fun c97 => by omega)
                  refine v_iload_n B dX12_send_147 rfl rfl ?_
                  refine v_iconst B (v := iI 1) dX12_send_148 rfl ?_
                  refine u_icmp_ne B (tgt := 157) (by omega) (by omega) dX12_send_149 (by decide +kernel) (fun c98 => by omega) (fun c98 => ?_)
                  refine v_bipush B (v := iI 27) dX12_send_152 (by decide +kernel) ?_
                  refine v_goto B (tgt := 159) dX12_send_154 (by decide +kernel) ?_
                  obtain ⟨z99, e100, r101⟩ := iI_i8 27
                  refine v_i2b B (v := iI z99) dX12_send_159 e100 ?_
                  obtain ⟨f102, h103, e104⟩ := ga_90 G16.t
                  refine u_bast B Z (t0 := 2) (x := iI z99) (y := iI z99) (ym_90 Y) h103 rfl (by omega) (nar8 (by omega)) dX12_send_160 (fun σ105 h106 n107 => ?_)
                  have F108 := F15.put (ym_90 Y) (by simp) n107
                  have G109 := gp_90 Y G16 ⟨_, h106, el_upd (z := z99) e104 ⟨by omega, by omega⟩ _⟩ n107
                  refine v_aload_n B dX12_send_161 rfl rfl ?_
                  have h110 := (n107 h (ne_ty Y.o (ym_90 Y) (by decide))).trans (h13)
                  refine u_get B Z (C := RX12) (T := TX12) (N := 123) (ci := 12) hi_M_send_X12 Y.o h110 rfl 90 (by decide +kernel) (List.mem_of_getElem? (i := 28) rfl) rfl dX12_send_162 ?_
                  refine v_iconst B (v := iI 1) dX12_send_165 rfl ?_
                  refine v_iload_n B dX12_send_166 rfl rfl ?_
                  refine v_i2l B (v := lI x3) dX12_send_167 (lI_i (by omega)) ?_
                  refine v_iconst B (v := iI 2) dX12_send_168 rfl ?_
                  refine u_callSv B Z hz (n := 4) (As := [.ref (q 90), .int (iI 1), .long (lI x3), .int (iI 2)]) (rest := []) (c_M_numberP l D K Z _ _ _ _ h q Y 90 96 1 x3 2 rfl ⟨by omega, by omega⟩ ⟨by omega, by omega⟩ ⟨by omega, by omega⟩ σ105 G109 (by omega)) gd_M_send_M_numberP_432 rfl rfl rfl (by decide +kernel) ⟨Nat.le_trans (by decide +kernel) hR.1, Nat.le_trans (by decide +kernel) hR.2⟩ rfl rfl (Nat.le_of_ble_eq_true rfl) dX12_send_169 ⟨Nat.zero_le _, Nat.zero_le _⟩ (fun σ111 p112 => ?_)
                  obtain ⟨G114, F115⟩ := p112
                  have F116 := F108.call F115 (by first | rfl | simp)
                  refine v_iload_n B dX12_send_172 rfl rfl ?_
                  refine u_if_ne B (tgt := 194) (by omega) dX12_send_173 (by decide +kernel) (fun c117 => ?_) (fun c117 => by omega)
                  refine v_aload_n B dX12_send_194 rfl rfl ?_
                  have h118 := (F115 h _ Y.o (by first | rfl | simp)).trans (h110)
                  refine u_get B Z (C := RX12) (T := TX12) (N := 123) (ci := 12) hi_M_send_X12 Y.o h118 rfl 107 (by decide +kernel) (List.mem_of_getElem? (i := 32) rfl) rfl dX12_send_195 ?_
                  refine v_bipush B (v := iI 40) dX12_send_198 (by decide +kernel) ?_
                  refine v_aload_n B dX12_send_200 rfl rfl ?_
                  refine v_iload_n B dX12_send_201 rfl rfl ?_
                  refine v_iload_n B dX12_send_202 rfl rfl ?_
                  refine u_callVi B Z hz (n := 2) (As := [.int (iI x1), .int (iI x3)]) (rest := [.int (iI 40), .ref (q 107)]) (c_M_row l D K Z _ _ _ _ h q Y x1 x3 ⟨by omega, by omega⟩ ⟨by omega, by omega⟩ σ111 (G114.t)) gd_M_send_M_row_547 rfl rfl rfl (by decide +kernel) ⟨Nat.le_trans (by decide +kernel) hR.1, Nat.le_trans (by decide +kernel) hR.2⟩ Y.o (clsM G114.t) rfl rfl rfl rfl (Nat.le_of_ble_eq_true rfl) dX12_send_203 ⟨Nat.zero_le _, Nat.zero_le _⟩ (fun v121 σ119 p120 => ?_)
                  obtain ⟨rfl, z122, e123, r124, po125⟩ := p120
                  subst e123
                  subst po125
                  show V _ _ _ _ _ _ _ _ _ _ _ _ _ _ _ _ _ _ [.int (iI (20 * x1 + x3 + (-1))), .int (iI 40), .ref (q 107)]
                  refine v_imul B (v := iI (800 * x1 + 40 * x3 + (-40))) dX12_send_206 ((iI_mul _ _).trans (congrArg iI (by omega))) ?_
                  refine v_aload_n B dX12_send_207 rfl rfl ?_
                  refine u_get B Z (C := RX12) (T := TX12) (N := 123) (ci := 12) hi_M_send_X12 Y.o h118 rfl 90 (by decide +kernel) (List.mem_of_getElem? (i := 28) rfl) rfl dX12_send_208 ?_
                  refine v_iconst B (v := iI 3) dX12_send_211 rfl ?_
                  refine v_iload B dX12_send_212 rfl ?_
                  refine u_callSv B Z hz (n := 5) (As := [.ref (q 107), .int (iI (800 * x1 + 40 * x3 + (-40))), .ref (q 90), .int (iI 3), .int (iI z94)]) (rest := []) (c_M_copy l D K Z _ _ _ _ h q Y 107 1600 (800 * x1 + 40 * x3 + (-40)) 90 96 3 z94 rfl ⟨by omega, by omega⟩ rfl ⟨by omega, by omega⟩ ⟨by omega, by omega⟩ σ111 G114 (by omega)) gd_M_send_M_copy_29 rfl rfl rfl (by decide +kernel) ⟨Nat.le_trans (by decide +kernel) hR.1, Nat.le_trans (by decide +kernel) hR.2⟩ rfl rfl (Nat.le_of_ble_eq_true rfl) dX12_send_214 ⟨Nat.zero_le _, Nat.zero_le _⟩ (fun σ126 p127 => ?_)
                  obtain ⟨G129, F130⟩ := p127
                  have F131 := F116.call F130 (by first | rfl | simp)
                  refine v_aload_n B dX12_send_217 rfl rfl ?_
                  refine v_iload_n B dX12_send_218 rfl rfl ?_
                  refine v_iconst B (v := iI 4) dX12_send_219 rfl ?_
                  refine v_iconst B (v := iI 3) dX12_send_220 rfl ?_
                  refine v_iload B dX12_send_221 rfl ?_
                  refine v_iadd B (v := iI (z94 + 3)) dX12_send_223 ((iI_add _ _).trans (congrArg iI (by omega))) ?_
                  have h132 := (F130 (q 85) _ (ym_85 Y) (by first | rfl | simp)).trans ((F115 (q 85) _ (ym_85 Y) (by first | rfl | simp)).trans ((n107 (q 85) (ne_ty (ym_85 Y) (ym_90 Y) (by decide))).trans (h57)))
                  refine u_callVv B Z hz (n := 3) (As := [.int (iI x1), .int (iI 4), .int (iI (z94 + 3))]) (rest := []) (c_M_says l D K Z _ _ _ _ h q Y x1 4 (z94 + 3) ⟨by omega, by omega⟩ ⟨by omega, by omega⟩ ⟨by omega, by omega⟩ σ126 G129 (At.mk h132 e60 (by omega) ⟨by omega, by omega⟩) (by omega)) gd_M_send_M_says_527 rfl rfl rfl (by decide +kernel) ⟨Nat.le_trans (by decide +kernel) hR.1, Nat.le_trans (by decide +kernel) hR.2⟩ Y.o (clsM G129.t) rfl rfl rfl rfl (Nat.le_of_ble_eq_true rfl) dX12_send_224 ⟨Nat.zero_le _, Nat.zero_le _⟩ (fun σ133 p134 => ?_)
                  obtain ⟨G136, F137⟩ := p134
                  have F138 := F131.call F137 (by first | rfl | simp)
                  refine v_iload_n B dX12_send_227 rfl rfl ?_
                  refine u_if_ne B (tgt := 236) (by omega) dX12_send_228 (by decide +kernel) (fun c139 => ?_) (fun c139 => by omega)
                  refine v_iload_n B dX12_send_236 rfl rfl ?_
                  refine v_iconst B (v := iI 2) dX12_send_237 rfl ?_
                  refine u_icmp_ne B (tgt := 248) (by omega) (by omega) dX12_send_238 (by decide +kernel) (fun c140 => ?_) (fun c140 => by omega)
                  refine v_iconst B (v := iI 1) dX12_send_248 rfl ?_
                  exact hend σ133 1 _ _ G136 F138 ⟨by omega, by omega⟩ dX12_send_249
                · refine v_aload_n B dX12_send_93 rfl rfl ?_
                  refine u_get B Z (C := RX12) (T := TX12) (N := 123) (ci := 12) hi_M_send_X12 Y.o h13 rfl 114 (by decide +kernel) (List.mem_of_getElem? (i := 42) rfl) rfl dX12_send_94 ?_
                  refine v_iload_n B dX12_send_97 rfl rfl ?_
                  obtain ⟨f141, h142, e143⟩ := ga_114 G16.t
                  obtain ⟨z144, e145, r146⟩ := e143 (x1 : Int).toNat
                  refine u_zald B Z (t0 := 3) (ym_114 Y) h142 rfl (by omega) e145 dX12_send_98 ?_
                  refine u_if_eq B (tgt := 104) (by omega) dX12_send_99 (by decide +kernel) (fun c147 => ?_) (fun c147 => ?_)
                  · refine v_iload_n B dX12_send_104 rfl rfl ?_
                    refine u_if_ne B (tgt := 115) (by omega) dX12_send_105 (by decide +kernel) (fun c148 => ?_) (fun c148 => by omega)
                    refine v_iload B dX12_send_115 rfl ?_
                    refine v_aload_n B dX12_send_117 rfl rfl ?_
                    refine u_get B Z (C := RX12) (T := TX12) (N := 123) (ci := 12) hi_M_send_X12 Y.o h13 rfl 103 (by decide +kernel) (List.mem_of_getElem? (i := 19) rfl) rfl dX12_send_118 ?_
                    refine v_aload_n B dX12_send_121 rfl rfl ?_
                    refine v_iload_n B dX12_send_122 rfl rfl ?_
                    refine v_iload_n B dX12_send_123 rfl rfl ?_
                    refine u_callVi B Z hz (n := 2) (As := [.int (iI x1), .int (iI x3)]) (rest := [.ref (q 103), .int (iI (z66 + (-3)))]) (c_M_row l D K Z _ _ _ _ h q Y x1 x3 ⟨by omega, by omega⟩ ⟨by omega, by omega⟩ σ12 (G16.t)) gd_M_send_M_row_547 rfl rfl rfl (by decide +kernel) ⟨Nat.le_trans (by decide +kernel) hR.1, Nat.le_trans (by decide +kernel) hR.2⟩ Y.o (clsM G16.t) rfl rfl rfl rfl (Nat.le_of_ble_eq_true rfl) dX12_send_124 ⟨Nat.zero_le _, Nat.zero_le _⟩ (fun v151 σ149 p150 => ?_)
                    obtain ⟨rfl, z152, e153, r154, po155⟩ := p150
                    subst e153
                    subst po155
                    show V _ _ _ _ _ _ _ _ _ _ _ _ _ _ _ _ _ _ [.int (iI (20 * x1 + x3 + (-1))), .ref (q 103), .int (iI (z66 + (-3)))]
                    obtain ⟨f156, h157, e158⟩ := ga_103 G16.t
                    obtain ⟨z159, e160, r161⟩ := e158 ((20 * x1 + x3 + (-1)) : Int).toNat
                    refine u_iald B Z (t0 := 0) (ym_103 Y) h157 rfl (by omega) e160 dX12_send_127 ?_
                    obtain ⟨z162, e163, r164⟩ := iI_min (a := (z66 + (-3))) (b := z159) (by omega) (by omega)
                    refine v_mmin B (v := iI z162) (List.mem_of_getElem? (i := 24) rfl) (List.mem_of_getElem? (i := 25) rfl) (List.mem_of_getElem? (i := 26) rfl) (List.mem_of_getElem? (i := 27) rfl) (Nat.le_trans (by decide +kernel) hR.1) (Nat.le_trans (Nat.le_of_ble_eq_true rfl) hR.2) (Nat.zero_le _) (Nat.zero_le _) e163 dX12_send_128 ?_
                    refine v_istore B (lv' := [(5, .int (iI z162)), (4, .int (iI (z66 + (-3)))), (0, .ref h), (1, .int (iI x1)), (2, .int (iI x2)), (3, .int (iI x3))]) dX12_send_131 (by decide +kernel) rfl ?_
                    refine v_aload_n B dX12_send_133 rfl rfl ?_
                    refine u_get B Z (C := RX12) (T := TX12) (N := 123) (ci := 12) hi_M_send_X12 Y.o h13 rfl 90 (by decide +kernel) (List.mem_of_getElem? (i := 28) rfl) rfl dX12_send_134 ?_
                    refine v_iconst B (v := iI 0) dX12_send_137 rfl ?_
                    refine v_iload_n B dX12_send_138 rfl rfl ?_
                    refine u_if_ne B (tgt := 147) (by omega) dX12_send_139 (by decide +kernel) (fun c165 => ?_) (fun c165 => by omega)
                    refine v_iload_n B dX12_send_147 rfl rfl ?_
                    refine v_iconst B (v := iI 1) dX12_send_148 rfl ?_
                    refine u_icmp_ne B (tgt := 157) (by omega) (by omega) dX12_send_149 (by decide +kernel) (fun c166 => ?_) (fun c166 => by omega)
                    refine v_bipush B (v := iI 29) dX12_send_157 (by decide +kernel) ?_
                    obtain ⟨z167, e168, r169⟩ := iI_i8 29
                    refine v_i2b B (v := iI z167) dX12_send_159 e168 ?_
                    obtain ⟨f170, h171, e172⟩ := ga_90 G16.t
                    refine u_bast B Z (t0 := 2) (x := iI z167) (y := iI z167) (ym_90 Y) h171 rfl (by omega) (nar8 (by omega)) dX12_send_160 (fun σ173 h174 n175 => ?_)
                    have F176 := F15.put (ym_90 Y) (by simp) n175
                    have G177 := gp_90 Y G16 ⟨_, h174, el_upd (z := z167) e172 ⟨by omega, by omega⟩ _⟩ n175
                    refine v_aload_n B dX12_send_161 rfl rfl ?_
                    have h178 := (n175 h (ne_ty Y.o (ym_90 Y) (by decide))).trans (h13)
                    refine u_get B Z (C := RX12) (T := TX12) (N := 123) (ci := 12) hi_M_send_X12 Y.o h178 rfl 90 (by decide +kernel) (List.mem_of_getElem? (i := 28) rfl) rfl dX12_send_162 ?_
                    refine v_iconst B (v := iI 1) dX12_send_165 rfl ?_
                    refine v_iload_n B dX12_send_166 rfl rfl ?_
                    refine v_i2l B (v := lI x3) dX12_send_167 (lI_i (by omega)) ?_
                    refine v_iconst B (v := iI 2) dX12_send_168 rfl ?_
                    refine u_callSv B Z hz (n := 4) (As := [.ref (q 90), .int (iI 1), .long (lI x3), .int (iI 2)]) (rest := []) (c_M_numberP l D K Z _ _ _ _ h q Y 90 96 1 x3 2 rfl ⟨by omega, by omega⟩ ⟨by omega, by omega⟩ ⟨by omega, by omega⟩ σ173 G177 (by omega)) gd_M_send_M_numberP_432 rfl rfl rfl (by decide +kernel) ⟨Nat.le_trans (by decide +kernel) hR.1, Nat.le_trans (by decide +kernel) hR.2⟩ rfl rfl (Nat.le_of_ble_eq_true rfl) dX12_send_169 ⟨Nat.zero_le _, Nat.zero_le _⟩ (fun σ179 p180 => ?_)
                    obtain ⟨G182, F183⟩ := p180
                    have F184 := F176.call F183 (by first | rfl | simp)
                    refine v_iload_n B dX12_send_172 rfl rfl ?_
                    refine u_if_ne B (tgt := 194) (by omega) dX12_send_173 (by decide +kernel) (fun c185 => ?_) (fun c185 => by omega)
                    refine v_aload_n B dX12_send_194 rfl rfl ?_
                    have h186 := (F183 h _ Y.o (by first | rfl | simp)).trans (h178)
                    refine u_get B Z (C := RX12) (T := TX12) (N := 123) (ci := 12) hi_M_send_X12 Y.o h186 rfl 107 (by decide +kernel) (List.mem_of_getElem? (i := 32) rfl) rfl dX12_send_195 ?_
                    refine v_bipush B (v := iI 40) dX12_send_198 (by decide +kernel) ?_
                    refine v_aload_n B dX12_send_200 rfl rfl ?_
                    refine v_iload_n B dX12_send_201 rfl rfl ?_
                    refine v_iload_n B dX12_send_202 rfl rfl ?_
                    refine u_callVi B Z hz (n := 2) (As := [.int (iI x1), .int (iI x3)]) (rest := [.int (iI 40), .ref (q 107)]) (c_M_row l D K Z _ _ _ _ h q Y x1 x3 ⟨by omega, by omega⟩ ⟨by omega, by omega⟩ σ179 (G182.t)) gd_M_send_M_row_547 rfl rfl rfl (by decide +kernel) ⟨Nat.le_trans (by decide +kernel) hR.1, Nat.le_trans (by decide +kernel) hR.2⟩ Y.o (clsM G182.t) rfl rfl rfl rfl (Nat.le_of_ble_eq_true rfl) dX12_send_203 ⟨Nat.zero_le _, Nat.zero_le _⟩ (fun v189 σ187 p188 => ?_)
                    obtain ⟨rfl, z190, e191, r192, po193⟩ := p188
                    subst e191
                    subst po193
                    show V _ _ _ _ _ _ _ _ _ _ _ _ _ _ _ _ _ _ [.int (iI (20 * x1 + x3 + (-1))), .int (iI 40), .ref (q 107)]
                    refine v_imul B (v := iI (800 * x1 + 40 * x3 + (-40))) dX12_send_206 ((iI_mul _ _).trans (congrArg iI (by omega))) ?_
                    refine v_aload_n B dX12_send_207 rfl rfl ?_
                    refine u_get B Z (C := RX12) (T := TX12) (N := 123) (ci := 12) hi_M_send_X12 Y.o h186 rfl 90 (by decide +kernel) (List.mem_of_getElem? (i := 28) rfl) rfl dX12_send_208 ?_
                    refine v_iconst B (v := iI 3) dX12_send_211 rfl ?_
                    refine v_iload B dX12_send_212 rfl ?_
                    refine u_callSv B Z hz (n := 5) (As := [.ref (q 107), .int (iI (800 * x1 + 40 * x3 + (-40))), .ref (q 90), .int (iI 3), .int (iI z162)]) (rest := []) (c_M_copy l D K Z _ _ _ _ h q Y 107 1600 (800 * x1 + 40 * x3 + (-40)) 90 96 3 z162 rfl ⟨by omega, by omega⟩ rfl ⟨by omega, by omega⟩ ⟨by omega, by omega⟩ σ179 G182 (by omega)) gd_M_send_M_copy_29 rfl rfl rfl (by decide +kernel) ⟨Nat.le_trans (by decide +kernel) hR.1, Nat.le_trans (by decide +kernel) hR.2⟩ rfl rfl (Nat.le_of_ble_eq_true rfl) dX12_send_214 ⟨Nat.zero_le _, Nat.zero_le _⟩ (fun σ194 p195 => ?_)
                    obtain ⟨G197, F198⟩ := p195
                    have F199 := F184.call F198 (by first | rfl | simp)
                    refine v_aload_n B dX12_send_217 rfl rfl ?_
                    refine v_iload_n B dX12_send_218 rfl rfl ?_
                    refine v_iconst B (v := iI 4) dX12_send_219 rfl ?_
                    refine v_iconst B (v := iI 3) dX12_send_220 rfl ?_
                    refine v_iload B dX12_send_221 rfl ?_
                    refine v_iadd B (v := iI (z162 + 3)) dX12_send_223 ((iI_add _ _).trans (congrArg iI (by omega))) ?_
                    have h200 := (F198 (q 85) _ (ym_85 Y) (by first | rfl | simp)).trans ((F183 (q 85) _ (ym_85 Y) (by first | rfl | simp)).trans ((n175 (q 85) (ne_ty (ym_85 Y) (ym_90 Y) (by decide))).trans (h57)))
                    refine u_callVv B Z hz (n := 3) (As := [.int (iI x1), .int (iI 4), .int (iI (z162 + 3))]) (rest := []) (c_M_says l D K Z _ _ _ _ h q Y x1 4 (z162 + 3) ⟨by omega, by omega⟩ ⟨by omega, by omega⟩ ⟨by omega, by omega⟩ σ194 G197 (At.mk h200 e60 (by omega) ⟨by omega, by omega⟩) (by omega)) gd_M_send_M_says_527 rfl rfl rfl (by decide +kernel) ⟨Nat.le_trans (by decide +kernel) hR.1, Nat.le_trans (by decide +kernel) hR.2⟩ Y.o (clsM G197.t) rfl rfl rfl rfl (Nat.le_of_ble_eq_true rfl) dX12_send_224 ⟨Nat.zero_le _, Nat.zero_le _⟩ (fun σ201 p202 => ?_)
                    obtain ⟨G204, F205⟩ := p202
                    have F206 := F199.call F205 (by first | rfl | simp)
                    refine v_iload_n B dX12_send_227 rfl rfl ?_
                    refine u_if_ne B (tgt := 236) (by omega) dX12_send_228 (by decide +kernel) (fun c207 => ?_) (fun c207 => by omega)
                    refine v_iload_n B dX12_send_236 rfl rfl ?_
                    refine v_iconst B (v := iI 2) dX12_send_237 rfl ?_
                    refine u_icmp_ne B (tgt := 248) (by omega) (by omega) dX12_send_238 (by decide +kernel) (fun c208 => by omega) (fun c208 => ?_)
                    refine v_aload_n B dX12_send_241 rfl rfl ?_
                    have h209 := (F205 h _ Y.o (by first | rfl | simp)).trans ((F198 h _ Y.o (by first | rfl | simp)).trans (h186))
                    refine u_get B Z (C := RX12) (T := TX12) (N := 123) (ci := 12) hi_M_send_X12 Y.o h209 rfl 114 (by decide +kernel) (List.mem_of_getElem? (i := 42) rfl) rfl dX12_send_242 ?_
                    refine v_iload_n B dX12_send_245 rfl rfl ?_
                    refine v_iconst B (v := iI 1) dX12_send_246 rfl ?_
                    have h210 := (F205 (q 114) _ (ym_114 Y) (by first | rfl | simp)).trans ((F198 (q 114) _ (ym_114 Y) (by first | rfl | simp)).trans ((F183 (q 114) _ (ym_114 Y) (by first | rfl | simp)).trans ((n175 (q 114) (ne_ty (ym_114 Y) (ym_90 Y) (by decide))).trans (h142))))
                    refine u_zast B Z (t0 := 3) (x := iI 1) (y := iI 1) (ym_114 Y) h210 rfl (by omega) (narZ (by omega)) dX12_send_247 (fun σ211 h212 n213 => ?_)
                    have e214 := el_upd (z := 1) e143 ⟨by omega, by omega⟩ (x1 : Int).toNat
                    have F215 := F206.put (ym_114 Y) (by simp) n213
                    have G216 := gp_114 Y G204 ⟨_, h212, e214⟩ n213
                    refine v_iconst B (v := iI 1) dX12_send_248 rfl ?_
                    exact hend σ211 1 _ _ G216 F215 ⟨by omega, by omega⟩ dX12_send_249
                  · refine v_iconst B (v := iI 0) dX12_send_102 rfl ?_
                    exact hend σ12 0 _ _ G16 F15 ⟨by omega, by omega⟩ dX12_send_103
            · refine v_aload_n B dX12_send_66 rfl rfl ?_
              refine u_get B Z (C := RX12) (T := TX12) (N := 123) (ci := 12) hi_M_send_X12 Y.o h13 rfl 2 (by decide +kernel) (List.mem_of_getElem? (i := 43) rfl) rfl dX12_send_67 ?_
              refine v_iload B dX12_send_70 rfl ?_
              refine u_icmp_gt B (tgt := 102) (by omega) (by omega) dX12_send_72 (by decide +kernel) (fun c217 => ?_) (fun c217 => ?_)
              · refine v_iconst B (v := iI 0) dX12_send_102 rfl ?_
                exact hend σ12 0 _ _ G16 F15 ⟨by omega, by omega⟩ dX12_send_103
              · refine v_iload_n B dX12_send_75 rfl rfl ?_
                refine u_if_le B (tgt := 88) (by omega) dX12_send_76 (by decide +kernel) (fun c218 => ?_) (fun c218 => by omega)
                refine v_iload_n B dX12_send_88 rfl rfl ?_
                refine v_iconst B (v := iI 2) dX12_send_89 rfl ?_
                refine u_icmp_ne B (tgt := 104) (by omega) (by omega) dX12_send_90 (by decide +kernel) (fun c219 => ?_) (fun c219 => by omega)
                refine v_iload_n B dX12_send_104 rfl rfl ?_
                refine u_if_ne B (tgt := 115) (by omega) dX12_send_105 (by decide +kernel) (fun c220 => by omega) (fun c220 => ?_)
                refine v_aload_n B dX12_send_108 rfl rfl ?_
                refine u_get B Z (C := RX12) (T := TX12) (N := 123) (ci := 12) hi_M_send_X12 Y.o h13 rfl 2 (by decide +kernel) (List.mem_of_getElem? (i := 43) rfl) rfl dX12_send_109 ?_
                refine v_goto B (tgt := 131) dX12_send_112 (by decide +kernel) ?_
                refine v_istore B (lv' := [(5, .int (iI z2)), (4, .int (iI (z66 + (-3)))), (0, .ref h), (1, .int (iI x1)), (2, .int (iI x2)), (3, .int (iI x3))]) dX12_send_131 (by decide +kernel) rfl ?_
                refine v_aload_n B dX12_send_133 rfl rfl ?_
                refine u_get B Z (C := RX12) (T := TX12) (N := 123) (ci := 12) hi_M_send_X12 Y.o h13 rfl 90 (by decide +kernel) (List.mem_of_getElem? (i := 28) rfl) rfl dX12_send_134 ?_
                refine v_iconst B (v := iI 0) dX12_send_137 rfl ?_
                refine v_iload_n B dX12_send_138 rfl rfl ?_
                refine u_if_ne B (tgt := 147) (by omega) dX12_send_139 (by decide +kernel) (fun c221 => by omega) (fun c221 => ?_)
                refine v_bipush B (v := iI 82) dX12_send_142 (by decide +kernel) ?_
                refine v_goto B (tgt := 159) dX12_send_144 (by decide +kernel) ?_
                obtain ⟨z222, e223, r224⟩ := iI_i8 82
                refine v_i2b B (v := iI z222) dX12_send_159 e223 ?_
                obtain ⟨f225, h226, e227⟩ := ga_90 G16.t
                refine u_bast B Z (t0 := 2) (x := iI z222) (y := iI z222) (ym_90 Y) h226 rfl (by omega) (nar8 (by omega)) dX12_send_160 (fun σ228 h229 n230 => ?_)
                have F231 := F15.put (ym_90 Y) (by simp) n230
                have G232 := gp_90 Y G16 ⟨_, h229, el_upd (z := z222) e227 ⟨by omega, by omega⟩ _⟩ n230
                refine v_aload_n B dX12_send_161 rfl rfl ?_
                have h233 := (n230 h (ne_ty Y.o (ym_90 Y) (by decide))).trans (h13)
                refine u_get B Z (C := RX12) (T := TX12) (N := 123) (ci := 12) hi_M_send_X12 Y.o h233 rfl 90 (by decide +kernel) (List.mem_of_getElem? (i := 28) rfl) rfl dX12_send_162 ?_
                refine v_iconst B (v := iI 1) dX12_send_165 rfl ?_
                refine v_iload_n B dX12_send_166 rfl rfl ?_
                refine v_i2l B (v := lI x3) dX12_send_167 (lI_i (by omega)) ?_
                refine v_iconst B (v := iI 2) dX12_send_168 rfl ?_
                refine u_callSv B Z hz (n := 4) (As := [.ref (q 90), .int (iI 1), .long (lI x3), .int (iI 2)]) (rest := []) (c_M_numberP l D K Z _ _ _ _ h q Y 90 96 1 x3 2 rfl ⟨by omega, by omega⟩ ⟨by omega, by omega⟩ ⟨by omega, by omega⟩ σ228 G232 (by omega)) gd_M_send_M_numberP_432 rfl rfl rfl (by decide +kernel) ⟨Nat.le_trans (by decide +kernel) hR.1, Nat.le_trans (by decide +kernel) hR.2⟩ rfl rfl (Nat.le_of_ble_eq_true rfl) dX12_send_169 ⟨Nat.zero_le _, Nat.zero_le _⟩ (fun σ234 p235 => ?_)
                obtain ⟨G237, F238⟩ := p235
                have F239 := F231.call F238 (by first | rfl | simp)
                refine v_iload_n B dX12_send_172 rfl rfl ?_
                refine u_if_ne B (tgt := 194) (by omega) dX12_send_173 (by decide +kernel) (fun c240 => by omega) (fun c240 => ?_)
                refine v_aload_n B dX12_send_176 rfl rfl ?_
                have h241 := (F238 h _ Y.o (by first | rfl | simp)).trans (h233)
                refine u_get B Z (C := RX12) (T := TX12) (N := 123) (ci := 12) hi_M_send_X12 Y.o h241 rfl 1 (by decide +kernel) (List.mem_of_getElem? (i := 44) rfl) rfl dX12_send_177 ?_
                refine v_iconst B (v := iI 0) dX12_send_180 rfl ?_
                refine v_aload_n B dX12_send_181 rfl rfl ?_
                refine u_get B Z (C := RX12) (T := TX12) (N := 123) (ci := 12) hi_M_send_X12 Y.o h241 rfl 90 (by decide +kernel) (List.mem_of_getElem? (i := 28) rfl) rfl dX12_send_182 ?_
                refine v_iconst B (v := iI 3) dX12_send_185 rfl ?_
                refine v_iload B dX12_send_186 rfl ?_
                refine u_callSv B Z hz (n := 5) (As := [.ref (q 1), .int (iI 0), .ref (q 90), .int (iI 3), .int (iI z2)]) (rest := []) (c_M_copy l D K Z _ _ _ _ h q Y 1 100 0 90 96 3 z2 rfl ⟨by omega, by omega⟩ rfl ⟨by omega, by omega⟩ ⟨by omega, by omega⟩ σ234 G237 (by omega)) gd_M_send_M_copy_29 rfl rfl rfl (by decide +kernel) ⟨Nat.le_trans (by decide +kernel) hR.1, Nat.le_trans (by decide +kernel) hR.2⟩ rfl rfl (Nat.le_of_ble_eq_true rfl) dX12_send_188 ⟨Nat.zero_le _, Nat.zero_le _⟩ (fun σ242 p243 => ?_)
                obtain ⟨G245, F246⟩ := p243
                have F247 := F239.call F246 (by first | rfl | simp)
                refine v_goto B (tgt := 217) dX12_send_191 (by decide +kernel) ?_
                refine v_aload_n B dX12_send_217 rfl rfl ?_
                refine v_iload_n B dX12_send_218 rfl rfl ?_
                refine v_iconst B (v := iI 4) dX12_send_219 rfl ?_
                refine v_iconst B (v := iI 3) dX12_send_220 rfl ?_
                refine v_iload B dX12_send_221 rfl ?_
                refine v_iadd B (v := iI (z2 + 3)) dX12_send_223 ((iI_add _ _).trans (congrArg iI (by omega))) ?_
                have h248 := (F246 (q 85) _ (ym_85 Y) (by first | rfl | simp)).trans ((F238 (q 85) _ (ym_85 Y) (by first | rfl | simp)).trans ((n230 (q 85) (ne_ty (ym_85 Y) (ym_90 Y) (by decide))).trans (h57)))
                refine u_callVv B Z hz (n := 3) (As := [.int (iI x1), .int (iI 4), .int (iI (z2 + 3))]) (rest := []) (c_M_says l D K Z _ _ _ _ h q Y x1 4 (z2 + 3) ⟨by omega, by omega⟩ ⟨by omega, by omega⟩ ⟨by omega, by omega⟩ σ242 G245 (At.mk h248 e60 (by omega) ⟨by omega, by omega⟩) (by omega)) gd_M_send_M_says_527 rfl rfl rfl (by decide +kernel) ⟨Nat.le_trans (by decide +kernel) hR.1, Nat.le_trans (by decide +kernel) hR.2⟩ Y.o (clsM G245.t) rfl rfl rfl rfl (Nat.le_of_ble_eq_true rfl) dX12_send_224 ⟨Nat.zero_le _, Nat.zero_le _⟩ (fun σ249 p250 => ?_)
                obtain ⟨G252, F253⟩ := p250
                have F254 := F247.call F253 (by first | rfl | simp)
                refine v_iload_n B dX12_send_227 rfl rfl ?_
                refine u_if_ne B (tgt := 236) (by omega) dX12_send_228 (by decide +kernel) (fun c255 => by omega) (fun c255 => ?_)
                refine v_aload_n B dX12_send_231 rfl rfl ?_
                refine v_iconst B (v := iI 0) dX12_send_232 rfl ?_
                have h256 := (F253 h _ Y.o (by first | rfl | simp)).trans ((F246 h _ Y.o (by first | rfl | simp)).trans (h241))
                refine u_put B Z (C := RX12) (T := TX12) (N := 123) (ci := 12) hi_M_send_X12 Y.o h256 rfl 2 (by decide +kernel) tyX12 tyX12_ok nmX12 (List.mem_of_getElem? (i := 43) rfl) rfl (ty := .int) (tyX12_ok 2 (by decide +kernel)) rfl rfl (Nat.le_of_ble_eq_true rfl) (fs' := fsM q (iI 0) (iI 0) (iI z3) (iI z4) (iI z5)) rfl dX12_send_233 (fun σ257 h258 n259 => ?_)
                have F260 := F254.put Y.o (by simp) n259
                have G261 := G252.putO Y ⟨0, 0, z3, z4, z5, h258, ⟨by omega, by omega⟩, ⟨by omega, by omega⟩, ⟨by omega, by omega⟩, ⟨by omega, by omega⟩, ⟨by omega, by omega⟩⟩ n259
                refine v_iload_n B dX12_send_236 rfl rfl ?_
                refine v_iconst B (v := iI 2) dX12_send_237 rfl ?_
                refine u_icmp_ne B (tgt := 248) (by omega) (by omega) dX12_send_238 (by decide +kernel) (fun c262 => ?_) (fun c262 => by omega)
                refine v_iconst B (v := iI 1) dX12_send_248 rfl ?_
                exact hend σ257 1 _ _ G261 F260 ⟨by omega, by omega⟩ dX12_send_249
          · refine v_iconst B (v := iI 0) dX12_send_50 rfl ?_
            exact hend σ12 0 _ _ G16 F15 ⟨by omega, by omega⟩ dX12_send_51
set_option maxRecDepth 100000 in
theorem c_M_send (l : Launch) (D : va_G) (K : Nat → ClassId) {τ : Nat → Option Ty} {dom : List Nat} (Z : Sk τ dom) (zb zL : Nat) (zx : Nat → Int32) (zs : Nat → Nat) (h : Nat) (q : Nat → Nat) (Y : MS τ h q) (x1 : Int) (x2 : Int) (x3 : Int) (r_x1 : -2147483648 ≤ x1 ∧ x1 ≤ 2147483647) (r_x2 : -2147483648 ≤ x2 ∧ x2 ≤ 2147483647) (r_x3 : -2147483648 ≤ x3 ∧ x3 ≤ 2147483647) (σ0 : Nat → va_E) (G0 : GM K h q σ0) : MZ l yX12_send wp_M_send ({ frames := 2, cells := 0, slots := 0, locals := 49 }) D (tysA K) [.ref h, .int (iI x1), .int (iI x2), .int (iI x3)] (fd dom σ0) zb zL zx zs (Qi D (fun r σ' => GM K h q σ' ∧ Fr τ [(50, 0), (190, 0), (182, 0), (184, 0), (185, 0), (214, 0)] σ0 σ' ∧ ∃ z : Int, r = iI z ∧ (0 ≤ z ∧ z ≤ 1)) (fun σ' => fd dom σ')) 0 0 := by
  refine mz_of (cc := cX12_send) (maxL := 6) (ret := (some .boolean)) (by decide +kernel) rfl (Nat.le_of_ble_eq_true rfl) ?_
  intro p e s m below meth c A B hr hlk _ hz
  exact b_M_send ⟨Nat.le_refl _, Nat.le_refl _⟩ B Z hz h q Y x1 x2 x3 r_x1 r_x2 r_x3 σ0 G0 (fun σ' z lv pc G F hZ hd => v_zret B hr hlk (nar01 (by omega)) σ' ⟨G, F, z, rfl, hZ⟩ rfl (Nat.le_refl _) (Nat.le_refl _) hd)
