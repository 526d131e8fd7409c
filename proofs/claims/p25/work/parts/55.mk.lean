def wp_M_makesSession : List Cond := .code yX12_makesSession cX12_makesSession 3 none :: (([.methodLink RX12 29 yX12_copy, .static yX12_copy, .initialized RX12, .code yX12_copy cX12_copy 6 none, .fieldLink RX12 206 "LowEnergyModel" "key" "[B", .fieldLink RX12 251 "LowEnergyModel" "block" "[B", .fieldLink RX12 209 "LowEnergyModel" "session" "[B", .methodLink RX12 444 yX12_e, .instanceMethod yX12_e, .selects RX12 yX12_e yX12_e, .code yX12_e cX12_e 13 none, .fieldLink RX12 33 "LowEnergyModel" "cells" "[B", .fieldLink RX12 26 "LowEnergyModel" "round" "[B", .fieldLink RX12 36 "LowEnergyModel" "moved" "[B", .methodLink RX12 14 yX12_twice, .static yX12_twice, .code yX12_twice cX12_twice 1 (some .int), .fieldLink RX12 22 "LowEnergyModel" "box" "[I", .fieldLink RX12 242 "LowEnergyModel" "hasSession" "[Z", .fieldLink RX12 263 "LowEnergyModel" "came" "[B", .fieldLink RX12 212 "LowEnergyModel" "iv" "[B", .fieldLink RX12 218 "LowEnergyModel" "ownIv" "[B", .fieldLink RX12 215 "LowEnergyModel" "ownSkd" "[B"] : List Cond) ++ (wsX120 ++ ([])))
theorem hi_M_makesSession_X12 : ∀ x ∈ u_ws RX12 TX12 123, x ∈ wp_M_makesSession := fun _ h => List.mem_cons_of_mem _ (List.mem_append_right _ (List.mem_append_left _ h))
set_option maxRecDepth 100000 in
theorem gd_M_makesSession_M_copy_29 : GoodIn wp_M_makesSession (va_wsS RX12 29 yX12_copy wp_M_copy) := goodIn_app (goodIn_r _ [1, 2, 3] rfl rfl) (goodIn_ca (goodIn_r _ [4] rfl rfl) (goodIn_nil))
set_option maxRecDepth 100000 in
theorem gd_M_makesSession_M_e_444 : GoodIn wp_M_makesSession (wsV RX12 444 RX12 yX12_e wp_M_e) := goodIn_app (goodIn_r _ [8, 9, 10, 3] rfl rfl) (goodIn_ca (goodIn_r _ [11, 12, 13, 14, 15, 16, 3, 17, 18, 1, 2, 4] rfl rfl) (goodIn_app (goodIn_cls hi_M_makesSession_X12 gw_X12) (goodIn_nil)))
set_option maxHeartbeats 4000000 in
set_option maxRecDepth 100000 in
theorem b_M_makesSession {p : Program} {l : Launch} {e : Env} {R : Room} {s : State} {m : MethodId} {args : Array Value} {below : List Frame} {meth : Method} {c : Code} {D : va_G} {K : Nat → ClassId} {A : Nat → Prop} {Q : State → Prop} {τ : Nat → Option Ty} {dom : List Nat} {zb zL : Nat} {zx : Nat → Int32} {zs : Nat → Nat} (hR : 2 ≤ R.frames ∧ 57 ≤ R.locals) (B : Bx p s m args c cX12_makesSession 3 RX12 wp_M_makesSession D (tysA K) A) (Z : Sk τ dom) (hz : ZL zb zL zx zs A s s.heap) (h : Nat) (q : Nat → Nat) (Y : MS τ h q) (d : Int) (x2 : Int) (r_d : 0 ≤ d ∧ d ≤ 1) (r_x2 : 0 ≤ x2 ∧ x2 ≤ 1) (σ0 : Nat → va_E) (G0 : GM K h q σ0) (hend : ∀ (σ' : Nat → va_E) (lv : List (Nat × Value)) (pc : Nat), GM K h q σ' → Fr τ [(177, 0), (164, 0), (104, 0), (105, 0), (106, 0), (163, 0), (174, 0)] σ0 σ' → decode cX12_makesSession pc = .ok (.return_, 1) → V p l e R s m args below meth c 3 D A Q (0, 0) (fd dom σ') lv pc []) : V p l e R s m args below meth c 3 D A Q (0, 0) (fd dom σ0) [(0, .ref h), (1, .int (iI d)), (2, .int (iI x2))] 0 [] := by
  have F0 : Fr τ [(177, 0), (164, 0), (104, 0), (105, 0), (106, 0), (163, 0), (174, 0)] σ0 σ0 := Fr.rf
  obtain ⟨z1, z2, z3, z4, z5, h6, r7, r8, r9, r10, r11⟩ := G0.t.o
  have J103 : ∀ (σ_103 : Nat → va_E) (z103_s0 : Int) (z103_s1 : Int) (z103_s3 : Int), GM K h q σ_103 → Fr τ [(177, 0), (164, 0), (104, 0), (105, 0), (106, 0), (163, 0), (174, 0)] σ0 σ_103 → (σ_103 h = .inr (12, fsM q (iI z1) (iI z2) (iI z3) (iI z4) (iI z5))) → (0 ≤ z103_s0 ∧ z103_s0 ≤ 4) → (0 ≤ z103_s1 ∧ z103_s1 ≤ 8) → (9 ≤ z103_s3 ∧ z103_s3 ≤ 9) → V p l e R s m args below meth c 3 D A Q (0, 0) (fd dom σ_103) [(0, .ref h), (1, .int (iI d))] 103 [.int (iI z103_s0), .int (iI z103_s1), .ref (q 64), .int (iI z103_s3), .ref (q 81)] := by
    intro σ_103 z103_s0 z103_s1 z103_s3 G_103 F_103 hc103_h r103_s0 r103_s1 r103_s3
    refine v_iadd B (v := iI (z103_s1 + z103_s0)) dX12_makesSession_103 ((iI_add _ _).trans (congrArg iI (by omega))) ?_
    refine v_iconst B (v := iI 4) dX12_makesSession_104 rfl ?_
    refine u_callSv B Z hz (n := 5) (As := [.ref (q 81), .int (iI z103_s3), .ref (q 64), .int (iI (z103_s1 + z103_s0)), .int (iI 4)]) (rest := []) (c_M_copy l D K Z _ _ _ _ h q Y 81 40 z103_s3 64 16 (z103_s1 + z103_s0) 4 rfl ⟨by omega, by omega⟩ rfl ⟨by omega, by omega⟩ ⟨by omega, by omega⟩ σ_103 G_103 (by omega)) gd_M_makesSession_M_copy_29 rfl rfl rfl (by decide +kernel) ⟨Nat.le_trans (by decide +kernel) hR.1, Nat.le_trans (by decide +kernel) hR.2⟩ rfl rfl (Nat.le_of_ble_eq_true rfl) dX12_makesSession_105 ⟨Nat.zero_le _, Nat.zero_le _⟩ (fun σ12 p13 => ?_)
    obtain ⟨G15, F16⟩ := p13
    have F17 := F_103.call F16 (by first | rfl | simp)
    refine v_aload_n B dX12_makesSession_108 rfl rfl ?_
    refine v_aload_n B dX12_makesSession_109 rfl rfl ?_
    have h18 := (F16 h _ Y.o (by first | rfl | simp)).trans (hc103_h)
    refine u_get B Z (C := RX12) (T := TX12) (N := 123) (ci := 12) hi_M_makesSession_X12 Y.o h18 rfl 62 (by decide +kernel) (List.mem_of_getElem? (i := 5) rfl) rfl dX12_makesSession_110 ?_
    refine v_bipush B (v := iI 16) dX12_makesSession_113 (by decide +kernel) ?_
    refine v_iload_n B dX12_makesSession_115 rfl rfl ?_
    refine v_imul B (v := iI (16 * d)) dX12_makesSession_116 ((iI_mul _ _).trans (congrArg iI (by omega))) ?_
    refine v_aload_n B dX12_makesSession_117 rfl rfl ?_
    refine u_get B Z (C := RX12) (T := TX12) (N := 123) (ci := 12) hi_M_makesSession_X12 Y.o h18 rfl 77 (by decide +kernel) (List.mem_of_getElem? (i := 6) rfl) rfl dX12_makesSession_118 ?_
    refine v_iconst B (v := iI 0) dX12_makesSession_121 rfl ?_
    refine v_aload_n B dX12_makesSession_122 rfl rfl ?_
    refine u_get B Z (C := RX12) (T := TX12) (N := 123) (ci := 12) hi_M_makesSession_X12 Y.o h18 rfl 63 (by decide +kernel) (List.mem_of_getElem? (i := 7) rfl) rfl dX12_makesSession_123 ?_
    refine v_bipush B (v := iI 16) dX12_makesSession_126 (by decide +kernel) ?_
    refine v_iload_n B dX12_makesSession_128 rfl rfl ?_
    refine v_imul B (v := iI (16 * d)) dX12_makesSession_129 ((iI_mul _ _).trans (congrArg iI (by omega))) ?_
    refine u_callVv B Z hz (n := 6) (As := [.ref (q 62), .int (iI (16 * d)), .ref (q 77), .int (iI 0), .ref (q 63), .int (iI (16 * d))]) (rest := []) (c_M_e l D K Z _ _ _ _ h q Y 62 32 (16 * d) 77 16 0 63 32 (16 * d) rfl ⟨by omega, by omega⟩ rfl ⟨by omega, by omega⟩ rfl ⟨by omega, by omega⟩ σ12 G15 (by omega)) gd_M_makesSession_M_e_444 rfl rfl rfl (by decide +kernel) ⟨Nat.le_trans (by decide +kernel) hR.1, Nat.le_trans (by decide +kernel) hR.2⟩ Y.o (clsM G15.t) rfl rfl rfl rfl (Nat.le_of_ble_eq_true rfl) dX12_makesSession_130 ⟨Nat.zero_le _, Nat.zero_le _⟩ (fun σ19 p20 => ?_)
    obtain ⟨G22, F23⟩ := p20
    have F24 := F17.call F23 (by first | rfl | simp)
    refine v_aload_n B dX12_makesSession_133 rfl rfl ?_
    have h25 := (F23 h _ Y.o (by first | rfl | simp)).trans (h18)
    refine u_get B Z (C := RX12) (T := TX12) (N := 123) (ci := 12) hi_M_makesSession_X12 Y.o h25 rfl 74 (by decide +kernel) (List.mem_of_getElem? (i := 19) rfl) rfl dX12_makesSession_134 ?_
    refine v_iload_n B dX12_makesSession_137 rfl rfl ?_
    refine v_iconst B (v := iI 1) dX12_makesSession_138 rfl ?_
    obtain ⟨f26, h27, e28⟩ := ga_74 G22.t
    refine u_zast B Z (t0 := 3) (x := iI 1) (y := iI 1) (ym_74 Y) h27 rfl (by omega) (narZ (by omega)) dX12_makesSession_139 (fun σ29 h30 n31 => ?_)
    have e32 := el_upd (z := 1) e28 ⟨by omega, by omega⟩ (d : Int).toNat
    have F33 := F24.put (ym_74 Y) (by simp) n31
    have G34 := gp_74 Y G22 ⟨_, h30, e32⟩ n31
    exact hend σ29 _ _ G34 F33 dX12_makesSession_140
  have J75 : ∀ (σ_75 : Nat → va_E) (z75_s0 : Int) (z75_s1 : Int) (z75_s3 : Int), GM K h q σ_75 → Fr τ [(177, 0), (164, 0), (104, 0), (105, 0), (106, 0), (163, 0), (174, 0)] σ0 σ_75 → (σ_75 h = .inr (12, fsM q (iI z1) (iI z2) (iI z3) (iI z4) (iI z5))) → (0 ≤ z75_s0 ∧ z75_s0 ≤ 4) → (0 ≤ z75_s1 ∧ z75_s1 ≤ 8) → (0 ≤ z75_s3 ∧ z75_s3 ≤ 4) → V p l e R s m args below meth c 3 D A Q (0, 0) (fd dom σ_75) [(0, .ref h), (1, .int (iI d)), (2, .int (iI x2))] 75 [.int (iI z75_s0), .int (iI z75_s1), .ref (q 64), .int (iI z75_s3), .ref (q 66)] := by
    intro σ_75 z75_s0 z75_s1 z75_s3 G_75 F_75 hc75_h r75_s0 r75_s1 r75_s3
    refine v_iadd B (v := iI (z75_s1 + z75_s0)) dX12_makesSession_75 ((iI_add _ _).trans (congrArg iI (by omega))) ?_
    refine v_iconst B (v := iI 4) dX12_makesSession_76 rfl ?_
    refine u_callSv B Z hz (n := 5) (As := [.ref (q 66), .int (iI z75_s3), .ref (q 64), .int (iI (z75_s1 + z75_s0)), .int (iI 4)]) (rest := []) (c_M_copy l D K Z _ _ _ _ h q Y 66 8 z75_s3 64 16 (z75_s1 + z75_s0) 4 rfl ⟨by omega, by omega⟩ rfl ⟨by omega, by omega⟩ ⟨by omega, by omega⟩ σ_75 G_75 (by omega)) gd_M_makesSession_M_copy_29 rfl rfl rfl (by decide +kernel) ⟨Nat.le_trans (by decide +kernel) hR.1, Nat.le_trans (by decide +kernel) hR.2⟩ rfl rfl (Nat.le_of_ble_eq_true rfl) dX12_makesSession_77 ⟨Nat.zero_le _, Nat.zero_le _⟩ (fun σ35 p36 => ?_)
    obtain ⟨G38, F39⟩ := p36
    have F40 := F_75.call F39 (by first | rfl | simp)
    refine v_aload_n B dX12_makesSession_80 rfl rfl ?_
    have h41 := (F39 h _ Y.o (by first | rfl | simp)).trans (hc75_h)
    refine u_get B Z (C := RX12) (T := TX12) (N := 123) (ci := 12) hi_M_makesSession_X12 Y.o h41 rfl 81 (by decide +kernel) (List.mem_of_getElem? (i := 20) rfl) rfl dX12_makesSession_81 ?_
    refine v_bipush B (v := iI 9) dX12_makesSession_84 (by decide +kernel) ?_
    refine v_aload_n B dX12_makesSession_86 rfl rfl ?_
    refine u_get B Z (C := RX12) (T := TX12) (N := 123) (ci := 12) hi_M_makesSession_X12 Y.o h41 rfl 64 (by decide +kernel) (List.mem_of_getElem? (i := 21) rfl) rfl dX12_makesSession_87 ?_
    refine v_bipush B (v := iI 8) dX12_makesSession_90 (by decide +kernel) ?_
    refine v_iload_n B dX12_makesSession_92 rfl rfl ?_
    refine v_imul B (v := iI (8 * d)) dX12_makesSession_93 ((iI_mul _ _).trans (congrArg iI (by omega))) ?_
    refine v_iload_n B dX12_makesSession_94 rfl rfl ?_
    refine u_if_eq B (tgt := 102) (by omega) dX12_makesSession_95 (by decide +kernel) (fun c42 => ?_) (fun c42 => ?_)
    · refine v_iconst B (v := iI 0) dX12_makesSession_102 rfl ?_
      refine v_lv [0, 1] rfl ?_
      exact J103 σ35 0 (8 * d) 9 G38 F40 h41 ⟨by omega, by omega⟩ ⟨by omega, by omega⟩ ⟨by omega, by omega⟩
    · refine v_iconst B (v := iI 4) dX12_makesSession_98 rfl ?_
      refine v_goto B (tgt := 103) dX12_makesSession_99 (by decide +kernel) ?_
      refine v_lv [0, 1] rfl ?_
      exact J103 σ35 4 (8 * d) 9 G38 F40 h41 ⟨by omega, by omega⟩ ⟨by omega, by omega⟩ ⟨by omega, by omega⟩
  have J46 : ∀ (σ_46 : Nat → va_E) (z46_s0 : Int) (z46_s2 : Int), GM K h q σ_46 → Fr τ [(177, 0), (164, 0), (104, 0), (105, 0), (106, 0), (163, 0), (174, 0)] σ0 σ_46 → (σ_46 h = .inr (12, fsM q (iI z1) (iI z2) (iI z3) (iI z4) (iI z5))) → (0 ≤ z46_s0 ∧ z46_s0 ≤ 8) → (1 ≤ z46_s2 ∧ z46_s2 ≤ 1) → V p l e R s m args below meth c 3 D A Q (0, 0) (fd dom σ_46) [(0, .ref h), (1, .int (iI d)), (2, .int (iI x2))] 46 [.int (iI z46_s0), .ref (q 77), .int (iI z46_s2), .ref (q 81)] := by
    intro σ_46 z46_s0 z46_s2 G_46 F_46 hc46_h r46_s0 r46_s2
    refine v_bipush B (v := iI 8) dX12_makesSession_46 (by decide +kernel) ?_
    refine u_callSv B Z hz (n := 5) (As := [.ref (q 81), .int (iI z46_s2), .ref (q 77), .int (iI z46_s0), .int (iI 8)]) (rest := []) (c_M_copy l D K Z _ _ _ _ h q Y 81 40 z46_s2 77 16 z46_s0 8 rfl ⟨by omega, by omega⟩ rfl ⟨by omega, by omega⟩ ⟨by omega, by omega⟩ σ_46 G_46 (by omega)) gd_M_makesSession_M_copy_29 rfl rfl rfl (by decide +kernel) ⟨Nat.le_trans (by decide +kernel) hR.1, Nat.le_trans (by decide +kernel) hR.2⟩ rfl rfl (Nat.le_of_ble_eq_true rfl) dX12_makesSession_48 ⟨Nat.zero_le _, Nat.zero_le _⟩ (fun σ43 p44 => ?_)
    obtain ⟨G46, F47⟩ := p44
    have F48 := F_46.call F47 (by first | rfl | simp)
    refine v_aload_n B dX12_makesSession_51 rfl rfl ?_
    have h49 := (F47 h _ Y.o (by first | rfl | simp)).trans (hc46_h)
    refine u_get B Z (C := RX12) (T := TX12) (N := 123) (ci := 12) hi_M_makesSession_X12 Y.o h49 rfl 66 (by decide +kernel) (List.mem_of_getElem? (i := 22) rfl) rfl dX12_makesSession_52 ?_
    refine v_iconst B (v := iI 4) dX12_makesSession_55 rfl ?_
    refine v_iload_n B dX12_makesSession_56 rfl rfl ?_
    refine v_imul B (v := iI (4 * d)) dX12_makesSession_57 ((iI_mul _ _).trans (congrArg iI (by omega))) ?_
    refine v_aload_n B dX12_makesSession_58 rfl rfl ?_
    refine u_get B Z (C := RX12) (T := TX12) (N := 123) (ci := 12) hi_M_makesSession_X12 Y.o h49 rfl 64 (by decide +kernel) (List.mem_of_getElem? (i := 21) rfl) rfl dX12_makesSession_59 ?_
    refine v_bipush B (v := iI 8) dX12_makesSession_62 (by decide +kernel) ?_
    refine v_iload_n B dX12_makesSession_64 rfl rfl ?_
    refine v_imul B (v := iI (8 * d)) dX12_makesSession_65 ((iI_mul _ _).trans (congrArg iI (by omega))) ?_
    refine v_iload_n B dX12_makesSession_66 rfl rfl ?_
    refine u_if_eq B (tgt := 74) (by omega) dX12_makesSession_67 (by decide +kernel) (fun c50 => ?_) (fun c50 => ?_)
    · refine v_iconst B (v := iI 4) dX12_makesSession_74 rfl ?_
      exact J75 σ43 4 (8 * d) (4 * d) G46 F48 h49 ⟨by omega, by omega⟩ ⟨by omega, by omega⟩ ⟨by omega, by omega⟩
    · refine v_iconst B (v := iI 0) dX12_makesSession_70 rfl ?_
      refine v_goto B (tgt := 75) dX12_makesSession_71 (by decide +kernel) ?_
      exact J75 σ43 0 (8 * d) (4 * d) G46 F48 h49 ⟨by omega, by omega⟩ ⟨by omega, by omega⟩ ⟨by omega, by omega⟩
  have J22 : ∀ (z22_s0 : Int) (z22_s2 : Int), (0 ≤ z22_s0 ∧ z22_s0 ≤ 8) → (0 ≤ z22_s2 ∧ z22_s2 ≤ 8) → V p l e R s m args below meth c 3 D A Q (0, 0) (fd dom σ0) [(0, .ref h), (1, .int (iI d)), (2, .int (iI x2))] 22 [.int (iI z22_s0), .ref (q 77), .int (iI z22_s2), .ref (q 65)] := by
    intro z22_s0 z22_s2 r22_s0 r22_s2
    refine v_bipush B (v := iI 8) dX12_makesSession_22 (by decide +kernel) ?_
    refine u_callSv B Z hz (n := 5) (As := [.ref (q 65), .int (iI z22_s2), .ref (q 77), .int (iI z22_s0), .int (iI 8)]) (rest := []) (c_M_copy l D K Z _ _ _ _ h q Y 65 16 z22_s2 77 16 z22_s0 8 rfl ⟨by omega, by omega⟩ rfl ⟨by omega, by omega⟩ ⟨by omega, by omega⟩ σ0 G0 (by omega)) gd_M_makesSession_M_copy_29 rfl rfl rfl (by decide +kernel) ⟨Nat.le_trans (by decide +kernel) hR.1, Nat.le_trans (by decide +kernel) hR.2⟩ rfl rfl (Nat.le_of_ble_eq_true rfl) dX12_makesSession_24 ⟨Nat.zero_le _, Nat.zero_le _⟩ (fun σ51 p52 => ?_)
    obtain ⟨G54, F55⟩ := p52
    have F56 := F0.call F55 (by first | rfl | simp)
    refine v_aload_n B dX12_makesSession_27 rfl rfl ?_
    have h57 := (F55 h _ Y.o (by first | rfl | simp)).trans (h6)
    refine u_get B Z (C := RX12) (T := TX12) (N := 123) (ci := 12) hi_M_makesSession_X12 Y.o h57 rfl 81 (by decide +kernel) (List.mem_of_getElem? (i := 20) rfl) rfl dX12_makesSession_28 ?_
    refine v_iconst B (v := iI 1) dX12_makesSession_31 rfl ?_
    refine v_aload_n B dX12_makesSession_32 rfl rfl ?_
    refine u_get B Z (C := RX12) (T := TX12) (N := 123) (ci := 12) hi_M_makesSession_X12 Y.o h57 rfl 77 (by decide +kernel) (List.mem_of_getElem? (i := 6) rfl) rfl dX12_makesSession_33 ?_
    refine v_iload_n B dX12_makesSession_36 rfl rfl ?_
    refine u_if_eq B (tgt := 45) (by omega) dX12_makesSession_37 (by decide +kernel) (fun c58 => ?_) (fun c58 => ?_)
    · refine v_iconst B (v := iI 0) dX12_makesSession_45 rfl ?_
      exact J46 σ51 0 1 G54 F56 h57 ⟨by omega, by omega⟩ ⟨by omega, by omega⟩
    · refine v_bipush B (v := iI 8) dX12_makesSession_40 (by decide +kernel) ?_
      refine v_goto B (tgt := 46) dX12_makesSession_42 (by decide +kernel) ?_
      exact J46 σ51 8 1 G54 F56 h57 ⟨by omega, by omega⟩ ⟨by omega, by omega⟩
  refine v_aload_n B dX12_makesSession_0 rfl rfl ?_
  refine u_get B Z (C := RX12) (T := TX12) (N := 123) (ci := 12) hi_M_makesSession_X12 Y.o h6 rfl 65 (by decide +kernel) (List.mem_of_getElem? (i := 23) rfl) rfl dX12_makesSession_1 ?_
  refine v_bipush B (v := iI 8) dX12_makesSession_4 (by decide +kernel) ?_
  refine v_iload_n B dX12_makesSession_6 rfl rfl ?_
  refine v_imul B (v := iI (8 * d)) dX12_makesSession_7 ((iI_mul _ _).trans (congrArg iI (by omega))) ?_
  refine v_aload_n B dX12_makesSession_8 rfl rfl ?_
  refine u_get B Z (C := RX12) (T := TX12) (N := 123) (ci := 12) hi_M_makesSession_X12 Y.o h6 rfl 77 (by decide +kernel) (List.mem_of_getElem? (i := 6) rfl) rfl dX12_makesSession_9 ?_
  refine v_iload_n B dX12_makesSession_12 rfl rfl ?_
  refine u_if_eq B (tgt := 20) (by omega) dX12_makesSession_13 (by decide +kernel) (fun c59 => ?_) (fun c59 => ?_)
  · refine v_bipush B (v := iI 8) dX12_makesSession_20 (by decide +kernel) ?_
    exact J22 8 (8 * d) ⟨by omega, by omega⟩ ⟨by omega, by omega⟩
  · refine v_iconst B (v := iI 0) dX12_makesSession_16 rfl ?_
    refine v_goto B (tgt := 22) dX12_makesSession_17 (by decide +kernel) ?_
    exact J22 0 (8 * d) ⟨by omega, by omega⟩ ⟨by omega, by omega⟩
set_option maxRecDepth 100000 in
theorem c_M_makesSession (l : Launch) (D : va_G) (K : Nat → ClassId) {τ : Nat → Option Ty} {dom : List Nat} (Z : Sk τ dom) (zb zL : Nat) (zx : Nat → Int32) (zs : Nat → Nat) (h : Nat) (q : Nat → Nat) (Y : MS τ h q) (d : Int) (x2 : Int) (r_d : 0 ≤ d ∧ d ≤ 1) (r_x2 : 0 ≤ x2 ∧ x2 ≤ 1) (σ0 : Nat → va_E) (G0 : GM K h q σ0) : MZ l yX12_makesSession wp_M_makesSession ({ frames := 2, cells := 0, slots := 0, locals := 57 }) D (tysA K) [.ref h, .int (iI d), .int (iI x2)] (fd dom σ0) zb zL zx zs (Qv D (fun σ' => GM K h q σ' ∧ Fr τ [(177, 0), (164, 0), (104, 0), (105, 0), (106, 0), (163, 0), (174, 0)] σ0 σ') (fun σ' => fd dom σ')) 0 0 := by
  refine mz_of (cc := cX12_makesSession) (maxL := 3) (ret := none) (by decide +kernel) rfl (Nat.le_of_ble_eq_true rfl) ?_
  intro p e s m below meth c A B hr hlk _ hz
  exact b_M_makesSession ⟨Nat.le_refl _, Nat.le_refl _⟩ B Z hz h q Y d x2 r_d r_x2 σ0 G0 (fun σ' lv pc G F hd => v_vret B hr hlk σ' ⟨G, F⟩ rfl (Nat.le_refl _) (Nat.le_refl _) hd)

def wp_M_draws : List Cond := .code yX12_draws cX12_draws 3 none :: (([.fieldLink RX12 218 "LowEnergyModel" "ownIv" "[B", .methodLink RX12 480 yX12_draw, .instanceMethod yX12_draw, .selects RX12 yX12_draw yX12_draw, .initialized RX12, .code yX12_draw cX12_draw 2 (some .int), .fieldLink RX12 48 "LowEnergyModel" "x" "[I", .constant RX12 395 (1103515245), .fieldLink RX12 215 "LowEnergyModel" "ownSkd" "[B"] : List Cond) ++ (wsX120 ++ ([])))
theorem hi_M_draws_X12 : ∀ x ∈ u_ws RX12 TX12 123, x ∈ wp_M_draws := fun _ h => List.mem_cons_of_mem _ (List.mem_append_right _ (List.mem_append_left _ h))
set_option maxRecDepth 100000 in
theorem gd_M_draws_M_draw_480 : GoodIn wp_M_draws (wsV RX12 480 RX12 yX12_draw wp_M_draw) := goodIn_app (goodIn_r _ [2, 3, 4, 5] rfl rfl) (goodIn_ca (goodIn_r _ [6, 7, 8] rfl rfl) (goodIn_app (goodIn_cls hi_M_draws_X12 gw_X12) (goodIn_nil)))
set_option maxHeartbeats 4000000 in
set_option maxRecDepth 100000 in
theorem b_M_draws {p : Program} {l : Launch} {e : Env} {R : Room} {s : State} {m : MethodId} {args : Array Value} {below : List Frame} {meth : Method} {c : Code} {D : va_G} {K : Nat → ClassId} {A : Nat → Prop} {Q : State → Prop} {τ : Nat → Option Ty} {dom : List Nat} {zb zL : Nat} {zx : Nat → Int32} {zs : Nat → Nat} (hR : 1 ≤ R.frames ∧ 21 ≤ R.locals) (B : Bx p s m args c cX12_draws 3 RX12 wp_M_draws D (tysA K) A) (Z : Sk τ dom) (hz : ZL zb zL zx zs A s s.heap) (h : Nat) (q : Nat → Nat) (Y : MS τ h q) (d : Int) (r_d : 0 ≤ d ∧ d ≤ 1) (σ0 : Nat → va_E) (G0 : GM K h q σ0) (hend : ∀ (σ' : Nat → va_E) (lv : List (Nat × Value)) (pc : Nat), GM K h q σ' → Fr τ [(108, 0), (165, 0), (166, 0)] σ0 σ' → decode cX12_draws pc = .ok (.return_, 1) → V p l e R s m args below meth c 3 D A Q (0, 0) (fd dom σ') lv pc []) : V p l e R s m args below meth c 3 D A Q (0, 0) (fd dom σ0) [(0, .ref h), (1, .int (iI d))] 0 [] := by
  have F0 : Fr τ [(108, 0), (165, 0), (166, 0)] σ0 σ0 := Fr.rf
  obtain ⟨z1, z2, z3, z4, z5, h6, r7, r8, r9, r10, r11⟩ := G0.t.o
  have J33 : ∀ (k33 : Nat) (σ_33 : Nat → va_E) (z33_2 : Int), (2147483648 - z33_2).toNat ≤ k33 → GM K h q σ_33 → Fr τ [(108, 0), (165, 0), (166, 0)] σ0 σ_33 → (σ_33 h = .inr (12, fsM q (iI z1) (iI z2) (iI z3) (iI z4) (iI z5))) → (0 ≤ z33_2 ∧ z33_2 ≤ 4) → V p l e R s m args below meth c 3 D A Q (0, 0) (fd dom σ_33) [(0, .ref h), (1, .int (iI d)), (2, .int (iI z33_2))] 33 [] := by
    intro k33
    induction k33 with
    | zero => intro σ_33 z33_2 m33 G_33 F_33 hc33_h r33_2; omega
    | succ k33 IH33 =>
      intro σ_33 z33_2 m33 G_33 F_33 hc33_h r33_2
      refine v_iload_n B dX12_draws_33 rfl rfl ?_
      refine v_iconst B (v := iI 4) dX12_draws_34 rfl ?_
      refine u_icmp_ge B (tgt := 60) (by omega) (by omega) dX12_draws_35 (by decide +kernel) (fun c12 => ?_) (fun c12 => ?_)
      · exact hend σ_33 _ _ G_33 F_33 dX12_draws_60
      · refine v_aload_n B dX12_draws_38 rfl rfl ?_
        refine u_get B Z (C := RX12) (T := TX12) (N := 123) (ci := 12) hi_M_draws_X12 Y.o hc33_h rfl 66 (by decide +kernel) (List.mem_of_getElem? (i := 1) rfl) rfl dX12_draws_39 ?_
        refine v_iconst B (v := iI 4) dX12_draws_42 rfl ?_
        refine v_iload_n B dX12_draws_43 rfl rfl ?_
        refine v_imul B (v := iI (4 * d)) dX12_draws_44 ((iI_mul _ _).trans (congrArg iI (by omega))) ?_
        refine v_iload_n B dX12_draws_45 rfl rfl ?_
        refine v_iadd B (v := iI (4 * d + z33_2)) dX12_draws_46 ((iI_add _ _).trans (congrArg iI (by omega))) ?_
        refine v_aload_n B dX12_draws_47 rfl rfl ?_
        refine v_iload_n B dX12_draws_48 rfl rfl ?_
        refine u_callVi B Z hz (n := 1) (As := [.int (iI d)]) (rest := [.int (iI (4 * d + z33_2)), .ref (q 66)]) (c_M_draw l D K Z _ _ _ _ h q Y d ⟨by omega, by omega⟩ σ_33 G_33) gd_M_draws_M_draw_480 rfl rfl rfl (by decide +kernel) ⟨Nat.le_trans (by decide +kernel) hR.1, Nat.le_trans (by decide +kernel) hR.2⟩ Y.o (clsM G_33.t) rfl rfl rfl rfl (Nat.le_of_ble_eq_true rfl) dX12_draws_49 ⟨Nat.zero_le _, Nat.zero_le _⟩ (fun v15 σ13 p14 => ?_)
        obtain ⟨G19, F20, z16, e17, r18⟩ := p14
        subst e17
        have F21 := F_33.call F20 (by first | rfl | simp)
        obtain ⟨z22, e23, r24⟩ := iI_i8 z16
        refine v_i2b B (v := iI z22) dX12_draws_52 e23 ?_
        obtain ⟨f25, h26, e27⟩ := ga_66 G19.t
        refine u_bast B Z (t0 := 2) (x := iI z22) (y := iI z22) (ym_66 Y) h26 rfl (by omega) (nar8 (by omega)) dX12_draws_53 (fun σ28 h29 n30 => ?_)
        have F31 := F21.put (ym_66 Y) (by simp) n30
        have G32 := gp_66 Y G19 ⟨_, h29, el_upd (z := z22) e27 ⟨by omega, by omega⟩ _⟩ n30
        refine v_iinc B (k := 2) (v := iI (z33_2 + 1)) (lv' := [(2, .int (iI (z33_2 + 1))), (0, .ref h), (1, .int (iI d))]) dX12_draws_54 rfl ((iI_add _ _).trans (congrArg iI (by omega))) (by decide +kernel) rfl ?_
        refine v_goto B (tgt := 33) dX12_draws_57 (by decide +kernel) ?_
        refine v_lv [1, 2, 0] rfl ?_
        have h33 := (n30 h (ne_ty Y.o (ym_66 Y) (by decide))).trans ((F20 h _ Y.o (by first | rfl | simp)).trans (hc33_h))
        exact IH33 σ28 (z33_2 + 1) (by omega) G32 F31 h33 ⟨by omega, by omega⟩
  have J2 : ∀ (k2 : Nat) (σ_2 : Nat → va_E) (z2_2 : Int), (2147483648 - z2_2).toNat ≤ k2 → GM K h q σ_2 → Fr τ [(108, 0), (165, 0), (166, 0)] σ0 σ_2 → (σ_2 h = .inr (12, fsM q (iI z1) (iI z2) (iI z3) (iI z4) (iI z5))) → (0 ≤ z2_2 ∧ z2_2 ≤ 8) → V p l e R s m args below meth c 3 D A Q (0, 0) (fd dom σ_2) [(0, .ref h), (1, .int (iI d)), (2, .int (iI z2_2))] 2 [] := by
    intro k2
    induction k2 with
    | zero => intro σ_2 z2_2 m2 G_2 F_2 hc2_h r2_2; omega
    | succ k2 IH2 =>
      intro σ_2 z2_2 m2 G_2 F_2 hc2_h r2_2
      refine v_iload_n B dX12_draws_2 rfl rfl ?_
      refine v_bipush B (v := iI 8) dX12_draws_3 (by decide +kernel) ?_
      refine u_icmp_ge B (tgt := 31) (by omega) (by omega) dX12_draws_5 (by decide +kernel) (fun c34 => ?_) (fun c34 => ?_)
      · refine v_iconst B (v := iI 0) dX12_draws_31 rfl ?_
        refine v_istore_n B (lv' := [(2, .int (iI 0)), (0, .ref h), (1, .int (iI d))]) dX12_draws_32 rfl (by decide +kernel) rfl ?_
        refine v_lv [1, 2, 0] rfl ?_
        exact J33 _ σ_2 0 (Nat.le_refl _) G_2 F_2 hc2_h ⟨by omega, by omega⟩
      · refine v_aload_n B dX12_draws_8 rfl rfl ?_
        refine u_get B Z (C := RX12) (T := TX12) (N := 123) (ci := 12) hi_M_draws_X12 Y.o hc2_h rfl 65 (by decide +kernel) (List.mem_of_getElem? (i := 9) rfl) rfl dX12_draws_9 ?_
        refine v_bipush B (v := iI 8) dX12_draws_12 (by decide +kernel) ?_
        refine v_iload_n B dX12_draws_14 rfl rfl ?_
        refine v_imul B (v := iI (8 * d)) dX12_draws_15 ((iI_mul _ _).trans (congrArg iI (by omega))) ?_
        refine v_iload_n B dX12_draws_16 rfl rfl ?_
        refine v_iadd B (v := iI (8 * d + z2_2)) dX12_draws_17 ((iI_add _ _).trans (congrArg iI (by omega))) ?_
        refine v_aload_n B dX12_draws_18 rfl rfl ?_
        refine v_iload_n B dX12_draws_19 rfl rfl ?_
        refine u_callVi B Z hz (n := 1) (As := [.int (iI d)]) (rest := [.int (iI (8 * d + z2_2)), .ref (q 65)]) (c_M_draw l D K Z _ _ _ _ h q Y d ⟨by omega, by omega⟩ σ_2 G_2) gd_M_draws_M_draw_480 rfl rfl rfl (by decide +kernel) ⟨Nat.le_trans (by decide +kernel) hR.1, Nat.le_trans (by decide +kernel) hR.2⟩ Y.o (clsM G_2.t) rfl rfl rfl rfl (Nat.le_of_ble_eq_true rfl) dX12_draws_20 ⟨Nat.zero_le _, Nat.zero_le _⟩ (fun v37 σ35 p36 => ?_)
        obtain ⟨G41, F42, z38, e39, r40⟩ := p36
        subst e39
        have F43 := F_2.call F42 (by first | rfl | simp)
        obtain ⟨z44, e45, r46⟩ := iI_i8 z38
        refine v_i2b B (v := iI z44) dX12_draws_23 e45 ?_
        obtain ⟨f47, h48, e49⟩ := ga_65 G41.t
        refine u_bast B Z (t0 := 2) (x := iI z44) (y := iI z44) (ym_65 Y) h48 rfl (by omega) (nar8 (by omega)) dX12_draws_24 (fun σ50 h51 n52 => ?_)
        have F53 := F43.put (ym_65 Y) (by simp) n52
        have G54 := gp_65 Y G41 ⟨_, h51, el_upd (z := z44) e49 ⟨by omega, by omega⟩ _⟩ n52
        refine v_iinc B (k := 2) (v := iI (z2_2 + 1)) (lv' := [(2, .int (iI (z2_2 + 1))), (0, .ref h), (1, .int (iI d))]) dX12_draws_25 rfl ((iI_add _ _).trans (congrArg iI (by omega))) (by decide +kernel) rfl ?_
        refine v_goto B (tgt := 2) dX12_draws_28 (by decide +kernel) ?_
        refine v_lv [1, 2, 0] rfl ?_
        have h55 := (n52 h (ne_ty Y.o (ym_65 Y) (by decide))).trans ((F42 h _ Y.o (by first | rfl | simp)).trans (hc2_h))
        exact IH2 σ50 (z2_2 + 1) (by omega) G54 F53 h55 ⟨by omega, by omega⟩
  refine v_iconst B (v := iI 0) dX12_draws_0 rfl ?_
  refine v_istore_n B (lv' := [(2, .int (iI 0)), (0, .ref h), (1, .int (iI d))]) dX12_draws_1 rfl (by decide +kernel) rfl ?_
  refine v_lv [1, 2, 0] rfl ?_
  exact J2 _ σ0 0 (Nat.le_refl _) G0 F0 h6 ⟨by omega, by omega⟩
set_option maxRecDepth 100000 in
theorem c_M_draws (l : Launch) (D : va_G) (K : Nat → ClassId) {τ : Nat → Option Ty} {dom : List Nat} (Z : Sk τ dom) (zb zL : Nat) (zx : Nat → Int32) (zs : Nat → Nat) (h : Nat) (q : Nat → Nat) (Y : MS τ h q) (d : Int) (r_d : 0 ≤ d ∧ d ≤ 1) (σ0 : Nat → va_E) (G0 : GM K h q σ0) : MZ l yX12_draws wp_M_draws ({ frames := 1, cells := 0, slots := 0, locals := 21 }) D (tysA K) [.ref h, .int (iI d)] (fd dom σ0) zb zL zx zs (Qv D (fun σ' => GM K h q σ' ∧ Fr τ [(108, 0), (165, 0), (166, 0)] σ0 σ') (fun σ' => fd dom σ')) 0 0 := by
  refine mz_of (cc := cX12_draws) (maxL := 3) (ret := none) (by decide +kernel) rfl (Nat.le_of_ble_eq_true rfl) ?_
  intro p e s m below meth c A B hr hlk _ hz
  exact b_M_draws ⟨Nat.le_refl _, Nat.le_refl _⟩ B Z hz h q Y d r_d σ0 G0 (fun σ' lv pc G F hd => v_vret B hr hlk σ' ⟨G, F⟩ rfl (Nat.le_refl _) (Nat.le_refl _) hd)

def wp_M_addsDraws : List Cond := .code yX12_addsDraws cX12_addsDraws 3 none :: (([.fieldLink RX12 260 "LowEnergyModel" "pdu" "[B", .fieldLink RX12 215 "LowEnergyModel" "ownSkd" "[B", .methodLink RX12 29 yX12_copy, .static yX12_copy, .initialized RX12, .code yX12_copy cX12_copy 6 none, .fieldLink RX12 218 "LowEnergyModel" "ownIv" "[B", .methodLink RX12 436 yX12_adds, .instanceMethod yX12_adds, .selects RX12 yX12_adds yX12_adds, .code yX12_adds cX12_adds 5 none, .fieldLink RX12 191 "LowEnergyModel" "controls" "[I", .fieldLink RX12 203 "LowEnergyModel" "control" "[B", .fieldLink RX12 221 "LowEnergyModel" "controlMany" "[I"] : List Cond) ++ (wsX120 ++ ([])))
theorem hi_M_addsDraws_X12 : ∀ x ∈ u_ws RX12 TX12 123, x ∈ wp_M_addsDraws := fun _ h => List.mem_cons_of_mem _ (List.mem_append_right _ (List.mem_append_left _ h))
set_option maxRecDepth 100000 in
theorem gd_M_addsDraws_M_copy_29 : GoodIn wp_M_addsDraws (va_wsS RX12 29 yX12_copy wp_M_copy) := goodIn_app (goodIn_r _ [3, 4, 5] rfl rfl) (goodIn_ca (goodIn_r _ [6] rfl rfl) (goodIn_nil))
set_option maxRecDepth 100000 in
theorem gd_M_addsDraws_M_adds_436 : GoodIn wp_M_addsDraws (wsV RX12 436 RX12 yX12_adds wp_M_adds) := goodIn_app (goodIn_r _ [8, 9, 10, 5] rfl rfl) (goodIn_ca (goodIn_r _ [11, 12, 13, 3, 4, 5, 6, 14] rfl rfl) (goodIn_app (goodIn_cls hi_M_addsDraws_X12 gw_X12) (goodIn_nil)))
set_option maxHeartbeats 4000000 in
set_option maxRecDepth 100000 in
theorem b_M_addsDraws {p : Program} {l : Launch} {e : Env} {R : Room} {s : State} {m : MethodId} {args : Array Value} {below : List Frame} {meth : Method} {c : Code} {D : va_G} {K : Nat → ClassId} {A : Nat → Prop} {Q : State → Prop} {τ : Nat → Option Ty} {dom : List Nat} {zb zL : Nat} {zx : Nat → Int32} {zs : Nat → Nat} (hR : 2 ≤ R.frames ∧ 49 ≤ R.locals) (B : Bx p s m args c cX12_addsDraws 3 RX12 wp_M_addsDraws D (tysA K) A) (Z : Sk τ dom) (hz : ZL zb zL zx zs A s s.heap) (h : Nat) (q : Nat → Nat) (Y : MS τ h q) (d : Int) (x2 : Int) (Cn : Int) (r_d : 0 ≤ d ∧ d ≤ 1) (r_x2 : -2147483648 ≤ x2 ∧ x2 ≤ 2147483647) (r_Cn : 0 ≤ Cn ∧ Cn ≤ 5) (σ0 : Nat → va_E) (G0 : GM K h q σ0) (hC : At σ0 (q 57) (d : Int).toNat (Cn) (Cn)) (hend : ∀ (σ' : Nat → va_E) (lv : List (Nat × Value)) (pc : Nat), GM K h q σ' → Fr τ [(180, 0), (161, 0), (167, 0), (157, 0)] σ0 σ' → (At σ' (q 57) (d : Int).toNat (Cn + 1) (Cn + 1)) → decode cX12_addsDraws pc = .ok (.return_, 1) → V p l e R s m args below meth c 3 D A Q (0, 0) (fd dom σ') lv pc []) : V p l e R s m args below meth c 3 D A Q (0, 0) (fd dom σ0) [(0, .ref h), (1, .int (iI d)), (2, .int (iI x2))] 0 [] := by
  have F0 : Fr τ [(180, 0), (161, 0), (167, 0), (157, 0)] σ0 σ0 := Fr.rf
  obtain ⟨z1, z2, z3, z4, z5, h6, r7, r8, r9, r10, r11⟩ := G0.t.o
  obtain ⟨f12, h13, e14⟩ := ga_57 G0.t
  obtain ⟨z15, e16, r17⟩ := e14 (d : Int).toNat
  have r18 := hC.use h13 e16 (by omega)
  refine v_aload_n B dX12_addsDraws_0 rfl rfl ?_
  refine u_get B Z (C := RX12) (T := TX12) (N := 123) (ci := 12) hi_M_addsDraws_X12 Y.o h6 rfl 80 (by decide +kernel) (List.mem_of_getElem? (i := 1) rfl) rfl dX12_addsDraws_1 ?_
  refine v_iconst B (v := iI 0) dX12_addsDraws_4 rfl ?_
  refine v_iload_n B dX12_addsDraws_5 rfl rfl ?_
  obtain ⟨z19, e20, r21⟩ := iI_i8 x2
  refine v_i2b B (v := iI z19) dX12_addsDraws_6 e20 ?_
  obtain ⟨f22, h23, e24⟩ := ga_80 G0.t
  refine u_bast B Z (t0 := 2) (x := iI z19) (y := iI z19) (ym_80 Y) h23 rfl (by omega) (nar8 (by omega)) dX12_addsDraws_7 (fun σ25 h26 n27 => ?_)
  have F28 := F0.put (ym_80 Y) (by simp) n27
  have G29 := gp_80 Y G0 ⟨_, h26, el_upd (z := z19) e24 ⟨by omega, by omega⟩ _⟩ n27
  refine v_aload_n B dX12_addsDraws_8 rfl rfl ?_
  have h30 := (n27 h (ne_ty Y.o (ym_80 Y) (by decide))).trans (h6)
  refine u_get B Z (C := RX12) (T := TX12) (N := 123) (ci := 12) hi_M_addsDraws_X12 Y.o h30 rfl 65 (by decide +kernel) (List.mem_of_getElem? (i := 2) rfl) rfl dX12_addsDraws_9 ?_
  refine v_bipush B (v := iI 8) dX12_addsDraws_12 (by decide +kernel) ?_
  refine v_iload_n B dX12_addsDraws_14 rfl rfl ?_
  refine v_imul B (v := iI (8 * d)) dX12_addsDraws_15 ((iI_mul _ _).trans (congrArg iI (by omega))) ?_
  refine v_aload_n B dX12_addsDraws_16 rfl rfl ?_
  refine u_get B Z (C := RX12) (T := TX12) (N := 123) (ci := 12) hi_M_addsDraws_X12 Y.o h30 rfl 80 (by decide +kernel) (List.mem_of_getElem? (i := 1) rfl) rfl dX12_addsDraws_17 ?_
  refine v_iconst B (v := iI 1) dX12_addsDraws_20 rfl ?_
  refine v_bipush B (v := iI 8) dX12_addsDraws_21 (by decide +kernel) ?_
  refine u_callSv B Z hz (n := 5) (As := [.ref (q 65), .int (iI (8 * d)), .ref (q 80), .int (iI 1), .int (iI 8)]) (rest := []) (c_M_copy l D K Z _ _ _ _ h q Y 65 16 (8 * d) 80 40 1 8 rfl ⟨by omega, by omega⟩ rfl ⟨by omega, by omega⟩ ⟨by omega, by omega⟩ σ25 G29 (by omega)) gd_M_addsDraws_M_copy_29 rfl rfl rfl (by decide +kernel) ⟨Nat.le_trans (by decide +kernel) hR.1, Nat.le_trans (by decide +kernel) hR.2⟩ rfl rfl (Nat.le_of_ble_eq_true rfl) dX12_addsDraws_23 ⟨Nat.zero_le _, Nat.zero_le _⟩ (fun σ31 p32 => ?_)
  obtain ⟨G34, F35⟩ := p32
  have F36 := F28.call F35 (by first | rfl | simp)
  refine v_aload_n B dX12_addsDraws_26 rfl rfl ?_
  have h37 := (F35 h _ Y.o (by first | rfl | simp)).trans (h30)
  refine u_get B Z (C := RX12) (T := TX12) (N := 123) (ci := 12) hi_M_addsDraws_X12 Y.o h37 rfl 66 (by decide +kernel) (List.mem_of_getElem? (i := 7) rfl) rfl dX12_addsDraws_27 ?_
  refine v_iconst B (v := iI 4) dX12_addsDraws_30 rfl ?_
  refine v_iload_n B dX12_addsDraws_31 rfl rfl ?_
  refine v_imul B (v := iI (4 * d)) dX12_addsDraws_32 ((iI_mul _ _).trans (congrArg iI (by omega))) ?_
  refine v_aload_n B dX12_addsDraws_33 rfl rfl ?_
  refine u_get B Z (C := RX12) (T := TX12) (N := 123) (ci := 12) hi_M_addsDraws_X12 Y.o h37 rfl 80 (by decide +kernel) (List.mem_of_getElem? (i := 1) rfl) rfl dX12_addsDraws_34 ?_
  refine v_bipush B (v := iI 9) dX12_addsDraws_37 (by decide +kernel) ?_
  refine v_iconst B (v := iI 4) dX12_addsDraws_39 rfl ?_
  refine u_callSv B Z hz (n := 5) (As := [.ref (q 66), .int (iI (4 * d)), .ref (q 80), .int (iI 9), .int (iI 4)]) (rest := []) (c_M_copy l D K Z _ _ _ _ h q Y 66 8 (4 * d) 80 40 9 4 rfl ⟨by omega, by omega⟩ rfl ⟨by omega, by omega⟩ ⟨by omega, by omega⟩ σ31 G34 (by omega)) gd_M_addsDraws_M_copy_29 rfl rfl rfl (by decide +kernel) ⟨Nat.le_trans (by decide +kernel) hR.1, Nat.le_trans (by decide +kernel) hR.2⟩ rfl rfl (Nat.le_of_ble_eq_true rfl) dX12_addsDraws_40 ⟨Nat.zero_le _, Nat.zero_le _⟩ (fun σ38 p39 => ?_)
  obtain ⟨G41, F42⟩ := p39
  have F43 := F36.call F42 (by first | rfl | simp)
  refine v_aload_n B dX12_addsDraws_43 rfl rfl ?_
  refine v_iload_n B dX12_addsDraws_44 rfl rfl ?_
  refine v_aload_n B dX12_addsDraws_45 rfl rfl ?_
  have h44 := (F42 h _ Y.o (by first | rfl | simp)).trans (h37)
  refine u_get B Z (C := RX12) (T := TX12) (N := 123) (ci := 12) hi_M_addsDraws_X12 Y.o h44 rfl 80 (by decide +kernel) (List.mem_of_getElem? (i := 1) rfl) rfl dX12_addsDraws_46 ?_
  refine v_bipush B (v := iI 13) dX12_addsDraws_49 (by decide +kernel) ?_
  have h45 := (F42 (q 57) _ (ym_57 Y) (by first | rfl | simp)).trans ((F35 (q 57) _ (ym_57 Y) (by first | rfl | simp)).trans ((n27 (q 57) (ne_ty (ym_57 Y) (ym_80 Y) (by decide))).trans (h13)))
  refine u_callVv B Z hz (n := 3) (As := [.int (iI d), .ref (q 80), .int (iI 13)]) (rest := []) (c_M_adds l D K Z _ _ _ _ h q Y d 13 z15 ⟨by omega, by omega⟩ ⟨by omega, by omega⟩ ⟨by omega, by omega⟩ σ38 G41 (At.mk h45 e16 (by omega) ⟨by omega, by omega⟩)) gd_M_addsDraws_M_adds_436 rfl rfl rfl (by decide +kernel) ⟨Nat.le_trans (by decide +kernel) hR.1, Nat.le_trans (by decide +kernel) hR.2⟩ Y.o (clsM G41.t) rfl rfl rfl rfl (Nat.le_of_ble_eq_true rfl) dX12_addsDraws_51 ⟨Nat.zero_le _, Nat.zero_le _⟩ (fun σ46 p47 => ?_)
  obtain ⟨G50, F51, po49⟩ := p47
  have F52 := F43.call F51 (by first | rfl | simp)
  obtain ⟨f53, h54, e55⟩ := ga_57 G50.t
  obtain ⟨z56, e57, r58⟩ := e55 (d : Int).toNat
  have r59 := po49.use h54 e57 (by omega)
  exact hend σ46 _ _ G50 F52 (At.mk h54 e57 (by omega) ⟨by omega, by omega⟩) dX12_addsDraws_54
set_option maxRecDepth 100000 in
theorem c_M_addsDraws (l : Launch) (D : va_G) (K : Nat → ClassId) {τ : Nat → Option Ty} {dom : List Nat} (Z : Sk τ dom) (zb zL : Nat) (zx : Nat → Int32) (zs : Nat → Nat) (h : Nat) (q : Nat → Nat) (Y : MS τ h q) (d : Int) (x2 : Int) (Cn : Int) (r_d : 0 ≤ d ∧ d ≤ 1) (r_x2 : -2147483648 ≤ x2 ∧ x2 ≤ 2147483647) (r_Cn : 0 ≤ Cn ∧ Cn ≤ 5) (σ0 : Nat → va_E) (G0 : GM K h q σ0) (hC : At σ0 (q 57) (d : Int).toNat (Cn) (Cn)) : MZ l yX12_addsDraws wp_M_addsDraws ({ frames := 2, cells := 0, slots := 0, locals := 49 }) D (tysA K) [.ref h, .int (iI d), .int (iI x2)] (fd dom σ0) zb zL zx zs (Qv D (fun σ' => GM K h q σ' ∧ Fr τ [(180, 0), (161, 0), (167, 0), (157, 0)] σ0 σ' ∧ (At σ' (q 57) (d : Int).toNat (Cn + 1) (Cn + 1))) (fun σ' => fd dom σ')) 0 0 := by
  refine mz_of (cc := cX12_addsDraws) (maxL := 3) (ret := none) (by decide +kernel) rfl (Nat.le_of_ble_eq_true rfl) ?_
  intro p e s m below meth c A B hr hlk _ hz
  exact b_M_addsDraws ⟨Nat.le_refl _, Nat.le_refl _⟩ B Z hz h q Y d x2 Cn r_d r_x2 r_Cn σ0 G0 hC (fun σ' lv pc G F hP hd => v_vret B hr hlk σ' ⟨G, F, hP⟩ rfl (Nat.le_refl _) (Nat.le_refl _) hd)

def wp_M_version : List Cond := .code yX12_version cX12_version 2 none :: (([.fieldLink RX12 248 "LowEnergyModel" "toldVersion" "[Z", .fieldLink RX12 260 "LowEnergyModel" "pdu" "[B", .methodLink RX12 432 yX12_number, .static yX12_number, .initialized RX12, .code yX12_number cX12_number 6 none, .constantLong RX12 510 (258), .methodLink RX12 436 yX12_adds, .instanceMethod yX12_adds, .selects RX12 yX12_adds yX12_adds, .code yX12_adds cX12_adds 5 none, .fieldLink RX12 191 "LowEnergyModel" "controls" "[I", .fieldLink RX12 203 "LowEnergyModel" "control" "[B", .methodLink RX12 29 yX12_copy, .static yX12_copy, .code yX12_copy cX12_copy 6 none, .fieldLink RX12 221 "LowEnergyModel" "controlMany" "[I"] : List Cond) ++ (wsX120 ++ ([])))
theorem hi_M_version_X12 : ∀ x ∈ u_ws RX12 TX12 123, x ∈ wp_M_version := fun _ h => List.mem_cons_of_mem _ (List.mem_append_right _ (List.mem_append_left _ h))
set_option maxRecDepth 100000 in
theorem gd_M_version_M_numberP_432 : GoodIn wp_M_version (va_wsS RX12 432 yX12_number wp_M_numberP) := goodIn_app (goodIn_r _ [3, 4, 5] rfl rfl) (goodIn_ca (goodIn_r _ [6] rfl rfl) (goodIn_nil))
set_option maxRecDepth 100000 in
theorem gd_M_version_M_adds_436 : GoodIn wp_M_version (wsV RX12 436 RX12 yX12_adds wp_M_adds) := goodIn_app (goodIn_r _ [8, 9, 10, 5] rfl rfl) (goodIn_ca (goodIn_r _ [11, 12, 13, 14, 15, 5, 16, 17] rfl rfl) (goodIn_app (goodIn_cls hi_M_version_X12 gw_X12) (goodIn_nil)))
set_option maxHeartbeats 4000000 in
set_option maxRecDepth 100000 in
theorem b_M_version {p : Program} {l : Launch} {e : Env} {R : Room} {s : State} {m : MethodId} {args : Array Value} {below : List Frame} {meth : Method} {c : Code} {D : va_G} {K : Nat → ClassId} {A : Nat → Prop} {Q : State → Prop} {τ : Nat → Option Ty} {dom : List Nat} {zb zL : Nat} {zx : Nat → Int32} {zs : Nat → Nat} (hR : 2 ≤ R.frames ∧ 49 ≤ R.locals) (B : Bx p s m args c cX12_version 2 RX12 wp_M_version D (tysA K) A) (Z : Sk τ dom) (hz : ZL zb zL zx zs A s s.heap) (h : Nat) (q : Nat → Nat) (Y : MS τ h q) (d : Int) (Cn : Int) (r_d : 0 ≤ d ∧ d ≤ 1) (r_Cn : 0 ≤ Cn ∧ Cn ≤ 5) (σ0 : Nat → va_E) (G0 : GM K h q σ0) (hC : At σ0 (q 57) (d : Int).toNat (Cn) (Cn)) (hend : ∀ (σ' : Nat → va_E) (lv : List (Nat × Value)) (pc : Nat), GM K h q σ' → Fr τ [(176, 0), (180, 0), (161, 0), (167, 0), (157, 0)] σ0 σ' → (At σ' (q 57) (d : Int).toNat (0) (Cn + 1)) → decode cX12_version pc = .ok (.return_, 1) → V p l e R s m args below meth c 2 D A Q (0, 0) (fd dom σ') lv pc []) : V p l e R s m args below meth c 2 D A Q (0, 0) (fd dom σ0) [(0, .ref h), (1, .int (iI d))] 0 [] := by
  have F0 : Fr τ [(176, 0), (180, 0), (161, 0), (167, 0), (157, 0)] σ0 σ0 := Fr.rf
  obtain ⟨z1, z2, z3, z4, z5, h6, r7, r8, r9, r10, r11⟩ := G0.t.o
  obtain ⟨f12, h13, e14⟩ := ga_57 G0.t
  obtain ⟨z15, e16, r17⟩ := e14 (d : Int).toNat
  have r18 := hC.use h13 e16 (by omega)
  refine v_aload_n B dX12_version_0 rfl rfl ?_
  refine u_get B Z (C := RX12) (T := TX12) (N := 123) (ci := 12) hi_M_version_X12 Y.o h6 rfl 76 (by decide +kernel) (List.mem_of_getElem? (i := 1) rfl) rfl dX12_version_1 ?_
  refine v_iload_n B dX12_version_4 rfl rfl ?_
  obtain ⟨f19, h20, e21⟩ := ga_76 G0.t
  obtain ⟨z22, e23, r24⟩ := e21 (d : Int).toNat
  refine u_zald B Z (t0 := 3) (ym_76 Y) h20 rfl (by omega) e23 dX12_version_5 ?_
  refine u_if_eq B (tgt := 10) (by omega) dX12_version_6 (by decide +kernel) (fun c25 => ?_) (fun c25 => ?_)
  · refine v_aload_n B dX12_version_10 rfl rfl ?_
    refine u_get B Z (C := RX12) (T := TX12) (N := 123) (ci := 12) hi_M_version_X12 Y.o h6 rfl 76 (by decide +kernel) (List.mem_of_getElem? (i := 1) rfl) rfl dX12_version_11 ?_
    refine v_iload_n B dX12_version_14 rfl rfl ?_
    refine v_iconst B (v := iI 1) dX12_version_15 rfl ?_
    refine u_zast B Z (t0 := 3) (x := iI 1) (y := iI 1) (ym_76 Y) h20 rfl (by omega) (narZ (by omega)) dX12_version_16 (fun σ26 h27 n28 => ?_)
    have e29 := el_upd (z := 1) e21 ⟨by omega, by omega⟩ (d : Int).toNat
    have F30 := F0.put (ym_76 Y) (by simp) n28
    have G31 := gp_76 Y G0 ⟨_, h27, e29⟩ n28
    refine v_aload_n B dX12_version_17 rfl rfl ?_
    have h32 := (n28 h (ne_ty Y.o (ym_76 Y) (by decide))).trans (h6)
    refine u_get B Z (C := RX12) (T := TX12) (N := 123) (ci := 12) hi_M_version_X12 Y.o h32 rfl 80 (by decide +kernel) (List.mem_of_getElem? (i := 2) rfl) rfl dX12_version_18 ?_
    refine v_iconst B (v := iI 0) dX12_version_21 rfl ?_
    refine v_bipush B (v := iI 12) dX12_version_22 (by decide +kernel) ?_
    obtain ⟨f33, h34, e35⟩ := ga_80 G31.t
    refine u_bast B Z (t0 := 2) (x := iI 12) (y := iI 12) (ym_80 Y) h34 rfl (by omega) (nar8 (by omega)) dX12_version_24 (fun σ36 h37 n38 => ?_)
    have F39 := F30.put (ym_80 Y) (by simp) n38
    have G40 := gp_80 Y G31 ⟨_, h37, el_upd (z := 12) e35 ⟨by omega, by omega⟩ _⟩ n38
    refine v_aload_n B dX12_version_25 rfl rfl ?_
    have h41 := (n38 h (ne_ty Y.o (ym_80 Y) (by decide))).trans (h32)
    refine u_get B Z (C := RX12) (T := TX12) (N := 123) (ci := 12) hi_M_version_X12 Y.o h41 rfl 80 (by decide +kernel) (List.mem_of_getElem? (i := 2) rfl) rfl dX12_version_26 ?_
    refine v_iconst B (v := iI 1) dX12_version_29 rfl ?_
    refine v_bipush B (v := iI 9) dX12_version_30 (by decide +kernel) ?_
    obtain ⟨f42, h43, e44⟩ := ga_80 G40.t
    refine u_bast B Z (t0 := 2) (x := iI 9) (y := iI 9) (ym_80 Y) h43 rfl (by omega) (nar8 (by omega)) dX12_version_32 (fun σ45 h46 n47 => ?_)
    have F48 := F39.put (ym_80 Y) (by simp) n47
    have G49 := gp_80 Y G40 ⟨_, h46, el_upd (z := 9) e44 ⟨by omega, by omega⟩ _⟩ n47
    refine v_aload_n B dX12_version_33 rfl rfl ?_
    have h50 := (n47 h (ne_ty Y.o (ym_80 Y) (by decide))).trans (h41)
    refine u_get B Z (C := RX12) (T := TX12) (N := 123) (ci := 12) hi_M_version_X12 Y.o h50 rfl 80 (by decide +kernel) (List.mem_of_getElem? (i := 2) rfl) rfl dX12_version_34 ?_
    refine v_iconst B (v := iI 2) dX12_version_37 rfl ?_
    refine v_lconst B (v := lI 1) dX12_version_38 (by decide +kernel) ?_
    refine v_iconst B (v := iI 2) dX12_version_39 rfl ?_
    refine u_callSv B Z hz (n := 4) (As := [.ref (q 80), .int (iI 2), .long (lI 1), .int (iI 2)]) (rest := []) (c_M_numberP l D K Z _ _ _ _ h q Y 80 40 2 1 2 rfl ⟨by omega, by omega⟩ ⟨by omega, by omega⟩ ⟨by omega, by omega⟩ σ45 G49 (by omega)) gd_M_version_M_numberP_432 rfl rfl rfl (by decide +kernel) ⟨Nat.le_trans (by decide +kernel) hR.1, Nat.le_trans (by decide +kernel) hR.2⟩ rfl rfl (Nat.le_of_ble_eq_true rfl) dX12_version_40 ⟨Nat.zero_le _, Nat.zero_le _⟩ (fun σ51 p52 => ?_)
    obtain ⟨G54, F55⟩ := p52
    have F56 := F48.call F55 (by first | rfl | simp)
    refine v_aload_n B dX12_version_43 rfl rfl ?_
    have h57 := (F55 h _ Y.o (by first | rfl | simp)).trans (h50)
    refine u_get B Z (C := RX12) (T := TX12) (N := 123) (ci := 12) hi_M_version_X12 Y.o h57 rfl 80 (by decide +kernel) (List.mem_of_getElem? (i := 2) rfl) rfl dX12_version_44 ?_
    refine v_iconst B (v := iI 4) dX12_version_47 rfl ?_
    refine v_ldc2 B (v := lI 258) (u_cl (List.mem_of_getElem? (i := 7) rfl) (by decide +kernel)) dX12_version_48 ?_
    refine v_iconst B (v := iI 2) dX12_version_51 rfl ?_
    refine u_callSv B Z hz (n := 4) (As := [.ref (q 80), .int (iI 4), .long (lI 258), .int (iI 2)]) (rest := []) (c_M_numberP l D K Z _ _ _ _ h q Y 80 40 4 258 2 rfl ⟨by omega, by omega⟩ ⟨by omega, by omega⟩ ⟨by omega, by omega⟩ σ51 G54 (by omega)) gd_M_version_M_numberP_432 rfl rfl rfl (by decide +kernel) ⟨Nat.le_trans (by decide +kernel) hR.1, Nat.le_trans (by decide +kernel) hR.2⟩ rfl rfl (Nat.le_of_ble_eq_true rfl) dX12_version_52 ⟨Nat.zero_le _, Nat.zero_le _⟩ (fun σ58 p59 => ?_)
    obtain ⟨G61, F62⟩ := p59
    have F63 := F56.call F62 (by first | rfl | simp)
    refine v_aload_n B dX12_version_55 rfl rfl ?_
    refine v_iload_n B dX12_version_56 rfl rfl ?_
    refine v_aload_n B dX12_version_57 rfl rfl ?_
    have h64 := (F62 h _ Y.o (by first | rfl | simp)).trans (h57)
    refine u_get B Z (C := RX12) (T := TX12) (N := 123) (ci := 12) hi_M_version_X12 Y.o h64 rfl 80 (by decide +kernel) (List.mem_of_getElem? (i := 2) rfl) rfl dX12_version_58 ?_
    refine v_bipush B (v := iI 6) dX12_version_61 (by decide +kernel) ?_
    have h65 := (F62 (q 57) _ (ym_57 Y) (by first | rfl | simp)).trans ((F55 (q 57) _ (ym_57 Y) (by first | rfl | simp)).trans ((n47 (q 57) (ne_ty (ym_57 Y) (ym_80 Y) (by decide))).trans ((n38 (q 57) (ne_ty (ym_57 Y) (ym_80 Y) (by decide))).trans ((n28 (q 57) (ne_ty (ym_57 Y) (ym_76 Y) (by decide))).trans (h13)))))
    refine u_callVv B Z hz (n := 3) (As := [.int (iI d), .ref (q 80), .int (iI 6)]) (rest := []) (c_M_adds l D K Z _ _ _ _ h q Y d 6 z15 ⟨by omega, by omega⟩ ⟨by omega, by omega⟩ ⟨by omega, by omega⟩ σ58 G61 (At.mk h65 e16 (by omega) ⟨by omega, by omega⟩)) gd_M_version_M_adds_436 rfl rfl rfl (by decide +kernel) ⟨Nat.le_trans (by decide +kernel) hR.1, Nat.le_trans (by decide +kernel) hR.2⟩ Y.o (clsM G61.t) rfl rfl rfl rfl (Nat.le_of_ble_eq_true rfl) dX12_version_63 ⟨Nat.zero_le _, Nat.zero_le _⟩ (fun σ66 p67 => ?_)
    obtain ⟨G70, F71, po69⟩ := p67
    have F72 := F63.call F71 (by first | rfl | simp)
    obtain ⟨f73, h74, e75⟩ := ga_57 G70.t
    obtain ⟨z76, e77, r78⟩ := e75 (d : Int).toNat
    have r79 := po69.use h74 e77 (by omega)
    exact hend σ66 _ _ G70 F72 (At.mk h74 e77 (by omega) ⟨by omega, by omega⟩) dX12_version_66
  · exact hend σ0 _ _ G0 F0 (At.mk h13 e16 (by omega) ⟨by omega, by omega⟩) dX12_version_9
set_option maxRecDepth 100000 in
theorem c_M_version (l : Launch) (D : va_G) (K : Nat → ClassId) {τ : Nat → Option Ty} {dom : List Nat} (Z : Sk τ dom) (zb zL : Nat) (zx : Nat → Int32) (zs : Nat → Nat) (h : Nat) (q : Nat → Nat) (Y : MS τ h q) (d : Int) (Cn : Int) (r_d : 0 ≤ d ∧ d ≤ 1) (r_Cn : 0 ≤ Cn ∧ Cn ≤ 5) (σ0 : Nat → va_E) (G0 : GM K h q σ0) (hC : At σ0 (q 57) (d : Int).toNat (Cn) (Cn)) : MZ l yX12_version wp_M_version ({ frames := 2, cells := 0, slots := 0, locals := 49 }) D (tysA K) [.ref h, .int (iI d)] (fd dom σ0) zb zL zx zs (Qv D (fun σ' => GM K h q σ' ∧ Fr τ [(176, 0), (180, 0), (161, 0), (167, 0), (157, 0)] σ0 σ' ∧ (At σ' (q 57) (d : Int).toNat (0) (Cn + 1))) (fun σ' => fd dom σ')) 0 0 := by
  refine mz_of (cc := cX12_version) (maxL := 2) (ret := none) (by decide +kernel) rfl (Nat.le_of_ble_eq_true rfl) ?_
  intro p e s m below meth c A B hr hlk _ hz
  exact b_M_version ⟨Nat.le_refl _, Nat.le_refl _⟩ B Z hz h q Y d Cn r_d r_Cn σ0 G0 hC (fun σ' lv pc G F hP hd => v_vret B hr hlk σ' ⟨G, F, hP⟩ rfl (Nat.le_refl _) (Nat.le_refl _) hd)

def wp_M_ciphers : List Cond := .code yX12_ciphers cX12_ciphers 3 none :: (([.fieldLink RX12 239 "LowEnergyModel" "isSecure" "[Z", .fieldLink RX12 224 "LowEnergyModel" "held" "[Z", .methodLink RX12 504 yX12_complete_, .instanceMethod yX12_complete_, .selects RX12 yX12_complete_ yX12_complete_, .initialized RX12, .code yX12_complete_ cX12_complete_ 6 none, .fieldLink RX12 10 "LowEnergyModel" "tape" "[B", .methodLink RX12 409 yX12_complete, .instanceMethod yX12_complete, .selects RX12 yX12_complete yX12_complete, .code yX12_complete cX12_complete 11 none, .fieldLink RX12 155 "LowEnergyModel" "kept" "[I", .fieldLink RX12 158 "LowEnergyModel" "keptMany" "[I", .methodLink RX12 404 Lib.Math.min.name, .static Lib.Math.min.name, .initialized "java/lang/Math", .code Lib.Math.min.name Lib.Math.min.code 2 (some .int), .fieldLink RX12 161 "LowEnergyModel" "notKept" "[I", .fieldLink RX12 236 "LowEnergyModel" "sealsIn" "[Z", .fieldLink RX12 45 "LowEnergyModel" "state" "[I", .fieldLink RX12 233 "LowEnergyModel" "sealsOut" "[Z", .fieldLink RX12 194 "LowEnergyModel" "out" "[I", .methodLink RX12 486 yX12_adds_, .instanceMethod yX12_adds_, .selects RX12 yX12_adds_ yX12_adds_, .code yX12_adds_ cX12_adds_ 5 none, .fieldLink RX12 260 "LowEnergyModel" "pdu" "[B", .methodLink RX12 432 yX12_number, .static yX12_number, .code yX12_number cX12_number 6 none, .methodLink RX12 436 yX12_adds, .instanceMethod yX12_adds, .selects RX12 yX12_adds yX12_adds, .code yX12_adds cX12_adds 5 none, .fieldLink RX12 191 "LowEnergyModel" "controls" "[I", .fieldLink RX12 203 "LowEnergyModel" "control" "[B", .methodLink RX12 29 yX12_copy, .static yX12_copy, .code yX12_copy cX12_copy 6 none, .fieldLink RX12 221 "LowEnergyModel" "controlMany" "[I", .fieldLink RX12 230 "LowEnergyModel" "hasFour" "[Z", .fieldLink RX12 197 "LowEnergyModel" "opened" "[I", .fieldLink RX12 227 "LowEnergyModel" "asked" "[Z", .methodLink RX12 515 yX12_makesSession, .instanceMethod yX12_makesSession, .selects RX12 yX12_makesSession yX12_makesSession, .code yX12_makesSession cX12_makesSession 3 none, .fieldLink RX12 206 "LowEnergyModel" "key" "[B", .fieldLink RX12 251 "LowEnergyModel" "block" "[B", .fieldLink RX12 209 "LowEnergyModel" "session" "[B", .methodLink RX12 444 yX12_e, .instanceMethod yX12_e, .selects RX12 yX12_e yX12_e, .code yX12_e cX12_e 13 none, .fieldLink RX12 33 "LowEnergyModel" "cells" "[B", .fieldLink RX12 26 "LowEnergyModel" "round" "[B", .fieldLink RX12 36 "LowEnergyModel" "moved" "[B", .methodLink RX12 14 yX12_twice, .static yX12_twice, .code yX12_twice cX12_twice 1 (some .int), .fieldLink RX12 22 "LowEnergyModel" "box" "[I", .fieldLink RX12 242 "LowEnergyModel" "hasSession" "[Z", .fieldLink RX12 263 "LowEnergyModel" "came" "[B", .fieldLink RX12 212 "LowEnergyModel" "iv" "[B", .fieldLink RX12 218 "LowEnergyModel" "ownIv" "[B", .fieldLink RX12 215 "LowEnergyModel" "ownSkd" "[B", .fieldLink RX12 245 "LowEnergyModel" "hasKey" "[Z", .methodLink RX12 512 yX12_draws, .instanceMethod yX12_draws, .selects RX12 yX12_draws yX12_draws, .code yX12_draws cX12_draws 3 none, .methodLink RX12 480 yX12_draw, .instanceMethod yX12_draw, .selects RX12 yX12_draw yX12_draw, .code yX12_draw cX12_draw 2 (some .int), .fieldLink RX12 48 "LowEnergyModel" "x" "[I", .constant RX12 395 (1103515245), .methodLink RX12 519 yX12_addsDraws, .instanceMethod yX12_addsDraws, .selects RX12 yX12_addsDraws yX12_addsDraws, .code yX12_addsDraws cX12_addsDraws 3 none] : List Cond) ++ (wsX120 ++ ([])))
theorem hi_M_ciphers_X12 : ∀ x ∈ u_ws RX12 TX12 123, x ∈ wp_M_ciphers := fun _ h => List.mem_cons_of_mem _ (List.mem_append_right _ (List.mem_append_left _ h))
set_option maxRecDepth 100000 in
theorem gd_M_ciphers_M_complete5_504 : GoodIn wp_M_ciphers (wsV RX12 504 RX12 yX12_complete_ wp_M_complete5) := goodIn_app (goodIn_r _ [3, 4, 5, 6] rfl rfl) (goodIn_ca (goodIn_r _ [7, 8, 9, 10, 11, 6, 12, 13, 14, 15, 16, 17, 18, 19] rfl rfl) (goodIn_app (goodIn_cls hi_M_ciphers_X12 gw_X12) (goodIn_nil)))
set_option maxRecDepth 100000 in
theorem gd_M_ciphers_M_adds4_486 : GoodIn wp_M_ciphers (wsV RX12 486 RX12 yX12_adds_ wp_M_adds4) := goodIn_app (goodIn_r _ [24, 25, 26, 6] rfl rfl) (goodIn_ca (goodIn_r _ [27, 28, 29, 30, 6, 31, 32, 33, 34, 35, 36, 37, 38, 39, 40, 41] rfl rfl) (goodIn_app (goodIn_cls hi_M_ciphers_X12 gw_X12) (goodIn_nil)))
set_option maxRecDepth 100000 in
theorem gd_M_ciphers_M_makesSession_515 : GoodIn wp_M_ciphers (wsV RX12 515 RX12 yX12_makesSession wp_M_makesSession) := goodIn_app (goodIn_r _ [45, 46, 47, 6] rfl rfl) (goodIn_ca (goodIn_r _ [48, 38, 39, 6, 40, 49, 50, 51, 52, 53, 54, 55, 56, 57, 58, 59, 60, 61, 62, 63, 64, 65, 66, 67] rfl rfl) (goodIn_app (goodIn_cls hi_M_ciphers_X12 gw_X12) (goodIn_nil)))
set_option maxRecDepth 100000 in
theorem gd_M_ciphers_M_draws_512 : GoodIn wp_M_ciphers (wsV RX12 512 RX12 yX12_draws wp_M_draws) := goodIn_app (goodIn_r _ [69, 70, 71, 6] rfl rfl) (goodIn_ca (goodIn_r _ [72, 66, 73, 74, 75, 6, 76, 77, 78, 67] rfl rfl) (goodIn_app (goodIn_cls hi_M_ciphers_X12 gw_X12) (goodIn_nil)))
set_option maxRecDepth 100000 in
theorem gd_M_ciphers_M_addsDraws_519 : GoodIn wp_M_ciphers (wsV RX12 519 RX12 yX12_addsDraws wp_M_addsDraws) := goodIn_app (goodIn_r _ [79, 80, 81, 6] rfl rfl) (goodIn_ca (goodIn_r _ [82, 28, 67, 38, 39, 6, 40, 66, 32, 33, 34, 35, 36, 37, 41] rfl rfl) (goodIn_app (goodIn_cls hi_M_ciphers_X12 gw_X12) (goodIn_nil)))
set_option maxHeartbeats 4000000 in
set_option maxRecDepth 100000 in
theorem b_M_ciphers {p : Program} {l : Launch} {e : Env} {R : Room} {s : State} {m : MethodId} {args : Array Value} {below : List Frame} {meth : Method} {c : Code} {D : va_G} {K : Nat → ClassId} {A : Nat → Prop} {Q : State → Prop} {τ : Nat → Option Ty} {dom : List Nat} {zb zL : Nat} {zx : Nat → Int32} {zs : Nat → Nat} (hR : 3 ≤ R.frames ∧ 79 ≤ R.locals) (B : Bx p s m args c cX12_ciphers 3 RX12 wp_M_ciphers D (tysA K) A) (Z : Sk τ dom) (hz : ZL zb zL zx zs A s s.heap) (h : Nat) (q : Nat → Nat) (Y : MS τ h q) (d : Int) (x2 : Int) (Cn : Int) (r_d : 0 ≤ d ∧ d ≤ 1) (r_x2 : -2147483648 ≤ x2 ∧ x2 ≤ 2147483647) (r_Cn : 0 ≤ Cn ∧ Cn ≤ 4) (σ0 : Nat → va_E) (G0 : GM K h q σ0) (hC : At σ0 (q 57) (d : Int).toNat (Cn) (Cn)) (hend : ∀ (σ' : Nat → va_E) (lv : List (Nat × Value)) (pc : Nat), GM K h q σ' → Fr τ [(171, 0), (158, 0), (180, 0), (161, 0), (167, 0), (157, 0), (172, 0), (159, 0), (177, 0), (164, 0), (104, 0), (105, 0), (106, 0), (163, 0), (174, 0), (170, 0), (168, 0), (108, 0), (165, 0), (166, 0), (173, 0), (145, 0), (144, 0), (146, 0)] σ0 σ' → decode cX12_ciphers pc = .ok (.return_, 1) → V p l e R s m args below meth c 3 D A Q (0, 0) (fd dom σ') lv pc []) : V p l e R s m args below meth c 3 D A Q (0, 0) (fd dom σ0) [(0, .ref h), (1, .int (iI d)), (2, .int (iI x2))] 0 [] := by
  have F0 : Fr τ [(171, 0), (158, 0), (180, 0), (161, 0), (167, 0), (157, 0), (172, 0), (159, 0), (177, 0), (164, 0), (104, 0), (105, 0), (106, 0), (163, 0), (174, 0), (170, 0), (168, 0), (108, 0), (165, 0), (166, 0), (173, 0), (145, 0), (144, 0), (146, 0)] σ0 σ0 := Fr.rf
  obtain ⟨z1, z2, z3, z4, z5, h6, r7, r8, r9, r10, r11⟩ := G0.t.o
  obtain ⟨f12, h13, e14⟩ := ga_57 G0.t
  obtain ⟨z15, e16, r17⟩ := e14 (d : Int).toNat
  have r18 := hC.use h13 e16 (by omega)
  have J188 : ∀ (σ_188 : Nat → va_E), GM K h q σ_188 → Fr τ [(171, 0), (158, 0), (180, 0), (161, 0), (167, 0), (157, 0), (172, 0), (159, 0), (177, 0), (164, 0), (104, 0), (105, 0), (106, 0), (163, 0), (174, 0), (170, 0), (168, 0), (108, 0), (165, 0), (166, 0), (173, 0), (145, 0), (144, 0), (146, 0)] σ0 σ_188 → (σ_188 h = .inr (12, fsM q (iI z1) (iI z2) (iI z3) (iI z4) (iI z5))) → V p l e R s m args below meth c 3 D A Q (0, 0) (fd dom σ_188) [(0, .ref h), (1, .int (iI d))] 188 [] := by
    intro σ_188 G_188 F_188 hc188_h
    refine v_aload_n B dX12_ciphers_188 rfl rfl ?_
    refine u_get B Z (C := RX12) (T := TX12) (N := 123) (ci := 12) hi_M_ciphers_X12 Y.o hc188_h rfl 73 (by decide +kernel) (List.mem_of_getElem? (i := 1) rfl) rfl dX12_ciphers_189 ?_
    refine v_iload_n B dX12_ciphers_192 rfl rfl ?_
    refine v_iconst B (v := iI 1) dX12_ciphers_193 rfl ?_
    obtain ⟨f19, h20, e21⟩ := ga_73 G_188.t
    refine u_zast B Z (t0 := 3) (x := iI 1) (y := iI 1) (ym_73 Y) h20 rfl (by omega) (narZ (by omega)) dX12_ciphers_194 (fun σ22 h23 n24 => ?_)
    have e25 := el_upd (z := 1) e21 ⟨by omega, by omega⟩ (d : Int).toNat
    have F26 := F_188.put (ym_73 Y) (by simp) n24
    have G27 := gp_73 Y G_188 ⟨_, h23, e25⟩ n24
    refine v_aload_n B dX12_ciphers_195 rfl rfl ?_
    have h28 := (n24 h (ne_ty Y.o (ym_73 Y) (by decide))).trans (hc188_h)
    refine u_get B Z (C := RX12) (T := TX12) (N := 123) (ci := 12) hi_M_ciphers_X12 Y.o h28 rfl 68 (by decide +kernel) (List.mem_of_getElem? (i := 2) rfl) rfl dX12_ciphers_196 ?_
    refine v_iload_n B dX12_ciphers_199 rfl rfl ?_
    refine v_iconst B (v := iI 0) dX12_ciphers_200 rfl ?_
    obtain ⟨f29, h30, e31⟩ := ga_68 G27.t
    refine u_zast B Z (t0 := 3) (x := iI 0) (y := iI 0) (ym_68 Y) h30 rfl (by omega) (narZ (by omega)) dX12_ciphers_201 (fun σ32 h33 n34 => ?_)
    have e35 := el_upd (z := 0) e31 ⟨by omega, by omega⟩ (d : Int).toNat
    have F36 := F26.put (ym_68 Y) (by simp) n34
    have G37 := gp_68 Y G27 ⟨_, h33, e35⟩ n34
    refine v_aload_n B dX12_ciphers_202 rfl rfl ?_
    refine v_iload_n B dX12_ciphers_203 rfl rfl ?_
    refine v_bipush B (v := iI 12) dX12_ciphers_204 (by decide +kernel) ?_
    refine v_iconst B (v := iI 0) dX12_ciphers_206 rfl ?_
    refine v_iconst B (v := iI 0) dX12_ciphers_207 rfl ?_
    refine v_iconst B (v := iI 0) dX12_ciphers_208 rfl ?_
    refine u_callVv B Z hz (n := 5) (As := [.int (iI d), .int (iI 12), .int (iI 0), .int (iI 0), .int (iI 0)]) (rest := []) (c_M_complete5 l D K Z _ _ _ _ h q Y d 12 0 0 0 ⟨by omega, by omega⟩ ⟨by omega, by omega⟩ ⟨by omega, by omega⟩ ⟨by omega, by omega⟩ ⟨by omega, by omega⟩ σ32 G37) gd_M_ciphers_M_complete5_504 rfl rfl rfl (by decide +kernel) ⟨Nat.le_trans (by decide +kernel) hR.1, Nat.le_trans (by decide +kernel) hR.2⟩ Y.o (clsM G37.t) rfl rfl rfl rfl (Nat.le_of_ble_eq_true rfl) dX12_ciphers_209 ⟨Nat.zero_le _, Nat.zero_le _⟩ (fun σ38 p39 => ?_)
    obtain ⟨G41, F42⟩ := p39
    have F43 := F36.call F42 (by first | rfl | simp)
    exact hend σ38 _ _ G41 F43 dX12_ciphers_212
  refine v_iload_n B dX12_ciphers_0 rfl rfl ?_
  refine v_iconst B (v := iI 3) dX12_ciphers_1 rfl ?_
  refine u_icmp_ne B (tgt := 60) (by omega) (by omega) dX12_ciphers_2 (by decide +kernel) (fun c44 => ?_) (fun c44 => ?_)
  · refine v_iload_n B dX12_ciphers_60 rfl rfl ?_
    refine v_iconst B (v := iI 4) dX12_ciphers_61 rfl ?_
    refine u_icmp_ne B (tgt := 91) (by omega) (by omega) dX12_ciphers_62 (by decide +kernel) (fun c45 => ?_) (fun c45 => ?_)
    · refine v_iload_n B dX12_ciphers_91 rfl rfl ?_
      refine v_iconst B (v := iI 5) dX12_ciphers_92 rfl ?_
      refine u_icmp_ne B (tgt := 146) (by omega) (by omega) dX12_ciphers_93 (by decide +kernel) (fun c46 => ?_) (fun c46 => ?_)
      · refine v_aload_n B dX12_ciphers_146 rfl rfl ?_
        refine u_get B Z (C := RX12) (T := TX12) (N := 123) (ci := 12) hi_M_ciphers_X12 Y.o h6 rfl 72 (by decide +kernel) (List.mem_of_getElem? (i := 20) rfl) rfl dX12_ciphers_147 ?_
        refine v_iload_n B dX12_ciphers_150 rfl rfl ?_
        obtain ⟨f47, h48, e49⟩ := ga_72 G0.t
        obtain ⟨z50, e51, r52⟩ := e49 (d : Int).toNat
        refine u_zald B Z (t0 := 3) (ym_72 Y) h48 rfl (by omega) e51 dX12_ciphers_151 ?_
        refine u_if_eq B (tgt := 212) (by omega) dX12_ciphers_152 (by decide +kernel) (fun c53 => ?_) (fun c53 => ?_)
        · exact hend σ0 _ _ G0 F0 dX12_ciphers_212
        · refine v_aload_n B dX12_ciphers_155 rfl rfl ?_
          refine u_get B Z (C := RX12) (T := TX12) (N := 123) (ci := 12) hi_M_ciphers_X12 Y.o h6 rfl 7 (by decide +kernel) (List.mem_of_getElem? (i := 21) rfl) rfl dX12_ciphers_156 ?_
          refine v_iload_n B dX12_ciphers_159 rfl rfl ?_
          obtain ⟨f54, h55, e56⟩ := ga_7 G0.t
          obtain ⟨z57, e58, r59⟩ := e56 (d : Int).toNat
          refine u_iald B Z (t0 := 0) (ym_7 Y) h55 rfl (by omega) e58 dX12_ciphers_160 ?_
          refine v_iconst B (v := iI 5) dX12_ciphers_161 rfl ?_
          refine u_icmp_ne B (tgt := 188) (by omega) (by omega) dX12_ciphers_162 (by decide +kernel) (fun c60 => ?_) (fun c60 => ?_)
          · refine v_lv [0, 1] rfl ?_
            exact J188 σ0 G0 F0 h6
          · refine v_aload_n B dX12_ciphers_165 rfl rfl ?_
            refine u_get B Z (C := RX12) (T := TX12) (N := 123) (ci := 12) hi_M_ciphers_X12 Y.o h6 rfl 71 (by decide +kernel) (List.mem_of_getElem? (i := 22) rfl) rfl dX12_ciphers_166 ?_
            refine v_iload_n B dX12_ciphers_169 rfl rfl ?_
            refine v_iconst B (v := iI 1) dX12_ciphers_170 rfl ?_
            obtain ⟨f61, h62, e63⟩ := ga_71 G0.t
            refine u_zast B Z (t0 := 3) (x := iI 1) (y := iI 1) (ym_71 Y) h62 rfl (by omega) (narZ (by omega)) dX12_ciphers_171 (fun σ64 h65 n66 => ?_)
            have e67 := el_upd (z := 1) e63 ⟨by omega, by omega⟩ (d : Int).toNat
            have F68 := F0.put (ym_71 Y) (by simp) n66
            have G69 := gp_71 Y G0 ⟨_, h65, e67⟩ n66
            refine v_aload_n B dX12_ciphers_172 rfl rfl ?_
            have h70 := (n66 h (ne_ty Y.o (ym_71 Y) (by decide))).trans (h6)
            refine u_get B Z (C := RX12) (T := TX12) (N := 123) (ci := 12) hi_M_ciphers_X12 Y.o h70 rfl 58 (by decide +kernel) (List.mem_of_getElem? (i := 23) rfl) rfl dX12_ciphers_173 ?_
            refine v_iload_n B dX12_ciphers_176 rfl rfl ?_
            refine v_iconst B (v := iI 0) dX12_ciphers_177 rfl ?_
            obtain ⟨f71, h72, e73⟩ := ga_58 G69.t
            refine u_iast B Z (t0 := 0) (x := iI 0) (ym_58 Y) h72 rfl (by omega) dX12_ciphers_178 (fun σ74 h75 n76 => ?_)
            have e77 := el_upd (z := 0) e73 ⟨by omega, by omega⟩ (d : Int).toNat
            have F78 := F68.put (ym_58 Y) (by simp) n76
            have G79 := gp_58 Y G69 ⟨_, h75, e77⟩ n76
            refine v_aload_n B dX12_ciphers_179 rfl rfl ?_
            refine v_iload_n B dX12_ciphers_180 rfl rfl ?_
            refine v_bipush B (v := iI 6) dX12_ciphers_181 (by decide +kernel) ?_
            refine v_iconst B (v := iI 0) dX12_ciphers_183 rfl ?_
            refine v_iconst B (v := iI 0) dX12_ciphers_184 rfl ?_
            have h80 := (n76 (q 57) (ne_ty (ym_57 Y) (ym_58 Y) (by decide))).trans ((n66 (q 57) (ne_ty (ym_57 Y) (ym_71 Y) (by decide))).trans (h13))
            refine u_callVv B Z hz (n := 4) (As := [.int (iI d), .int (iI 6), .int (iI 0), .int (iI 0)]) (rest := []) (c_M_adds4 l D K Z _ _ _ _ h q Y d 6 0 0 z15 ⟨by omega, by omega⟩ ⟨by omega, by omega⟩ ⟨by omega, by omega⟩ ⟨by omega, by omega⟩ ⟨by omega, by omega⟩ σ74 G79 (At.mk h80 e16 (by omega) ⟨by omega, by omega⟩)) gd_M_ciphers_M_adds4_486 rfl rfl rfl (by decide +kernel) ⟨Nat.le_trans (by decide +kernel) hR.1, Nat.le_trans (by decide +kernel) hR.2⟩ Y.o (clsM G79.t) rfl rfl rfl rfl (Nat.le_of_ble_eq_true rfl) dX12_ciphers_185 ⟨Nat.zero_le _, Nat.zero_le _⟩ (fun σ81 p82 => ?_)
            obtain ⟨G85, F86, po84⟩ := p82
            have F87 := F78.call F86 (by first | rfl | simp)
            obtain ⟨f88, h89, e90⟩ := ga_57 G85.t
            obtain ⟨z91, e92, r93⟩ := e90 (d : Int).toNat
            have r94 := po84.use h89 e92 (by omega)
            refine v_lv [0, 1] rfl ?_
            have h95 := (F86 h _ Y.o (by first | rfl | simp)).trans ((n76 h (ne_ty Y.o (ym_58 Y) (by decide))).trans (h70))
            exact J188 σ81 G85 F87 h95
      · refine v_aload_n B dX12_ciphers_96 rfl rfl ?_
        refine u_get B Z (C := RX12) (T := TX12) (N := 123) (ci := 12) hi_M_ciphers_X12 Y.o h6 rfl 70 (by decide +kernel) (List.mem_of_getElem? (i := 42) rfl) rfl dX12_ciphers_97 ?_
        refine v_iload_n B dX12_ciphers_100 rfl rfl ?_
        obtain ⟨f96, h97, e98⟩ := ga_70 G0.t
        obtain ⟨z99, e100, r101⟩ := e98 (d : Int).toNat
        refine u_zald B Z (t0 := 3) (ym_70 Y) h97 rfl (by omega) e100 dX12_ciphers_101 ?_
        refine u_if_ne B (tgt := 106) (by omega) dX12_ciphers_102 (by decide +kernel) (fun c102 => ?_) (fun c102 => ?_)
        · refine v_aload_n B dX12_ciphers_106 rfl rfl ?_
          refine u_get B Z (C := RX12) (T := TX12) (N := 123) (ci := 12) hi_M_ciphers_X12 Y.o h6 rfl 71 (by decide +kernel) (List.mem_of_getElem? (i := 22) rfl) rfl dX12_ciphers_107 ?_
          refine v_iload_n B dX12_ciphers_110 rfl rfl ?_
          refine v_iconst B (v := iI 1) dX12_ciphers_111 rfl ?_
          obtain ⟨f103, h104, e105⟩ := ga_71 G0.t
          refine u_zast B Z (t0 := 3) (x := iI 1) (y := iI 1) (ym_71 Y) h104 rfl (by omega) (narZ (by omega)) dX12_ciphers_112 (fun σ106 h107 n108 => ?_)
          have e109 := el_upd (z := 1) e105 ⟨by omega, by omega⟩ (d : Int).toNat
          have F110 := F0.put (ym_71 Y) (by simp) n108
          have G111 := gp_71 Y G0 ⟨_, h107, e109⟩ n108
          refine v_aload_n B dX12_ciphers_113 rfl rfl ?_
          have h112 := (n108 h (ne_ty Y.o (ym_71 Y) (by decide))).trans (h6)
          refine u_get B Z (C := RX12) (T := TX12) (N := 123) (ci := 12) hi_M_ciphers_X12 Y.o h112 rfl 72 (by decide +kernel) (List.mem_of_getElem? (i := 20) rfl) rfl dX12_ciphers_114 ?_
          refine v_iload_n B dX12_ciphers_117 rfl rfl ?_
          refine v_iconst B (v := iI 1) dX12_ciphers_118 rfl ?_
          obtain ⟨f113, h114, e115⟩ := ga_72 G111.t
          refine u_zast B Z (t0 := 3) (x := iI 1) (y := iI 1) (ym_72 Y) h114 rfl (by omega) (narZ (by omega)) dX12_ciphers_119 (fun σ116 h117 n118 => ?_)
          have e119 := el_upd (z := 1) e115 ⟨by omega, by omega⟩ (d : Int).toNat
          have F120 := F110.put (ym_72 Y) (by simp) n118
          have G121 := gp_72 Y G111 ⟨_, h117, e119⟩ n118
          refine v_aload_n B dX12_ciphers_120 rfl rfl ?_
          have h122 := (n118 h (ne_ty Y.o (ym_72 Y) (by decide))).trans (h112)
          refine u_get B Z (C := RX12) (T := TX12) (N := 123) (ci := 12) hi_M_ciphers_X12 Y.o h122 rfl 58 (by decide +kernel) (List.mem_of_getElem? (i := 23) rfl) rfl dX12_ciphers_121 ?_
          refine v_iload_n B dX12_ciphers_124 rfl rfl ?_
          refine v_iconst B (v := iI 0) dX12_ciphers_125 rfl ?_
          obtain ⟨f123, h124, e125⟩ := ga_58 G121.t
          refine u_iast B Z (t0 := 0) (x := iI 0) (ym_58 Y) h124 rfl (by omega) dX12_ciphers_126 (fun σ126 h127 n128 => ?_)
          have e129 := el_upd (z := 0) e125 ⟨by omega, by omega⟩ (d : Int).toNat
          have F130 := F120.put (ym_58 Y) (by simp) n128
          have G131 := gp_58 Y G121 ⟨_, h127, e129⟩ n128
          refine v_aload_n B dX12_ciphers_127 rfl rfl ?_
          have h132 := (n128 h (ne_ty Y.o (ym_58 Y) (by decide))).trans (h122)
          refine u_get B Z (C := RX12) (T := TX12) (N := 123) (ci := 12) hi_M_ciphers_X12 Y.o h132 rfl 59 (by decide +kernel) (List.mem_of_getElem? (i := 43) rfl) rfl dX12_ciphers_128 ?_
          refine v_iload_n B dX12_ciphers_131 rfl rfl ?_
          refine v_iconst B (v := iI 0) dX12_ciphers_132 rfl ?_
          obtain ⟨f133, h134, e135⟩ := ga_59 G131.t
          refine u_iast B Z (t0 := 0) (x := iI 0) (ym_59 Y) h134 rfl (by omega) dX12_ciphers_133 (fun σ136 h137 n138 => ?_)
          have e139 := el_upd (z := 0) e135 ⟨by omega, by omega⟩ (d : Int).toNat
          have F140 := F130.put (ym_59 Y) (by simp) n138
          have G141 := gp_59 Y G131 ⟨_, h137, e139⟩ n138
          refine v_aload_n B dX12_ciphers_134 rfl rfl ?_
          refine v_iload_n B dX12_ciphers_135 rfl rfl ?_
          refine v_bipush B (v := iI 6) dX12_ciphers_136 (by decide +kernel) ?_
          refine v_iconst B (v := iI 0) dX12_ciphers_138 rfl ?_
          refine v_iconst B (v := iI 0) dX12_ciphers_139 rfl ?_
          have h142 := (n138 (q 57) (ne_ty (ym_57 Y) (ym_59 Y) (by decide))).trans ((n128 (q 57) (ne_ty (ym_57 Y) (ym_58 Y) (by decide))).trans ((n118 (q 57) (ne_ty (ym_57 Y) (ym_72 Y) (by decide))).trans ((n108 (q 57) (ne_ty (ym_57 Y) (ym_71 Y) (by decide))).trans (h13))))
          refine u_callVv B Z hz (n := 4) (As := [.int (iI d), .int (iI 6), .int (iI 0), .int (iI 0)]) (rest := []) (c_M_adds4 l D K Z _ _ _ _ h q Y d 6 0 0 z15 ⟨by omega, by omega⟩ ⟨by omega, by omega⟩ ⟨by omega, by omega⟩ ⟨by omega, by omega⟩ ⟨by omega, by omega⟩ σ136 G141 (At.mk h142 e16 (by omega) ⟨by omega, by omega⟩)) gd_M_ciphers_M_adds4_486 rfl rfl rfl (by decide +kernel) ⟨Nat.le_trans (by decide +kernel) hR.1, Nat.le_trans (by decide +kernel) hR.2⟩ Y.o (clsM G141.t) rfl rfl rfl rfl (Nat.le_of_ble_eq_true rfl) dX12_ciphers_140 ⟨Nat.zero_le _, Nat.zero_le _⟩ (fun σ143 p144 => ?_)
          obtain ⟨G147, F148, po146⟩ := p144
          have F149 := F140.call F148 (by first | rfl | simp)
          obtain ⟨f150, h151, e152⟩ := ga_57 G147.t
          obtain ⟨z153, e154, r155⟩ := e152 (d : Int).toNat
          have r156 := po146.use h151 e154 (by omega)
          refine v_goto B (tgt := 212) dX12_ciphers_143 (by decide +kernel) ?_
          exact hend σ143 _ _ G147 F149 dX12_ciphers_212
        · exact hend σ0 _ _ G0 F0 dX12_ciphers_105
    · refine v_aload_n B dX12_ciphers_65 rfl rfl ?_
      refine u_get B Z (C := RX12) (T := TX12) (N := 123) (ci := 12) hi_M_ciphers_X12 Y.o h6 rfl 69 (by decide +kernel) (List.mem_of_getElem? (i := 44) rfl) rfl dX12_ciphers_66 ?_
      refine v_iload_n B dX12_ciphers_69 rfl rfl ?_
      obtain ⟨f157, h158, e159⟩ := ga_69 G0.t
      obtain ⟨z160, e161, r162⟩ := e159 (d : Int).toNat
      refine u_zald B Z (t0 := 3) (ym_69 Y) h158 rfl (by omega) e161 dX12_ciphers_70 ?_
      refine u_if_ne B (tgt := 75) (by omega) dX12_ciphers_71 (by decide +kernel) (fun c163 => ?_) (fun c163 => ?_)
      · refine v_aload_n B dX12_ciphers_75 rfl rfl ?_
        refine v_iload_n B dX12_ciphers_76 rfl rfl ?_
        refine v_iconst B (v := iI 1) dX12_ciphers_77 rfl ?_
        refine u_callVv B Z hz (n := 2) (As := [.int (iI d), .int (iI 1)]) (rest := []) (c_M_makesSession l D K Z _ _ _ _ h q Y d 1 ⟨by omega, by omega⟩ ⟨by omega, by omega⟩ σ0 G0) gd_M_ciphers_M_makesSession_515 rfl rfl rfl (by decide +kernel) ⟨Nat.le_trans (by decide +kernel) hR.1, Nat.le_trans (by decide +kernel) hR.2⟩ Y.o (clsM G0.t) rfl rfl rfl rfl (Nat.le_of_ble_eq_true rfl) dX12_ciphers_78 ⟨Nat.zero_le _, Nat.zero_le _⟩ (fun σ164 p165 => ?_)
        obtain ⟨G167, F168⟩ := p165
        have F169 := F0.call F168 (by first | rfl | simp)
        refine v_aload_n B dX12_ciphers_81 rfl rfl ?_
        have h170 := (F168 h _ Y.o (by first | rfl | simp)).trans (h6)
        refine u_get B Z (C := RX12) (T := TX12) (N := 123) (ci := 12) hi_M_ciphers_X12 Y.o h170 rfl 70 (by decide +kernel) (List.mem_of_getElem? (i := 42) rfl) rfl dX12_ciphers_82 ?_
        refine v_iload_n B dX12_ciphers_85 rfl rfl ?_
        refine v_iconst B (v := iI 1) dX12_ciphers_86 rfl ?_
        obtain ⟨f171, h172, e173⟩ := ga_70 G167.t
        refine u_zast B Z (t0 := 3) (x := iI 1) (y := iI 1) (ym_70 Y) h172 rfl (by omega) (narZ (by omega)) dX12_ciphers_87 (fun σ174 h175 n176 => ?_)
        have e177 := el_upd (z := 1) e173 ⟨by omega, by omega⟩ (d : Int).toNat
        have F178 := F169.put (ym_70 Y) (by simp) n176
        have G179 := gp_70 Y G167 ⟨_, h175, e177⟩ n176
        refine v_goto B (tgt := 212) dX12_ciphers_88 (by decide +kernel) ?_
        exact hend σ174 _ _ G179 F178 dX12_ciphers_212
      · exact hend σ0 _ _ G0 F0 dX12_ciphers_74
  · refine v_aload_n B dX12_ciphers_5 rfl rfl ?_
    refine u_get B Z (C := RX12) (T := TX12) (N := 123) (ci := 12) hi_M_ciphers_X12 Y.o h6 rfl 75 (by decide +kernel) (List.mem_of_getElem? (i := 68) rfl) rfl dX12_ciphers_6 ?_
    refine v_iload_n B dX12_ciphers_9 rfl rfl ?_
    obtain ⟨f180, h181, e182⟩ := ga_75 G0.t
    obtain ⟨z183, e184, r185⟩ := e182 (d : Int).toNat
    refine u_zald B Z (t0 := 3) (ym_75 Y) h181 rfl (by omega) e184 dX12_ciphers_10 ?_
    refine u_if_ne B (tgt := 25) (by omega) dX12_ciphers_11 (by decide +kernel) (fun c186 => ?_) (fun c186 => ?_)
    · refine v_aload_n B dX12_ciphers_25 rfl rfl ?_
      refine u_get B Z (C := RX12) (T := TX12) (N := 123) (ci := 12) hi_M_ciphers_X12 Y.o h6 rfl 68 (by decide +kernel) (List.mem_of_getElem? (i := 2) rfl) rfl dX12_ciphers_26 ?_
      refine v_iload_n B dX12_ciphers_29 rfl rfl ?_
      refine v_iconst B (v := iI 1) dX12_ciphers_30 rfl ?_
      obtain ⟨f187, h188, e189⟩ := ga_68 G0.t
      refine u_zast B Z (t0 := 3) (x := iI 1) (y := iI 1) (ym_68 Y) h188 rfl (by omega) (narZ (by omega)) dX12_ciphers_31 (fun σ190 h191 n192 => ?_)
      have e193 := el_upd (z := 1) e189 ⟨by omega, by omega⟩ (d : Int).toNat
      have F194 := F0.put (ym_68 Y) (by simp) n192
      have G195 := gp_68 Y G0 ⟨_, h191, e193⟩ n192
      refine v_aload_n B dX12_ciphers_32 rfl rfl ?_
      refine v_iload_n B dX12_ciphers_33 rfl rfl ?_
      refine u_callVv B Z hz (n := 1) (As := [.int (iI d)]) (rest := []) (c_M_draws l D K Z _ _ _ _ h q Y d ⟨by omega, by omega⟩ σ190 G195) gd_M_ciphers_M_draws_512 rfl rfl rfl (by decide +kernel) ⟨Nat.le_trans (by decide +kernel) hR.1, Nat.le_trans (by decide +kernel) hR.2⟩ Y.o (clsM G195.t) rfl rfl rfl rfl (Nat.le_of_ble_eq_true rfl) dX12_ciphers_34 ⟨Nat.zero_le _, Nat.zero_le _⟩ (fun σ196 p197 => ?_)
      obtain ⟨G199, F200⟩ := p197
      have F201 := F194.call F200 (by first | rfl | simp)
      refine v_aload_n B dX12_ciphers_37 rfl rfl ?_
      refine v_iload_n B dX12_ciphers_38 rfl rfl ?_
      refine v_iconst B (v := iI 0) dX12_ciphers_39 rfl ?_
      refine u_callVv B Z hz (n := 2) (As := [.int (iI d), .int (iI 0)]) (rest := []) (c_M_makesSession l D K Z _ _ _ _ h q Y d 0 ⟨by omega, by omega⟩ ⟨by omega, by omega⟩ σ196 G199) gd_M_ciphers_M_makesSession_515 rfl rfl rfl (by decide +kernel) ⟨Nat.le_trans (by decide +kernel) hR.1, Nat.le_trans (by decide +kernel) hR.2⟩ Y.o (clsM G199.t) rfl rfl rfl rfl (Nat.le_of_ble_eq_true rfl) dX12_ciphers_40 ⟨Nat.zero_le _, Nat.zero_le _⟩ (fun σ202 p203 => ?_)
      obtain ⟨G205, F206⟩ := p203
      have F207 := F201.call F206 (by first | rfl | simp)
      refine v_aload_n B dX12_ciphers_43 rfl rfl ?_
      refine v_iload_n B dX12_ciphers_44 rfl rfl ?_
      refine v_iconst B (v := iI 4) dX12_ciphers_45 rfl ?_
      have h208 := (F206 (q 57) _ (ym_57 Y) (by first | rfl | simp)).trans ((F200 (q 57) _ (ym_57 Y) (by first | rfl | simp)).trans ((n192 (q 57) (ne_ty (ym_57 Y) (ym_68 Y) (by decide))).trans (h13)))
      refine u_callVv B Z hz (n := 2) (As := [.int (iI d), .int (iI 4)]) (rest := []) (c_M_addsDraws l D K Z _ _ _ _ h q Y d 4 z15 ⟨by omega, by omega⟩ ⟨by omega, by omega⟩ ⟨by omega, by omega⟩ σ202 G205 (At.mk h208 e16 (by omega) ⟨by omega, by omega⟩)) gd_M_ciphers_M_addsDraws_519 rfl rfl rfl (by decide +kernel) ⟨Nat.le_trans (by decide +kernel) hR.1, Nat.le_trans (by decide +kernel) hR.2⟩ Y.o (clsM G205.t) rfl rfl rfl rfl (Nat.le_of_ble_eq_true rfl) dX12_ciphers_46 ⟨Nat.zero_le _, Nat.zero_le _⟩ (fun σ209 p210 => ?_)
      obtain ⟨G213, F214, po212⟩ := p210
      have F215 := F207.call F214 (by first | rfl | simp)
      obtain ⟨f216, h217, e218⟩ := ga_57 G213.t
      obtain ⟨z219, e220, r221⟩ := e218 (d : Int).toNat
      have r222 := po212.use h217 e220 (by omega)
      refine v_aload_n B dX12_ciphers_49 rfl rfl ?_
      refine v_iload_n B dX12_ciphers_50 rfl rfl ?_
      refine v_iconst B (v := iI 5) dX12_ciphers_51 rfl ?_
      refine v_iconst B (v := iI 0) dX12_ciphers_52 rfl ?_
      refine v_iconst B (v := iI 0) dX12_ciphers_53 rfl ?_
      refine u_callVv B Z hz (n := 4) (As := [.int (iI d), .int (iI 5), .int (iI 0), .int (iI 0)]) (rest := []) (c_M_adds4 l D K Z _ _ _ _ h q Y d 5 0 0 z219 ⟨by omega, by omega⟩ ⟨by omega, by omega⟩ ⟨by omega, by omega⟩ ⟨by omega, by omega⟩ ⟨by omega, by omega⟩ σ209 G213 (At.mk h217 e220 (by omega) ⟨by omega, by omega⟩)) gd_M_ciphers_M_adds4_486 rfl rfl rfl (by decide +kernel) ⟨Nat.le_trans (by decide +kernel) hR.1, Nat.le_trans (by decide +kernel) hR.2⟩ Y.o (clsM G213.t) rfl rfl rfl rfl (Nat.le_of_ble_eq_true rfl) dX12_ciphers_54 ⟨Nat.zero_le _, Nat.zero_le _⟩ (fun σ223 p224 => ?_)
      obtain ⟨G227, F228, po226⟩ := p224
      have F229 := F215.call F228 (by first | rfl | simp)
      obtain ⟨f230, h231, e232⟩ := ga_57 G227.t
      obtain ⟨z233, e234, r235⟩ := e232 (d : Int).toNat
      have r236 := po226.use h231 e234 (by omega)
      refine v_goto B (tgt := 212) dX12_ciphers_57 (by decide +kernel) ?_
      exact hend σ223 _ _ G227 F229 dX12_ciphers_212
    · refine v_aload_n B dX12_ciphers_14 rfl rfl ?_
      refine v_iload_n B dX12_ciphers_15 rfl rfl ?_
      refine v_bipush B (v := iI 13) dX12_ciphers_16 (by decide +kernel) ?_
      refine v_bipush B (v := iI 6) dX12_ciphers_18 (by decide +kernel) ?_
      refine v_iconst B (v := iI 1) dX12_ciphers_20 rfl ?_
      refine u_callVv B Z hz (n := 4) (As := [.int (iI d), .int (iI 13), .int (iI 6), .int (iI 1)]) (rest := []) (c_M_adds4 l D K Z _ _ _ _ h q Y d 13 6 1 z15 ⟨by omega, by omega⟩ ⟨by omega, by omega⟩ ⟨by omega, by omega⟩ ⟨by omega, by omega⟩ ⟨by omega, by omega⟩ σ0 G0 (At.mk h13 e16 (by omega) ⟨by omega, by omega⟩)) gd_M_ciphers_M_adds4_486 rfl rfl rfl (by decide +kernel) ⟨Nat.le_trans (by decide +kernel) hR.1, Nat.le_trans (by decide +kernel) hR.2⟩ Y.o (clsM G0.t) rfl rfl rfl rfl (Nat.le_of_ble_eq_true rfl) dX12_ciphers_21 ⟨Nat.zero_le _, Nat.zero_le _⟩ (fun σ237 p238 => ?_)
      obtain ⟨G241, F242, po240⟩ := p238
      have F243 := F0.call F242 (by first | rfl | simp)
      obtain ⟨f244, h245, e246⟩ := ga_57 G241.t
      obtain ⟨z247, e248, r249⟩ := e246 (d : Int).toNat
      have r250 := po240.use h245 e248 (by omega)
      exact hend σ237 _ _ G241 F243 dX12_ciphers_24
set_option maxRecDepth 100000 in
theorem c_M_ciphers (l : Launch) (D : va_G) (K : Nat → ClassId) {τ : Nat → Option Ty} {dom : List Nat} (Z : Sk τ dom) (zb zL : Nat) (zx : Nat → Int32) (zs : Nat → Nat) (h : Nat) (q : Nat → Nat) (Y : MS τ h q) (d : Int) (x2 : Int) (Cn : Int) (r_d : 0 ≤ d ∧ d ≤ 1) (r_x2 : -2147483648 ≤ x2 ∧ x2 ≤ 2147483647) (r_Cn : 0 ≤ Cn ∧ Cn ≤ 4) (σ0 : Nat → va_E) (G0 : GM K h q σ0) (hC : At σ0 (q 57) (d : Int).toNat (Cn) (Cn)) : MZ l yX12_ciphers wp_M_ciphers ({ frames := 3, cells := 0, slots := 0, locals := 79 }) D (tysA K) [.ref h, .int (iI d), .int (iI x2)] (fd dom σ0) zb zL zx zs (Qv D (fun σ' => GM K h q σ' ∧ Fr τ [(171, 0), (158, 0), (180, 0), (161, 0), (167, 0), (157, 0), (172, 0), (159, 0), (177, 0), (164, 0), (104, 0), (105, 0), (106, 0), (163, 0), (174, 0), (170, 0), (168, 0), (108, 0), (165, 0), (166, 0), (173, 0), (145, 0), (144, 0), (146, 0)] σ0 σ') (fun σ' => fd dom σ')) 0 0 := by
  refine mz_of (cc := cX12_ciphers) (maxL := 3) (ret := none) (by decide +kernel) rfl (Nat.le_of_ble_eq_true rfl) ?_
  intro p e s m below meth c A B hr hlk _ hz
  exact b_M_ciphers ⟨Nat.le_refl _, Nat.le_refl _⟩ B Z hz h q Y d x2 Cn r_d r_x2 r_Cn σ0 G0 hC (fun σ' lv pc G F hd => v_vret B hr hlk σ' ⟨G, F⟩ rfl (Nat.le_refl _) (Nat.le_refl _) hd)

def wp_M_controlled : List Cond := .code yX12_controlled cX12_controlled 8 none :: (([.methodLink RX12 459 yX12_reasons, .instanceMethod yX12_reasons, .selects RX12 yX12_reasons yX12_reasons, .initialized RX12, .code yX12_reasons cX12_reasons 3 none, .fieldLink RX12 133 "LowEnergyModel" "reason" "[I", .fieldLink RX12 263 "LowEnergyModel" "came" "[B", .methodLink RX12 489 yX12_two, .static yX12_two, .code yX12_two cX12_two 2 (some .int), .fieldLink RX12 112 "LowEnergyModel" "event" "[I", .constant RX12 493 (65535), .fieldLink RX12 73 "LowEnergyModel" "newMap" "[J", .methodLink RX12 494 yX12_number_, .static yX12_number_, .code yX12_number_ cX12_number_ 6 (some .long), .fieldLink RX12 139 "LowEnergyModel" "instant" "[I", .fieldLink RX12 149 "LowEnergyModel" "mapWaits" "[Z", .methodLink RX12 497 yX12_isMap, .static yX12_isMap, .code yX12_isMap cX12_isMap 2 (some .boolean), .constantLong RX12 396 (137438953472), .methodLink RX12 398 yJ13_bitCount_95d88, .static yJ13_bitCount_95d88, .initialized RJ13, .code yJ13_bitCount_95d88 cJ13_bitCount_95d88 2 (some .int), .constantLong RJ13 314 (6148914691236517205), .constantLong RJ13 316 (3689348814741910323), .constantLong RJ13 318 (1085102592571150095), .fieldLink RX12 136 "LowEnergyModel" "ending" "[I", .fieldLink RX12 239 "LowEnergyModel" "isSecure" "[Z", .methodLink RX12 501 yX12_ciphers, .instanceMethod yX12_ciphers, .selects RX12 yX12_ciphers yX12_ciphers, .code yX12_ciphers cX12_ciphers 3 none, .fieldLink RX12 224 "LowEnergyModel" "held" "[Z", .methodLink RX12 504 yX12_complete_, .instanceMethod yX12_complete_, .selects RX12 yX12_complete_ yX12_complete_, .code yX12_complete_ cX12_complete_ 6 none, .fieldLink RX12 10 "LowEnergyModel" "tape" "[B", .methodLink RX12 409 yX12_complete, .instanceMethod yX12_complete, .selects RX12 yX12_complete yX12_complete, .code yX12_complete cX12_complete 11 none, .fieldLink RX12 155 "LowEnergyModel" "kept" "[I", .fieldLink RX12 158 "LowEnergyModel" "keptMany" "[I", .methodLink RX12 404 Lib.Math.min.name, .static Lib.Math.min.name, .initialized "java/lang/Math", .code Lib.Math.min.name Lib.Math.min.code 2 (some .int), .fieldLink RX12 161 "LowEnergyModel" "notKept" "[I", .fieldLink RX12 236 "LowEnergyModel" "sealsIn" "[Z", .fieldLink RX12 45 "LowEnergyModel" "state" "[I", .fieldLink RX12 233 "LowEnergyModel" "sealsOut" "[Z", .fieldLink RX12 194 "LowEnergyModel" "out" "[I", .methodLink RX12 486 yX12_adds_, .instanceMethod yX12_adds_, .selects RX12 yX12_adds_ yX12_adds_, .code yX12_adds_ cX12_adds_ 5 none, .fieldLink RX12 260 "LowEnergyModel" "pdu" "[B", .methodLink RX12 432 yX12_number, .static yX12_number, .code yX12_number cX12_number 6 none, .methodLink RX12 436 yX12_adds, .instanceMethod yX12_adds, .selects RX12 yX12_adds yX12_adds, .code yX12_adds cX12_adds 5 none, .fieldLink RX12 191 "LowEnergyModel" "controls" "[I", .fieldLink RX12 203 "LowEnergyModel" "control" "[B", .methodLink RX12 29 yX12_copy, .static yX12_copy, .code yX12_copy cX12_copy 6 none, .fieldLink RX12 221 "LowEnergyModel" "controlMany" "[I", .fieldLink RX12 230 "LowEnergyModel" "hasFour" "[Z", .fieldLink RX12 197 "LowEnergyModel" "opened" "[I", .fieldLink RX12 227 "LowEnergyModel" "asked" "[Z", .methodLink RX12 515 yX12_makesSession, .instanceMethod yX12_makesSession, .selects RX12 yX12_makesSession yX12_makesSession, .code yX12_makesSession cX12_makesSession 3 none, .fieldLink RX12 206 "LowEnergyModel" "key" "[B", .fieldLink RX12 251 "LowEnergyModel" "block" "[B", .fieldLink RX12 209 "LowEnergyModel" "session" "[B", .methodLink RX12 444 yX12_e, .instanceMethod yX12_e, .selects RX12 yX12_e yX12_e, .code yX12_e cX12_e 13 none, .fieldLink RX12 33 "LowEnergyModel" "cells" "[B", .fieldLink RX12 26 "LowEnergyModel" "round" "[B", .fieldLink RX12 36 "LowEnergyModel" "moved" "[B", .methodLink RX12 14 yX12_twice, .static yX12_twice, .code yX12_twice cX12_twice 1 (some .int), .fieldLink RX12 22 "LowEnergyModel" "box" "[I", .fieldLink RX12 242 "LowEnergyModel" "hasSession" "[Z", .fieldLink RX12 212 "LowEnergyModel" "iv" "[B", .fieldLink RX12 218 "LowEnergyModel" "ownIv" "[B", .fieldLink RX12 215 "LowEnergyModel" "ownSkd" "[B", .fieldLink RX12 245 "LowEnergyModel" "hasKey" "[Z", .methodLink RX12 512 yX12_draws, .instanceMethod yX12_draws, .selects RX12 yX12_draws yX12_draws, .code yX12_draws cX12_draws 3 none, .methodLink RX12 480 yX12_draw, .instanceMethod yX12_draw, .selects RX12 yX12_draw yX12_draw, .code yX12_draw cX12_draw 2 (some .int), .fieldLink RX12 48 "LowEnergyModel" "x" "[I", .constant RX12 395 (1103515245), .methodLink RX12 519 yX12_addsDraws, .instanceMethod yX12_addsDraws, .selects RX12 yX12_addsDraws yX12_addsDraws, .code yX12_addsDraws cX12_addsDraws 3 none, .fieldLink RX12 76 "LowEnergyModel" "features" "[J", .methodLink RX12 507 yX12_version, .instanceMethod yX12_version, .selects RX12 yX12_version yX12_version, .code yX12_version cX12_version 2 none, .fieldLink RX12 248 "LowEnergyModel" "toldVersion" "[Z", .constantLong RX12 510 (258), .methodLink RX12 483 yX12_bytesOf, .static yX12_bytesOf, .code yX12_bytesOf cX12_bytesOf 1 (some .int)] : List Cond) ++ (wsX120 ++ ([])))
theorem hi_M_controlled_X12 : ∀ x ∈ u_ws RX12 TX12 123, x ∈ wp_M_controlled := fun _ h => List.mem_cons_of_mem _ (List.mem_append_right _ (List.mem_append_left _ h))
set_option maxRecDepth 100000 in
theorem gd_M_controlled_M_reasons_459 : GoodIn wp_M_controlled (wsV RX12 459 RX12 yX12_reasons wp_M_reasons) := goodIn_app (goodIn_r _ [1, 2, 3, 4] rfl rfl) (goodIn_ca (goodIn_r _ [5, 6] rfl rfl) (goodIn_app (goodIn_cls hi_M_controlled_X12 gw_X12) (goodIn_nil)))
set_option maxRecDepth 100000 in
theorem gd_M_controlled_M_two_489 : GoodIn wp_M_controlled (va_wsS RX12 489 yX12_two wp_M_two) := goodIn_app (goodIn_r _ [8, 9, 4] rfl rfl) (goodIn_ca (goodIn_r _ [10] rfl rfl) (goodIn_nil))
set_option maxRecDepth 100000 in
theorem gd_M_controlled_M_numberG_494 : GoodIn wp_M_controlled (va_wsS RX12 494 yX12_number_ wp_M_numberG) := goodIn_app (goodIn_r _ [14, 15, 4] rfl rfl) (goodIn_ca (goodIn_r _ [16] rfl rfl) (goodIn_nil))
set_option maxRecDepth 100000 in
theorem gd_M_controlled_M_isMap_497 : GoodIn wp_M_controlled (va_wsS RX12 497 yX12_isMap wp_M_isMap) := goodIn_app (goodIn_r _ [19, 20, 4] rfl rfl) (goodIn_ca (goodIn_r _ [21, 22, 23, 24, 25, 26, 27, 28, 29] rfl rfl) (goodIn_nil))
set_option maxRecDepth 100000 in
theorem gd_M_controlled_M_ciphers_501 : GoodIn wp_M_controlled (wsV RX12 501 RX12 yX12_ciphers wp_M_ciphers) := goodIn_app (goodIn_r _ [32, 33, 34, 4] rfl rfl) (goodIn_ca (goodIn_r _ [35, 31, 36, 37, 38, 39, 4, 40, 41, 42, 43, 44, 45, 46, 47, 48, 49, 50, 51, 52, 53, 54, 55, 56, 57, 58, 59, 60, 61, 62, 63, 64, 65, 66, 67, 68, 69, 70, 71, 72, 73, 74, 75, 76, 77, 78, 79, 80, 81, 82, 83, 84, 85, 86, 87, 88, 89, 90, 91, 92, 93, 94, 95, 96, 7, 97, 98, 99, 100, 101, 102, 103, 104, 105, 106, 107, 108, 109, 110, 111, 112, 113, 114] rfl rfl) (goodIn_app (goodIn_cls hi_M_controlled_X12 gw_X12) (goodIn_nil)))
set_option maxRecDepth 100000 in
theorem gd_M_controlled_M_complete5_504 : GoodIn wp_M_controlled (wsV RX12 504 RX12 yX12_complete_ wp_M_complete5) := goodIn_app (goodIn_r _ [37, 38, 39, 4] rfl rfl) (goodIn_ca (goodIn_r _ [40, 41, 42, 43, 44, 4, 45, 46, 47, 48, 49, 50, 51, 52] rfl rfl) (goodIn_app (goodIn_cls hi_M_controlled_X12 gw_X12) (goodIn_nil)))
set_option maxRecDepth 100000 in
theorem gd_M_controlled_M_numberP_432 : GoodIn wp_M_controlled (va_wsS RX12 432 yX12_number wp_M_numberP) := goodIn_app (goodIn_r _ [62, 63, 4] rfl rfl) (goodIn_ca (goodIn_r _ [64] rfl rfl) (goodIn_nil))
set_option maxRecDepth 100000 in
theorem gd_M_controlled_M_adds_436 : GoodIn wp_M_controlled (wsV RX12 436 RX12 yX12_adds wp_M_adds) := goodIn_app (goodIn_r _ [65, 66, 67, 4] rfl rfl) (goodIn_ca (goodIn_r _ [68, 69, 70, 71, 72, 4, 73, 74] rfl rfl) (goodIn_app (goodIn_cls hi_M_controlled_X12 gw_X12) (goodIn_nil)))
set_option maxRecDepth 100000 in
theorem gd_M_controlled_M_complete_409 : GoodIn wp_M_controlled (wsV RX12 409 RX12 yX12_complete wp_M_complete) := goodIn_app (goodIn_r _ [42, 43, 44, 4] rfl rfl) (goodIn_ca (goodIn_r _ [45, 46, 47, 48, 49, 50, 51, 52] rfl rfl) (goodIn_app (goodIn_cls hi_M_controlled_X12 gw_X12) (goodIn_nil)))
set_option maxRecDepth 100000 in
theorem gd_M_controlled_M_version_507 : GoodIn wp_M_controlled (wsV RX12 507 RX12 yX12_version wp_M_version) := goodIn_app (goodIn_r _ [116, 117, 118, 4] rfl rfl) (goodIn_ca (goodIn_r _ [119, 120, 61, 62, 63, 4, 64, 121, 65, 66, 67, 68, 69, 70, 71, 72, 73, 74] rfl rfl) (goodIn_app (goodIn_cls hi_M_controlled_X12 gw_X12) (goodIn_nil)))
set_option maxRecDepth 100000 in
theorem gd_M_controlled_M_adds4_486 : GoodIn wp_M_controlled (wsV RX12 486 RX12 yX12_adds_ wp_M_adds4) := goodIn_app (goodIn_r _ [57, 58, 59, 4] rfl rfl) (goodIn_ca (goodIn_r _ [60, 61, 62, 63, 4, 64, 65, 66, 67, 68, 69, 70, 71, 72, 73, 74] rfl rfl) (goodIn_app (goodIn_cls hi_M_controlled_X12 gw_X12) (goodIn_nil)))
set_option maxRecDepth 100000 in
theorem gd_M_controlled_M_bytesOf_483 : GoodIn wp_M_controlled (va_wsS RX12 483 yX12_bytesOf wp_M_bytesOf) := goodIn_app (goodIn_r _ [122, 123, 4] rfl rfl) (goodIn_ca (goodIn_r _ [124] rfl rfl) (goodIn_nil))
set_option maxHeartbeats 4000000 in
set_option maxRecDepth 100000 in
theorem b_M_controlled {p : Program} {l : Launch} {e : Env} {R : Room} {s : State} {m : MethodId} {args : Array Value} {below : List Frame} {meth : Method} {c : Code} {D : va_G} {K : Nat → ClassId} {A : Nat → Prop} {Q : State → Prop} {τ : Nat → Option Ty} {dom : List Nat} {zb zL : Nat} {zx : Nat → Int32} {zs : Nat → Nat} (hR : 4 ≤ R.frames ∧ 101 ≤ R.locals) (B : Bx p s m args c cX12_controlled 8 RX12 wp_M_controlled D (tysA K) A) (Z : Sk τ dom) (hz : ZL zb zL zx zs A s s.heap) (h : Nat) (q : Nat → Nat) (Y : MS τ h q) (d : Int) (x2 : Int) (r_d : 0 ≤ d ∧ d ≤ 1) (r_x2 : 1 ≤ x2 ∧ x2 ≤ 31) (σ0 : Nat → va_E) (G0 : GM K h q σ0) (hend : ∀ (σ' : Nat → va_E) (lv : List (Nat × Value)) (pc : Nat), GM K h q σ' → Fr τ [(116, 0), (138, 0), (141, 0), (171, 0), (158, 0), (180, 0), (161, 0), (167, 0), (157, 0), (172, 0), (159, 0), (177, 0), (164, 0), (104, 0), (105, 0), (106, 0), (163, 0), (174, 0), (170, 0), (168, 0), (108, 0), (165, 0), (166, 0), (173, 0), (145, 0), (144, 0), (146, 0), (169, 0), (176, 0), (136, 0), (137, 0)] σ0 σ' → decode cX12_controlled pc = .ok (.return_, 1) → V p l e R s m args below meth c 8 D A Q (0, 0) (fd dom σ') lv pc []) : V p l e R s m args below meth c 8 D A Q (0, 0) (fd dom σ0) [(0, .ref h), (1, .int (iI d)), (2, .int (iI x2))] 0 [] := by
  have F0 : Fr τ [(116, 0), (138, 0), (141, 0), (171, 0), (158, 0), (180, 0), (161, 0), (167, 0), (157, 0), (172, 0), (159, 0), (177, 0), (164, 0), (104, 0), (105, 0), (106, 0), (163, 0), (174, 0), (170, 0), (168, 0), (108, 0), (165, 0), (166, 0), (173, 0), (145, 0), (144, 0), (146, 0), (169, 0), (176, 0), (136, 0), (137, 0)] σ0 σ0 := Fr.rf
  obtain ⟨z1, z2, z3, z4, z5, h6, r7, r8, r9, r10, r11⟩ := G0.t.o
  obtain ⟨f12, h13, e14⟩ := ga_57 G0.t
  obtain ⟨z15, e16, r17⟩ := e14 (d : Int).toNat
  have J340 : ∀ (σ_340 : Nat → va_E) (z340_s0 : Int) (z340_s1 : Int), GM K h q σ_340 → Fr τ [(116, 0), (138, 0), (141, 0), (171, 0), (158, 0), (180, 0), (161, 0), (167, 0), (157, 0), (172, 0), (159, 0), (177, 0), (164, 0), (104, 0), (105, 0), (106, 0), (163, 0), (174, 0), (170, 0), (168, 0), (108, 0), (165, 0), (166, 0), (173, 0), (145, 0), (144, 0), (146, 0), (169, 0), (176, 0), (136, 0), (137, 0)] σ0 σ_340 → (σ_340 h = .inr (12, fsM q (iI z1) (iI z2) (iI z3) (iI z4) (iI z5))) → (0 ≤ z15 ∧ z15 ≤ 4) → (-2147483648 ≤ z340_s0 ∧ z340_s0 ≤ 2147483647) → (0 ≤ z340_s1 ∧ z340_s1 ≤ 1) → V p l e R s m args below meth c 8 D A Q (0, 0) (fd dom σ_340) [] 340 [.int (iI z340_s0), .int (iI z340_s1), .ref (q 37)] := by
    intro σ_340 z340_s0 z340_s1 G_340 F_340 hc340_h rv340_z15 r340_s0 r340_s1
    obtain ⟨f18, h19, e20⟩ := ga_37 G_340.t
    refine u_iast B Z (t0 := 0) (x := iI z340_s0) (ym_37 Y) h19 rfl (by omega) dX12_controlled_340 (fun σ21 h22 n23 => ?_)
    have e24 := el_upd (z := z340_s0) e20 ⟨by omega, by omega⟩ (z340_s1 : Int).toNat
    have F25 := F_340.put (ym_37 Y) (by simp) n23
    have G26 := gp_37 Y G_340 ⟨_, h22, e24⟩ n23
    refine v_goto B (tgt := 537) dX12_controlled_341 (by decide +kernel) ?_
    exact hend σ21 _ _ G26 F25 dX12_controlled_537
  have J248 : ∀ (σ_248 : Nat → va_E), GM K h q σ_248 → Fr τ [(116, 0), (138, 0), (141, 0), (171, 0), (158, 0), (180, 0), (161, 0), (167, 0), (157, 0), (172, 0), (159, 0), (177, 0), (164, 0), (104, 0), (105, 0), (106, 0), (163, 0), (174, 0), (170, 0), (168, 0), (108, 0), (165, 0), (166, 0), (173, 0), (145, 0), (144, 0), (146, 0), (169, 0), (176, 0), (136, 0), (137, 0)] σ0 σ_248 → (σ_248 h = .inr (12, fsM q (iI z1) (iI z2) (iI z3) (iI z4) (iI z5))) → (0 ≤ z15 ∧ z15 ≤ 4) → V p l e R s m args below meth c 8 D A Q (0, 0) (fd dom σ_248) [(0, .ref h), (1, .int (iI d))] 248 [] := by
    intro σ_248 G_248 F_248 hc248_h rv248_z15
    refine v_aload_n B dX12_controlled_248 rfl rfl ?_
    refine v_iload_n B dX12_controlled_249 rfl rfl ?_
    refine v_bipush B (v := iI 40) dX12_controlled_250 (by decide +kernel) ?_
    refine u_callVv B Z hz (n := 2) (As := [.int (iI d), .int (iI 40)]) (rest := []) (c_M_reasons l D K Z _ _ _ _ h q Y d 40 ⟨by omega, by omega⟩ ⟨by omega, by omega⟩ σ_248 G_248) gd_M_controlled_M_reasons_459 rfl rfl rfl (by decide +kernel) ⟨Nat.le_trans (by decide +kernel) hR.1, Nat.le_trans (by decide +kernel) hR.2⟩ Y.o (clsM G_248.t) rfl rfl rfl rfl (Nat.le_of_ble_eq_true rfl) dX12_controlled_252 ⟨Nat.zero_le _, Nat.zero_le _⟩ (fun σ27 p28 => ?_)
    obtain ⟨G30, F31⟩ := p28
    have F32 := F_248.call F31 (by first | rfl | simp)
    refine v_goto B (tgt := 537) dX12_controlled_255 (by decide +kernel) ?_
    exact hend σ27 _ _ G30 F32 dX12_controlled_537
  have J126 : ∀ (z126_3 : Int) (z126_s0 : Int), (0 ≤ z15 ∧ z15 ≤ 4) → (0 ≤ z126_3 ∧ z126_3 ≤ 255) → (0 ≤ z126_s0 ∧ z126_s0 ≤ 1) → V p l e R s m args below meth c 8 D A Q (0, 0) (fd dom σ0) [(0, .ref h), (1, .int (iI d)), (3, .int (iI z126_3))] 126 [.int (iI z126_s0)] := by
    intro z126_3 z126_s0 rv126_z15 r126_3 r126_s0
    refine v_istore B (lv' := [(6, .int (iI z126_s0)), (0, .ref h), (1, .int (iI d)), (3, .int (iI z126_3))]) dX12_controlled_126 (by decide +kernel) rfl ?_
    refine v_iload B dX12_controlled_128 rfl ?_
    refine u_if_eq B (tgt := 149) (by omega) dX12_controlled_130 (by decide +kernel) (fun c33 => ?_) (fun c33 => ?_)
    · refine v_iload_n B dX12_controlled_149 rfl rfl ?_
      refine u_tsw B (tgtd := 483) (by omega) dX12_controlled_150 (by decide +kernel) ?_ ?_ (tswM (by decide +kernel)) (by decide +kernel)
      · intro i34 o35 g36 o37 x38 t39
        match i34, o37, x38 with
        | 0, o37, x38 =>
          replace o37 : o35 = 62 := by simp at o37; omega
          obtain rfl : g36 = 212 := by omega
          refine v_aload_n B dX12_controlled_212 rfl rfl ?_
          refine u_get B Z (C := RX12) (T := TX12) (N := 123) (ci := 12) hi_M_controlled_X12 Y.o h6 rfl 81 (by decide +kernel) (List.mem_of_getElem? (i := 7) rfl) rfl dX12_controlled_213 ?_
          refine v_bipush B (v := iI 6) dX12_controlled_216 (by decide +kernel) ?_
          refine u_callSi B Z hz (n := 2) (As := [.ref (q 81), .int (iI 6)]) (rest := []) (c_M_two l D K Z _ _ _ _ h q Y 81 40 6 rfl ⟨by omega, by omega⟩ σ0 (G0.t) (by omega)) gd_M_controlled_M_two_489 rfl rfl rfl (by decide +kernel) ⟨Nat.le_trans (by decide +kernel) hR.1, Nat.le_trans (by decide +kernel) hR.2⟩ rfl rfl (Nat.le_of_ble_eq_true rfl) dX12_controlled_218 ⟨Nat.zero_le _, Nat.zero_le _⟩ (fun v42 σ40 p41 => ?_)
          obtain ⟨rfl, z43, e44, r45⟩ := p41
          subst e44
          refine v_aload_n B dX12_controlled_221 rfl rfl ?_
          refine u_get B Z (C := RX12) (T := TX12) (N := 123) (ci := 12) hi_M_controlled_X12 Y.o h6 rfl 29 (by decide +kernel) (List.mem_of_getElem? (i := 11) rfl) rfl dX12_controlled_222 ?_
          refine v_iload_n B dX12_controlled_225 rfl rfl ?_
          obtain ⟨f46, h47, e48⟩ := ga_29 G0.t
          obtain ⟨z49, e50, r51⟩ := e48 (d : Int).toNat
          refine u_iald B Z (t0 := 0) (ym_29 Y) h47 rfl (by omega) e50 dX12_controlled_226 ?_
          obtain ⟨z52, e53, r54⟩ := iI_any (iI z43 - iI z49)
          refine v_isub B (v := iI z52) dX12_controlled_227 e53 ?_
          refine v_ldcw B (v := iI 65535) (u_ci (List.mem_of_getElem? (i := 12) rfl) (by decide +kernel)) dX12_controlled_228 ?_
          obtain ⟨z55, e56, r57⟩ := iI_and z52 (c := 65535) (by decide) (by decide)
          refine v_iand B (v := iI z55) dX12_controlled_231 e56 ?_
          refine v_istore B (lv' := [(7, .int (iI z55)), (6, .int (iI z126_s0)), (0, .ref h), (1, .int (iI d)), (3, .int (iI z126_3))]) dX12_controlled_232 (by decide +kernel) rfl ?_
          refine v_iload B dX12_controlled_234 rfl ?_
          refine v_iconst B (v := iI 1) dX12_controlled_236 rfl ?_
          refine u_icmp_lt B (tgt := 248) (by omega) (by omega) dX12_controlled_237 (by decide +kernel) (fun c58 => ?_) (fun c58 => ?_)
          · refine v_lv [2, 3] rfl ?_
            exact J248 σ0 G0 F0 h6 ⟨by omega, by omega⟩
          · refine v_iload B dX12_controlled_240 rfl ?_
            refine v_sipush B (v := iI 32767) dX12_controlled_242 (by decide +kernel) ?_
            refine u_icmp_le B (tgt := 258) (by omega) (by omega) dX12_controlled_245 (by decide +kernel) (fun c59 => ?_) (fun c59 => ?_)
            · refine v_aload_n B dX12_controlled_258 rfl rfl ?_
              refine u_get B Z (C := RX12) (T := TX12) (N := 123) (ci := 12) hi_M_controlled_X12 Y.o h6 rfl 16 (by decide +kernel) (List.mem_of_getElem? (i := 13) rfl) rfl dX12_controlled_259 ?_
              refine v_iload_n B dX12_controlled_262 rfl rfl ?_
              refine v_aload_n B dX12_controlled_263 rfl rfl ?_
              refine u_get B Z (C := RX12) (T := TX12) (N := 123) (ci := 12) hi_M_controlled_X12 Y.o h6 rfl 81 (by decide +kernel) (List.mem_of_getElem? (i := 7) rfl) rfl dX12_controlled_264 ?_
              refine v_iconst B (v := iI 1) dX12_controlled_267 rfl ?_
              refine v_iconst B (v := iI 5) dX12_controlled_268 rfl ?_
              refine u_callSl B Z hz (n := 3) (As := [.ref (q 81), .int (iI 1), .int (iI 5)]) (rest := [.int (iI d), .ref (q 16)]) (c_M_numberG l D K Z _ _ _ _ h q Y 81 40 1 5 rfl ⟨by omega, by omega⟩ ⟨by omega, by omega⟩ σ0 (G0.t) (by omega)) gd_M_controlled_M_numberG_494 rfl rfl rfl (by decide +kernel) ⟨Nat.le_trans (by decide +kernel) hR.1, Nat.le_trans (by decide +kernel) hR.2⟩ rfl rfl (Nat.le_of_ble_eq_true rfl) dX12_controlled_269 ⟨Nat.zero_le _, Nat.zero_le _⟩ (fun v62 σ60 p61 => ?_)
              obtain ⟨rfl, yy63, e64, r65⟩ := p61
              subst e64
              obtain ⟨f66, h67, e68⟩ := ga_41 G0.t
              obtain ⟨f69, h70⟩ := ga_16 G0.t
              have ra72 := G0.d _ _ _ _ _ _ h67 h70
              refine u_last B Z (t0 := 1) (x := lI yy63) (ym_16 Y) h70 rfl (by omega) dX12_controlled_272 (fun σ73 h74 n75 => ?_)
              have F76 := F0.put (ym_16 Y) (by simp) n75
              have T77 := gp_16 Y G0.t ⟨_, h74⟩ n75
              have R78 := (G0.a).kept (n75 _ (ne_ty (ym_85 Y) (ym_16 Y) (by decide))) (n75 _ (ne_ty (ym_86 Y) (ym_16 Y) (by decide))) (n75 _ (ne_ty (ym_84 Y) (ym_16 Y) (by decide)))
              have R79 := (G0.b).kept (n75 _ (ne_ty (ym_106 Y) (ym_16 Y) (by decide))) (n75 _ (ne_ty (ym_110 Y) (ym_16 Y) (by decide)))
              have R80 := (G0.c).kept (n75 _ (ne_ty (ym_7 Y) (ym_16 Y) (by decide))) (n75 _ (ne_ty (ym_15 Y) (ym_16 Y) (by decide)))
              refine v_aload_n B dX12_controlled_273 rfl rfl ?_
              have h81 := (n75 h (ne_ty Y.o (ym_16 Y) (by decide))).trans (h6)
              refine u_get B Z (C := RX12) (T := TX12) (N := 123) (ci := 12) hi_M_controlled_X12 Y.o h81 rfl 38 (by decide +kernel) (List.mem_of_getElem? (i := 17) rfl) rfl dX12_controlled_274 ?_
              refine v_iload_n B dX12_controlled_277 rfl rfl ?_
              refine v_aload_n B dX12_controlled_278 rfl rfl ?_
              refine u_get B Z (C := RX12) (T := TX12) (N := 123) (ci := 12) hi_M_controlled_X12 Y.o h81 rfl 81 (by decide +kernel) (List.mem_of_getElem? (i := 7) rfl) rfl dX12_controlled_279 ?_
              refine v_bipush B (v := iI 6) dX12_controlled_282 (by decide +kernel) ?_
              refine u_callSi B Z hz (n := 2) (As := [.ref (q 81), .int (iI 6)]) (rest := [.int (iI d), .ref (q 38)]) (c_M_two l D K Z _ _ _ _ h q Y 81 40 6 rfl ⟨by omega, by omega⟩ σ73 (T77) (by omega)) gd_M_controlled_M_two_489 rfl rfl rfl (by decide +kernel) ⟨Nat.le_trans (by decide +kernel) hR.1, Nat.le_trans (by decide +kernel) hR.2⟩ rfl rfl (Nat.le_of_ble_eq_true rfl) dX12_controlled_284 ⟨Nat.zero_le _, Nat.zero_le _⟩ (fun v84 σ82 p83 => ?_)
              obtain ⟨rfl, z85, e86, r87⟩ := p83
              subst e86
              obtain ⟨f88, h89, e90⟩ := ga_38 T77
              refine u_iast B Z (t0 := 0) (x := iI z85) (ym_38 Y) h89 rfl (by omega) dX12_controlled_287 (fun σ91 h92 n93 => ?_)
              have e94 := el_upd (z := z85) e90 ⟨by omega, by omega⟩ (d : Int).toNat
              have F95 := F76.put (ym_38 Y) (by simp) n93
              have T96 := gq_38 Y T77 ⟨_, h92, e94⟩ n93
              have R97 := (R78).kept (n93 _ (ne_ty (ym_85 Y) (ym_38 Y) (by decide))) (n93 _ (ne_ty (ym_86 Y) (ym_38 Y) (by decide))) (n93 _ (ne_ty (ym_84 Y) (ym_38 Y) (by decide)))
              have R98 := (R79).kept (n93 _ (ne_ty (ym_106 Y) (ym_38 Y) (by decide))) (n93 _ (ne_ty (ym_110 Y) (ym_38 Y) (by decide)))
              have R99 := (R80).kept (n93 _ (ne_ty (ym_7 Y) (ym_38 Y) (by decide))) (n93 _ (ne_ty (ym_15 Y) (ym_38 Y) (by decide)))
              refine v_aload_n B dX12_controlled_288 rfl rfl ?_
              have h100 := (n93 h (ne_ty Y.o (ym_38 Y) (by decide))).trans (h81)
              refine u_get B Z (C := RX12) (T := TX12) (N := 123) (ci := 12) hi_M_controlled_X12 Y.o h100 rfl 41 (by decide +kernel) (List.mem_of_getElem? (i := 18) rfl) rfl dX12_controlled_289 ?_
              refine v_iload_n B dX12_controlled_292 rfl rfl ?_
              refine v_aload_n B dX12_controlled_293 rfl rfl ?_
              refine u_get B Z (C := RX12) (T := TX12) (N := 123) (ci := 12) hi_M_controlled_X12 Y.o h100 rfl 16 (by decide +kernel) (List.mem_of_getElem? (i := 13) rfl) rfl dX12_controlled_294 ?_
              refine v_iload_n B dX12_controlled_297 rfl rfl ?_
              have h101 := (n93 (q 16) (ne_ty (ym_16 Y) (ym_38 Y) (by decide))).trans (h74)
              refine u_lald B Z (t0 := 1) (ym_16 Y) h101 rfl (by omega) updL_s dX12_controlled_298 ?_
              refine u_callSi B Z hz (n := 1) (As := [.long (lI yy63)]) (rest := [.int (iI d), .ref (q 41)]) (c_M_isMap l D K Z _ _ _ _ h q Y yy63 ⟨by omega, by omega⟩ σ91 (T96)) gd_M_controlled_M_isMap_497 rfl rfl rfl (by decide +kernel) ⟨Nat.le_trans (by decide +kernel) hR.1, Nat.le_trans (by decide +kernel) hR.2⟩ rfl rfl (Nat.le_of_ble_eq_true rfl) dX12_controlled_299 ⟨Nat.zero_le _, Nat.zero_le _⟩ (fun v104 σ102 p103 => ?_)
              obtain ⟨rfl, z105, e106, r107, po108⟩ := p103
              subst e106
              have h109 := (n93 (q 41) (ne_ty (ym_41 Y) (ym_38 Y) (by decide))).trans ((n75 (q 41) (ne_ty (ym_41 Y) (ym_16 Y) (by decide))).trans (h67))
              refine u_zast B Z (t0 := 3) (x := iI z105) (y := iI z105) (ym_41 Y) h109 rfl (by omega) (narZ (by omega)) dX12_controlled_302 (fun σ110 h111 n112 => ?_)
              have e113 := el_upd (z := z105) e68 ⟨by omega, by omega⟩ (d : Int).toNat
              have F114 := F95.put (ym_41 Y) (by simp) n112
              have T115 := gp_41 Y T96 ⟨_, h111, e113⟩ n112
              have R116 := (R97).kept (n112 _ (ne_ty (ym_85 Y) (ym_41 Y) (by decide))) (n112 _ (ne_ty (ym_86 Y) (ym_41 Y) (by decide))) (n112 _ (ne_ty (ym_84 Y) (ym_41 Y) (by decide)))
              have R117 := (R98).kept (n112 _ (ne_ty (ym_106 Y) (ym_41 Y) (by decide))) (n112 _ (ne_ty (ym_110 Y) (ym_41 Y) (by decide)))
              have R118 := (R99).kept (n112 _ (ne_ty (ym_7 Y) (ym_41 Y) (by decide))) (n112 _ (ne_ty (ym_15 Y) (ym_41 Y) (by decide)))
              have h119 := (n112 (q 16) (ne_ty (ym_16 Y) (ym_41 Y) (by decide))).trans (h101)
              have R120 : RelD q σ110 := RelD.mk h111 h119 (RC.set ra72 (d : Int).toNat (fun i hi => upd_n hi) (fun i hi => updL_n hi) (fun x e1 r1 hx => by have a1 : z105 = x := (iI_eq (by omega) r1).mp ((upd_s).symm.trans e1); rw [updL_s]; exact po108 (by omega)))
              have G121 : GM K h q σ110 := ⟨T115, R116, R117, R118, R120⟩
              refine v_goto B (tgt := 537) dX12_controlled_303 (by decide +kernel) ?_
              exact hend σ110 _ _ G121 F114 dX12_controlled_537
            · refine v_lv [2, 3] rfl ?_
              exact J248 σ0 G0 F0 h6 ⟨by omega, by omega⟩
        | 1, o37, x38 =>
          replace o37 : o35 = 156 := by simp at o37; omega
          obtain rfl : g36 = 306 := by omega
          refine v_aload_n B dX12_controlled_306 rfl rfl ?_
          refine u_get B Z (C := RX12) (T := TX12) (N := 123) (ci := 12) hi_M_controlled_X12 Y.o h6 rfl 37 (by decide +kernel) (List.mem_of_getElem? (i := 30) rfl) rfl dX12_controlled_307 ?_
          refine v_iload_n B dX12_controlled_310 rfl rfl ?_
          refine v_aload_n B dX12_controlled_311 rfl rfl ?_
          refine u_get B Z (C := RX12) (T := TX12) (N := 123) (ci := 12) hi_M_controlled_X12 Y.o h6 rfl 37 (by decide +kernel) (List.mem_of_getElem? (i := 30) rfl) rfl dX12_controlled_312 ?_
          refine v_iload_n B dX12_controlled_315 rfl rfl ?_
          obtain ⟨f122, h123, e124⟩ := ga_37 G0.t
          obtain ⟨z125, e126, r127⟩ := e124 (d : Int).toNat
          refine u_iald B Z (t0 := 0) (ym_37 Y) h123 rfl (by omega) e126 dX12_controlled_316 ?_
          refine v_iconst B (v := iI (-1)) dX12_controlled_317 rfl ?_
          refine u_icmp_ne B (tgt := 334) (by omega) (by omega) dX12_controlled_318 (by decide +kernel) (fun c128 => ?_) (fun c128 => ?_)
          · refine v_aload_n B dX12_controlled_334 rfl rfl ?_
            refine u_get B Z (C := RX12) (T := TX12) (N := 123) (ci := 12) hi_M_controlled_X12 Y.o h6 rfl 37 (by decide +kernel) (List.mem_of_getElem? (i := 30) rfl) rfl dX12_controlled_335 ?_
            refine v_iload_n B dX12_controlled_338 rfl rfl ?_
            refine u_iald B Z (t0 := 0) (ym_37 Y) h123 rfl (by omega) e126 dX12_controlled_339 ?_
            refine v_lv [] rfl ?_
            exact J340 σ0 z125 d G0 F0 h6 ⟨by omega, by omega⟩ ⟨by omega, by omega⟩ ⟨by omega, by omega⟩
          · refine v_aload_n B dX12_controlled_321 rfl rfl ?_
            refine u_get B Z (C := RX12) (T := TX12) (N := 123) (ci := 12) hi_M_controlled_X12 Y.o h6 rfl 81 (by decide +kernel) (List.mem_of_getElem? (i := 7) rfl) rfl dX12_controlled_322 ?_
            refine v_iconst B (v := iI 1) dX12_controlled_325 rfl ?_
            obtain ⟨f129, h130, e131⟩ := ga_81 G0.t
            obtain ⟨z132, e133, r134⟩ := e131 (1 : Int).toNat
            refine u_bald B Z (t0 := 2) (ym_81 Y) h130 rfl (by omega) e133 dX12_controlled_326 ?_
            refine v_sipush B (v := iI 255) dX12_controlled_327 (by decide +kernel) ?_
            obtain ⟨z135, e136, r137⟩ := iI_and z132 (c := 255) (by decide) (by decide)
            refine v_iand B (v := iI z135) dX12_controlled_330 e136 ?_
            refine v_goto B (tgt := 340) dX12_controlled_331 (by decide +kernel) ?_
            refine v_lv [] rfl ?_
            exact J340 σ0 z135 d G0 F0 h6 ⟨by omega, by omega⟩ ⟨by omega, by omega⟩ ⟨by omega, by omega⟩
        | 2, o37, x38 =>
          replace o37 : o35 = 194 := by simp at o37; omega
          obtain rfl : g36 = 344 := by omega
          refine v_aload_n B dX12_controlled_344 rfl rfl ?_
          refine u_get B Z (C := RX12) (T := TX12) (N := 123) (ci := 12) hi_M_controlled_X12 Y.o h6 rfl 73 (by decide +kernel) (List.mem_of_getElem? (i := 31) rfl) rfl dX12_controlled_345 ?_
          refine v_iload_n B dX12_controlled_348 rfl rfl ?_
          obtain ⟨f138, h139, e140⟩ := ga_73 G0.t
          obtain ⟨z141, e142, r143⟩ := e140 (d : Int).toNat
          refine u_zald B Z (t0 := 3) (ym_73 Y) h139 rfl (by omega) e142 dX12_controlled_349 ?_
          refine u_if_ne B (tgt := 537) (by omega) dX12_controlled_350 (by decide +kernel) (fun c144 => ?_) (fun c144 => ?_)
          · exact hend σ0 _ _ G0 F0 dX12_controlled_537
          · refine v_aload_n B dX12_controlled_353 rfl rfl ?_
            refine v_iload_n B dX12_controlled_354 rfl rfl ?_
            refine v_iload_n B dX12_controlled_355 rfl rfl ?_
            refine u_callVv B Z hz (n := 2) (As := [.int (iI d), .int (iI z126_3)]) (rest := []) (c_M_ciphers l D K Z _ _ _ _ h q Y d z126_3 z15 ⟨by omega, by omega⟩ ⟨by omega, by omega⟩ ⟨by omega, by omega⟩ σ0 G0 (At.mk h13 e16 (by omega) ⟨by omega, by omega⟩)) gd_M_controlled_M_ciphers_501 rfl rfl rfl (by decide +kernel) ⟨Nat.le_trans (by decide +kernel) hR.1, Nat.le_trans (by decide +kernel) hR.2⟩ Y.o (clsM G0.t) rfl rfl rfl rfl (Nat.le_of_ble_eq_true rfl) dX12_controlled_356 ⟨Nat.zero_le _, Nat.zero_le _⟩ (fun σ145 p146 => ?_)
            obtain ⟨G148, F149⟩ := p146
            have F150 := F0.call F149 (by first | rfl | simp)
            refine v_goto B (tgt := 537) dX12_controlled_359 (by decide +kernel) ?_
            exact hend σ145 _ _ G148 F150 dX12_controlled_537
        | 3, o37, x38 =>
          replace o37 : o35 = 194 := by simp at o37; omega
          obtain rfl : g36 = 344 := by omega
          refine v_aload_n B dX12_controlled_344 rfl rfl ?_
          refine u_get B Z (C := RX12) (T := TX12) (N := 123) (ci := 12) hi_M_controlled_X12 Y.o h6 rfl 73 (by decide +kernel) (List.mem_of_getElem? (i := 31) rfl) rfl dX12_controlled_345 ?_
          refine v_iload_n B dX12_controlled_348 rfl rfl ?_
          obtain ⟨f151, h152, e153⟩ := ga_73 G0.t
          obtain ⟨z154, e155, r156⟩ := e153 (d : Int).toNat
          refine u_zald B Z (t0 := 3) (ym_73 Y) h152 rfl (by omega) e155 dX12_controlled_349 ?_
          refine u_if_ne B (tgt := 537) (by omega) dX12_controlled_350 (by decide +kernel) (fun c157 => ?_) (fun c157 => ?_)
          · exact hend σ0 _ _ G0 F0 dX12_controlled_537
          · refine v_aload_n B dX12_controlled_353 rfl rfl ?_
            refine v_iload_n B dX12_controlled_354 rfl rfl ?_
            refine v_iload_n B dX12_controlled_355 rfl rfl ?_
            refine u_callVv B Z hz (n := 2) (As := [.int (iI d), .int (iI z126_3)]) (rest := []) (c_M_ciphers l D K Z _ _ _ _ h q Y d z126_3 z15 ⟨by omega, by omega⟩ ⟨by omega, by omega⟩ ⟨by omega, by omega⟩ σ0 G0 (At.mk h13 e16 (by omega) ⟨by omega, by omega⟩)) gd_M_controlled_M_ciphers_501 rfl rfl rfl (by decide +kernel) ⟨Nat.le_trans (by decide +kernel) hR.1, Nat.le_trans (by decide +kernel) hR.2⟩ Y.o (clsM G0.t) rfl rfl rfl rfl (Nat.le_of_ble_eq_true rfl) dX12_controlled_356 ⟨Nat.zero_le _, Nat.zero_le _⟩ (fun σ158 p159 => ?_)
            obtain ⟨G161, F162⟩ := p159
            have F163 := F0.call F162 (by first | rfl | simp)
            refine v_goto B (tgt := 537) dX12_controlled_359 (by decide +kernel) ?_
            exact hend σ158 _ _ G161 F163 dX12_controlled_537
        | 4, o37, x38 =>
          replace o37 : o35 = 194 := by simp at o37; omega
          obtain rfl : g36 = 344 := by omega
          refine v_aload_n B dX12_controlled_344 rfl rfl ?_
          refine u_get B Z (C := RX12) (T := TX12) (N := 123) (ci := 12) hi_M_controlled_X12 Y.o h6 rfl 73 (by decide +kernel) (List.mem_of_getElem? (i := 31) rfl) rfl dX12_controlled_345 ?_
          refine v_iload_n B dX12_controlled_348 rfl rfl ?_
          obtain ⟨f164, h165, e166⟩ := ga_73 G0.t
          obtain ⟨z167, e168, r169⟩ := e166 (d : Int).toNat
          refine u_zald B Z (t0 := 3) (ym_73 Y) h165 rfl (by omega) e168 dX12_controlled_349 ?_
          refine u_if_ne B (tgt := 537) (by omega) dX12_controlled_350 (by decide +kernel) (fun c170 => ?_) (fun c170 => ?_)
          · exact hend σ0 _ _ G0 F0 dX12_controlled_537
          · refine v_aload_n B dX12_controlled_353 rfl rfl ?_
            refine v_iload_n B dX12_controlled_354 rfl rfl ?_
            refine v_iload_n B dX12_controlled_355 rfl rfl ?_
            refine u_callVv B Z hz (n := 2) (As := [.int (iI d), .int (iI z126_3)]) (rest := []) (c_M_ciphers l D K Z _ _ _ _ h q Y d z126_3 z15 ⟨by omega, by omega⟩ ⟨by omega, by omega⟩ ⟨by omega, by omega⟩ σ0 G0 (At.mk h13 e16 (by omega) ⟨by omega, by omega⟩)) gd_M_controlled_M_ciphers_501 rfl rfl rfl (by decide +kernel) ⟨Nat.le_trans (by decide +kernel) hR.1, Nat.le_trans (by decide +kernel) hR.2⟩ Y.o (clsM G0.t) rfl rfl rfl rfl (Nat.le_of_ble_eq_true rfl) dX12_controlled_356 ⟨Nat.zero_le _, Nat.zero_le _⟩ (fun σ171 p172 => ?_)
            obtain ⟨G174, F175⟩ := p172
            have F176 := F0.call F175 (by first | rfl | simp)
            refine v_goto B (tgt := 537) dX12_controlled_359 (by decide +kernel) ?_
            exact hend σ171 _ _ G174 F176 dX12_controlled_537
        | 5, o37, x38 =>
          replace o37 : o35 = 194 := by simp at o37; omega
          obtain rfl : g36 = 344 := by omega
          refine v_aload_n B dX12_controlled_344 rfl rfl ?_
          refine u_get B Z (C := RX12) (T := TX12) (N := 123) (ci := 12) hi_M_controlled_X12 Y.o h6 rfl 73 (by decide +kernel) (List.mem_of_getElem? (i := 31) rfl) rfl dX12_controlled_345 ?_
          refine v_iload_n B dX12_controlled_348 rfl rfl ?_
          obtain ⟨f177, h178, e179⟩ := ga_73 G0.t
          obtain ⟨z180, e181, r182⟩ := e179 (d : Int).toNat
          refine u_zald B Z (t0 := 3) (ym_73 Y) h178 rfl (by omega) e181 dX12_controlled_349 ?_
          refine u_if_ne B (tgt := 537) (by omega) dX12_controlled_350 (by decide +kernel) (fun c183 => ?_) (fun c183 => ?_)
          · exact hend σ0 _ _ G0 F0 dX12_controlled_537
          · refine v_aload_n B dX12_controlled_353 rfl rfl ?_
            refine v_iload_n B dX12_controlled_354 rfl rfl ?_
            refine v_iload_n B dX12_controlled_355 rfl rfl ?_
            refine u_callVv B Z hz (n := 2) (As := [.int (iI d), .int (iI z126_3)]) (rest := []) (c_M_ciphers l D K Z _ _ _ _ h q Y d z126_3 z15 ⟨by omega, by omega⟩ ⟨by omega, by omega⟩ ⟨by omega, by omega⟩ σ0 G0 (At.mk h13 e16 (by omega) ⟨by omega, by omega⟩)) gd_M_controlled_M_ciphers_501 rfl rfl rfl (by decide +kernel) ⟨Nat.le_trans (by decide +kernel) hR.1, Nat.le_trans (by decide +kernel) hR.2⟩ Y.o (clsM G0.t) rfl rfl rfl rfl (Nat.le_of_ble_eq_true rfl) dX12_controlled_356 ⟨Nat.zero_le _, Nat.zero_le _⟩ (fun σ184 p185 => ?_)
            obtain ⟨G187, F188⟩ := p185
            have F189 := F0.call F188 (by first | rfl | simp)
            refine v_goto B (tgt := 537) dX12_controlled_359 (by decide +kernel) ?_
            exact hend σ184 _ _ G187 F189 dX12_controlled_537
        | 6, o37, x38 =>
          replace o37 : o35 = 212 := by simp at o37; omega
          obtain rfl : g36 = 362 := by omega
          refine v_aload_n B dX12_controlled_362 rfl rfl ?_
          refine v_iload_n B dX12_controlled_363 rfl rfl ?_
          refine v_bipush B (v := iI 19) dX12_controlled_364 (by decide +kernel) ?_
          refine v_aload_n B dX12_controlled_366 rfl rfl ?_
          refine u_get B Z (C := RX12) (T := TX12) (N := 123) (ci := 12) hi_M_controlled_X12 Y.o h6 rfl 81 (by decide +kernel) (List.mem_of_getElem? (i := 7) rfl) rfl dX12_controlled_367 ?_
          refine v_iconst B (v := iI 1) dX12_controlled_370 rfl ?_
          obtain ⟨f190, h191, e192⟩ := ga_81 G0.t
          obtain ⟨z193, e194, r195⟩ := e192 (1 : Int).toNat
          refine u_bald B Z (t0 := 2) (ym_81 Y) h191 rfl (by omega) e194 dX12_controlled_371 ?_
          refine v_sipush B (v := iI 255) dX12_controlled_372 (by decide +kernel) ?_
          obtain ⟨z196, e197, r198⟩ := iI_and z193 (c := 255) (by decide) (by decide)
          refine v_iand B (v := iI z196) dX12_controlled_375 e197 ?_
          refine v_iconst B (v := iI 0) dX12_controlled_376 rfl ?_
          refine v_iconst B (v := iI 0) dX12_controlled_377 rfl ?_
          refine u_callVv B Z hz (n := 5) (As := [.int (iI d), .int (iI 19), .int (iI z196), .int (iI 0), .int (iI 0)]) (rest := []) (c_M_complete5 l D K Z _ _ _ _ h q Y d 19 z196 0 0 ⟨by omega, by omega⟩ ⟨by omega, by omega⟩ ⟨by omega, by omega⟩ ⟨by omega, by omega⟩ ⟨by omega, by omega⟩ σ0 G0) gd_M_controlled_M_complete5_504 rfl rfl rfl (by decide +kernel) ⟨Nat.le_trans (by decide +kernel) hR.1, Nat.le_trans (by decide +kernel) hR.2⟩ Y.o (clsM G0.t) rfl rfl rfl rfl (Nat.le_of_ble_eq_true rfl) dX12_controlled_378 ⟨Nat.zero_le _, Nat.zero_le _⟩ (fun σ199 p200 => ?_)
          obtain ⟨G202, F203⟩ := p200
          have F204 := F0.call F203 (by first | rfl | simp)
          refine v_goto B (tgt := 537) dX12_controlled_381 (by decide +kernel) ?_
          exact hend σ199 _ _ G202 F204 dX12_controlled_537
        | 7, o37, x38 =>
          replace o37 : o35 = 234 := by simp at o37; omega
          obtain rfl : g36 = 384 := by omega
          refine v_aload_n B dX12_controlled_384 rfl rfl ?_
          refine u_get B Z (C := RX12) (T := TX12) (N := 123) (ci := 12) hi_M_controlled_X12 Y.o h6 rfl 80 (by decide +kernel) (List.mem_of_getElem? (i := 61) rfl) rfl dX12_controlled_385 ?_
          refine v_iconst B (v := iI 0) dX12_controlled_388 rfl ?_
          refine v_bipush B (v := iI 9) dX12_controlled_389 (by decide +kernel) ?_
          obtain ⟨f205, h206, e207⟩ := ga_80 G0.t
          refine u_bast B Z (t0 := 2) (x := iI 9) (y := iI 9) (ym_80 Y) h206 rfl (by omega) (nar8 (by omega)) dX12_controlled_391 (fun σ208 h209 n210 => ?_)
          have F211 := F0.put (ym_80 Y) (by simp) n210
          have G212 := gp_80 Y G0 ⟨_, h209, el_upd (z := 9) e207 ⟨by omega, by omega⟩ _⟩ n210
          refine v_aload_n B dX12_controlled_392 rfl rfl ?_
          have h213 := (n210 h (ne_ty Y.o (ym_80 Y) (by decide))).trans (h6)
          refine u_get B Z (C := RX12) (T := TX12) (N := 123) (ci := 12) hi_M_controlled_X12 Y.o h213 rfl 80 (by decide +kernel) (List.mem_of_getElem? (i := 61) rfl) rfl dX12_controlled_393 ?_
          refine v_iconst B (v := iI 1) dX12_controlled_396 rfl ?_
          refine v_aload_n B dX12_controlled_397 rfl rfl ?_
          refine u_get B Z (C := RX12) (T := TX12) (N := 123) (ci := 12) hi_M_controlled_X12 Y.o h213 rfl 17 (by decide +kernel) (List.mem_of_getElem? (i := 115) rfl) rfl dX12_controlled_398 ?_
          refine v_iload_n B dX12_controlled_401 rfl rfl ?_
          obtain ⟨f214, h215⟩ := ga_17 G212.t
          obtain ⟨yy217, e218, r219⟩ := lI_any (f214 (d : Int).toNat)
          refine u_lald B Z (t0 := 1) (ym_17 Y) h215 rfl (by omega) e218 dX12_controlled_402 ?_
          refine v_bipush B (v := iI 8) dX12_controlled_403 (by decide +kernel) ?_
          refine u_callSv B Z hz (n := 4) (As := [.ref (q 80), .int (iI 1), .long (lI yy217), .int (iI 8)]) (rest := []) (c_M_numberP l D K Z _ _ _ _ h q Y 80 40 1 yy217 8 rfl ⟨by omega, by omega⟩ ⟨by omega, by omega⟩ ⟨by omega, by omega⟩ σ208 G212 (by omega)) gd_M_controlled_M_numberP_432 rfl rfl rfl (by decide +kernel) ⟨Nat.le_trans (by decide +kernel) hR.1, Nat.le_trans (by decide +kernel) hR.2⟩ rfl rfl (Nat.le_of_ble_eq_true rfl) dX12_controlled_405 ⟨Nat.zero_le _, Nat.zero_le _⟩ (fun σ220 p221 => ?_)
          obtain ⟨G223, F224⟩ := p221
          have F225 := F211.call F224 (by first | rfl | simp)
          refine v_aload_n B dX12_controlled_408 rfl rfl ?_
          refine v_iload_n B dX12_controlled_409 rfl rfl ?_
          refine v_aload_n B dX12_controlled_410 rfl rfl ?_
          have h226 := (F224 h _ Y.o (by first | rfl | simp)).trans (h213)
          refine u_get B Z (C := RX12) (T := TX12) (N := 123) (ci := 12) hi_M_controlled_X12 Y.o h226 rfl 80 (by decide +kernel) (List.mem_of_getElem? (i := 61) rfl) rfl dX12_controlled_411 ?_
          refine v_bipush B (v := iI 9) dX12_controlled_414 (by decide +kernel) ?_
          have h227 := (F224 (q 57) _ (ym_57 Y) (by first | rfl | simp)).trans ((n210 (q 57) (ne_ty (ym_57 Y) (ym_80 Y) (by decide))).trans (h13))
          refine u_callVv B Z hz (n := 3) (As := [.int (iI d), .ref (q 80), .int (iI 9)]) (rest := []) (c_M_adds l D K Z _ _ _ _ h q Y d 9 z15 ⟨by omega, by omega⟩ ⟨by omega, by omega⟩ ⟨by omega, by omega⟩ σ220 G223 (At.mk h227 e16 (by omega) ⟨by omega, by omega⟩)) gd_M_controlled_M_adds_436 rfl rfl rfl (by decide +kernel) ⟨Nat.le_trans (by decide +kernel) hR.1, Nat.le_trans (by decide +kernel) hR.2⟩ Y.o (clsM G223.t) rfl rfl rfl rfl (Nat.le_of_ble_eq_true rfl) dX12_controlled_416 ⟨Nat.zero_le _, Nat.zero_le _⟩ (fun σ228 p229 => ?_)
          obtain ⟨G232, F233, po231⟩ := p229
          have F234 := F225.call F233 (by first | rfl | simp)
          obtain ⟨f235, h236, e237⟩ := ga_57 G232.t
          obtain ⟨z238, e239, r240⟩ := e237 (d : Int).toNat
          have r241 := po231.use h236 e239 (by omega)
          refine v_goto B (tgt := 537) dX12_controlled_419 (by decide +kernel) ?_
          exact hend σ228 _ _ G232 F234 dX12_controlled_537
        | 8, o37, x38 =>
          replace o37 : o35 = 272 := by simp at o37; omega
          obtain rfl : g36 = 422 := by omega
          refine v_aload_n B dX12_controlled_422 rfl rfl ?_
          refine v_iload_n B dX12_controlled_423 rfl rfl ?_
          refine v_bipush B (v := iI 15) dX12_controlled_424 (by decide +kernel) ?_
          refine v_iconst B (v := iI 0) dX12_controlled_426 rfl ?_
          refine v_iconst B (v := iI 0) dX12_controlled_427 rfl ?_
          refine v_iconst B (v := iI 0) dX12_controlled_428 rfl ?_
          refine v_aload_n B dX12_controlled_429 rfl rfl ?_
          refine u_get B Z (C := RX12) (T := TX12) (N := 123) (ci := 12) hi_M_controlled_X12 Y.o h6 rfl 81 (by decide +kernel) (List.mem_of_getElem? (i := 7) rfl) rfl dX12_controlled_430 ?_
          refine v_iconst B (v := iI 1) dX12_controlled_433 rfl ?_
          refine v_bipush B (v := iI 8) dX12_controlled_434 (by decide +kernel) ?_
          refine u_callVv B Z hz (n := 8) (As := [.int (iI d), .int (iI 15), .int (iI 0), .int (iI 0), .int (iI 0), .ref (q 81), .int (iI 1), .int (iI 8)]) (rest := []) (c_M_complete l D K Z _ _ _ _ h q Y d 15 0 0 0 81 40 1 8 ⟨by omega, by omega⟩ ⟨by omega, by omega⟩ ⟨by omega, by omega⟩ ⟨by omega, by omega⟩ ⟨by omega, by omega⟩ rfl ⟨by omega, by omega⟩ ⟨by omega, by omega⟩ σ0 G0 (by omega)) gd_M_controlled_M_complete_409 rfl rfl rfl (by decide +kernel) ⟨Nat.le_trans (by decide +kernel) hR.1, Nat.le_trans (by decide +kernel) hR.2⟩ Y.o (clsM G0.t) rfl rfl rfl rfl (Nat.le_of_ble_eq_true rfl) dX12_controlled_436 ⟨Nat.zero_le _, Nat.zero_le _⟩ (fun σ242 p243 => ?_)
          obtain ⟨G245, F246⟩ := p243
          have F247 := F0.call F246 (by first | rfl | simp)
          refine v_goto B (tgt := 537) dX12_controlled_439 (by decide +kernel) ?_
          exact hend σ242 _ _ G245 F247 dX12_controlled_537
        | 9, o37, x38 =>
          replace o37 : o35 = 333 := by simp at o37; omega
          obtain rfl : g36 = 483 := by omega
          refine v_aload_n B dX12_controlled_483 rfl rfl ?_
          refine u_get B Z (C := RX12) (T := TX12) (N := 123) (ci := 12) hi_M_controlled_X12 Y.o h6 rfl 69 (by decide +kernel) (List.mem_of_getElem? (i := 77) rfl) rfl dX12_controlled_484 ?_
          refine v_iload_n B dX12_controlled_487 rfl rfl ?_
          obtain ⟨f248, h249, e250⟩ := ga_69 G0.t
          obtain ⟨z251, e252, r253⟩ := e250 (d : Int).toNat
          refine u_zald B Z (t0 := 3) (ym_69 Y) h249 rfl (by omega) e252 dX12_controlled_488 ?_
          refine u_if_eq B (tgt := 537) (by omega) dX12_controlled_489 (by decide +kernel) (fun c254 => ?_) (fun c254 => ?_)
          · exact hend σ0 _ _ G0 F0 dX12_controlled_537
          · refine v_aload_n B dX12_controlled_492 rfl rfl ?_
            refine u_get B Z (C := RX12) (T := TX12) (N := 123) (ci := 12) hi_M_controlled_X12 Y.o h6 rfl 73 (by decide +kernel) (List.mem_of_getElem? (i := 31) rfl) rfl dX12_controlled_493 ?_
            refine v_iload_n B dX12_controlled_496 rfl rfl ?_
            obtain ⟨f255, h256, e257⟩ := ga_73 G0.t
            obtain ⟨z258, e259, r260⟩ := e257 (d : Int).toNat
            refine u_zald B Z (t0 := 3) (ym_73 Y) h256 rfl (by omega) e259 dX12_controlled_497 ?_
            refine u_if_eq B (tgt := 504) (by omega) dX12_controlled_498 (by decide +kernel) (fun c261 => ?_) (fun c261 => ?_)
            · refine v_aload_n B dX12_controlled_504 rfl rfl ?_
              refine u_get B Z (C := RX12) (T := TX12) (N := 123) (ci := 12) hi_M_controlled_X12 Y.o h6 rfl 69 (by decide +kernel) (List.mem_of_getElem? (i := 77) rfl) rfl dX12_controlled_505 ?_
              refine v_iload_n B dX12_controlled_508 rfl rfl ?_
              refine v_iconst B (v := iI 0) dX12_controlled_509 rfl ?_
              refine u_zast B Z (t0 := 3) (x := iI 0) (y := iI 0) (ym_69 Y) h249 rfl (by omega) (narZ (by omega)) dX12_controlled_510 (fun σ262 h263 n264 => ?_)
              have e265 := el_upd (z := 0) e250 ⟨by omega, by omega⟩ (d : Int).toNat
              have F266 := F0.put (ym_69 Y) (by simp) n264
              have G267 := gp_69 Y G0 ⟨_, h263, e265⟩ n264
              refine v_aload_n B dX12_controlled_511 rfl rfl ?_
              have h268 := (n264 h (ne_ty Y.o (ym_69 Y) (by decide))).trans (h6)
              refine u_get B Z (C := RX12) (T := TX12) (N := 123) (ci := 12) hi_M_controlled_X12 Y.o h268 rfl 68 (by decide +kernel) (List.mem_of_getElem? (i := 36) rfl) rfl dX12_controlled_512 ?_
              refine v_iload_n B dX12_controlled_515 rfl rfl ?_
              refine v_iconst B (v := iI 0) dX12_controlled_516 rfl ?_
              obtain ⟨f269, h270, e271⟩ := ga_68 G267.t
              refine u_zast B Z (t0 := 3) (x := iI 0) (y := iI 0) (ym_68 Y) h270 rfl (by omega) (narZ (by omega)) dX12_controlled_517 (fun σ272 h273 n274 => ?_)
              have e275 := el_upd (z := 0) e271 ⟨by omega, by omega⟩ (d : Int).toNat
              have F276 := F266.put (ym_68 Y) (by simp) n274
              have G277 := gp_68 Y G267 ⟨_, h273, e275⟩ n274
              refine v_aload_n B dX12_controlled_518 rfl rfl ?_
              refine v_iload_n B dX12_controlled_519 rfl rfl ?_
              refine v_bipush B (v := iI 13) dX12_controlled_520 (by decide +kernel) ?_
              refine v_aload_n B dX12_controlled_522 rfl rfl ?_
              have h278 := (n274 h (ne_ty Y.o (ym_68 Y) (by decide))).trans (h268)
              refine u_get B Z (C := RX12) (T := TX12) (N := 123) (ci := 12) hi_M_controlled_X12 Y.o h278 rfl 81 (by decide +kernel) (List.mem_of_getElem? (i := 7) rfl) rfl dX12_controlled_523 ?_
              refine v_iconst B (v := iI 1) dX12_controlled_526 rfl ?_
              obtain ⟨f279, h280, e281⟩ := ga_81 G277.t
              obtain ⟨z282, e283, r284⟩ := e281 (1 : Int).toNat
              refine u_bald B Z (t0 := 2) (ym_81 Y) h280 rfl (by omega) e283 dX12_controlled_527 ?_
              refine v_sipush B (v := iI 255) dX12_controlled_528 (by decide +kernel) ?_
              obtain ⟨z285, e286, r287⟩ := iI_and z282 (c := 255) (by decide) (by decide)
              refine v_iand B (v := iI z285) dX12_controlled_531 e286 ?_
              refine v_iconst B (v := iI 0) dX12_controlled_532 rfl ?_
              refine v_iconst B (v := iI 0) dX12_controlled_533 rfl ?_
              refine u_callVv B Z hz (n := 5) (As := [.int (iI d), .int (iI 13), .int (iI z285), .int (iI 0), .int (iI 0)]) (rest := []) (c_M_complete5 l D K Z _ _ _ _ h q Y d 13 z285 0 0 ⟨by omega, by omega⟩ ⟨by omega, by omega⟩ ⟨by omega, by omega⟩ ⟨by omega, by omega⟩ ⟨by omega, by omega⟩ σ272 G277) gd_M_controlled_M_complete5_504 rfl rfl rfl (by decide +kernel) ⟨Nat.le_trans (by decide +kernel) hR.1, Nat.le_trans (by decide +kernel) hR.2⟩ Y.o (clsM G277.t) rfl rfl rfl rfl (Nat.le_of_ble_eq_true rfl) dX12_controlled_534 ⟨Nat.zero_le _, Nat.zero_le _⟩ (fun σ288 p289 => ?_)
              obtain ⟨G291, F292⟩ := p289
              have F293 := F276.call F292 (by first | rfl | simp)
              exact hend σ288 _ _ G291 F293 dX12_controlled_537
            · refine v_goto B (tgt := 537) dX12_controlled_501 (by decide +kernel) ?_
              exact hend σ0 _ _ G0 F0 dX12_controlled_537
        | 10, o37, x38 =>
          replace o37 : o35 = 333 := by simp at o37; omega
          obtain rfl : g36 = 483 := by omega
          refine v_aload_n B dX12_controlled_483 rfl rfl ?_
          refine u_get B Z (C := RX12) (T := TX12) (N := 123) (ci := 12) hi_M_controlled_X12 Y.o h6 rfl 69 (by decide +kernel) (List.mem_of_getElem? (i := 77) rfl) rfl dX12_controlled_484 ?_
          refine v_iload_n B dX12_controlled_487 rfl rfl ?_
          obtain ⟨f294, h295, e296⟩ := ga_69 G0.t
          obtain ⟨z297, e298, r299⟩ := e296 (d : Int).toNat
          refine u_zald B Z (t0 := 3) (ym_69 Y) h295 rfl (by omega) e298 dX12_controlled_488 ?_
          refine u_if_eq B (tgt := 537) (by omega) dX12_controlled_489 (by decide +kernel) (fun c300 => ?_) (fun c300 => ?_)
          · exact hend σ0 _ _ G0 F0 dX12_controlled_537
          · refine v_aload_n B dX12_controlled_492 rfl rfl ?_
            refine u_get B Z (C := RX12) (T := TX12) (N := 123) (ci := 12) hi_M_controlled_X12 Y.o h6 rfl 73 (by decide +kernel) (List.mem_of_getElem? (i := 31) rfl) rfl dX12_controlled_493 ?_
            refine v_iload_n B dX12_controlled_496 rfl rfl ?_
            obtain ⟨f301, h302, e303⟩ := ga_73 G0.t
            obtain ⟨z304, e305, r306⟩ := e303 (d : Int).toNat
            refine u_zald B Z (t0 := 3) (ym_73 Y) h302 rfl (by omega) e305 dX12_controlled_497 ?_
            refine u_if_eq B (tgt := 504) (by omega) dX12_controlled_498 (by decide +kernel) (fun c307 => ?_) (fun c307 => ?_)
            · refine v_aload_n B dX12_controlled_504 rfl rfl ?_
              refine u_get B Z (C := RX12) (T := TX12) (N := 123) (ci := 12) hi_M_controlled_X12 Y.o h6 rfl 69 (by decide +kernel) (List.mem_of_getElem? (i := 77) rfl) rfl dX12_controlled_505 ?_
              refine v_iload_n B dX12_controlled_508 rfl rfl ?_
              refine v_iconst B (v := iI 0) dX12_controlled_509 rfl ?_
              refine u_zast B Z (t0 := 3) (x := iI 0) (y := iI 0) (ym_69 Y) h295 rfl (by omega) (narZ (by omega)) dX12_controlled_510 (fun σ308 h309 n310 => ?_)
              have e311 := el_upd (z := 0) e296 ⟨by omega, by omega⟩ (d : Int).toNat
              have F312 := F0.put (ym_69 Y) (by simp) n310
              have G313 := gp_69 Y G0 ⟨_, h309, e311⟩ n310
              refine v_aload_n B dX12_controlled_511 rfl rfl ?_
              have h314 := (n310 h (ne_ty Y.o (ym_69 Y) (by decide))).trans (h6)
              refine u_get B Z (C := RX12) (T := TX12) (N := 123) (ci := 12) hi_M_controlled_X12 Y.o h314 rfl 68 (by decide +kernel) (List.mem_of_getElem? (i := 36) rfl) rfl dX12_controlled_512 ?_
              refine v_iload_n B dX12_controlled_515 rfl rfl ?_
              refine v_iconst B (v := iI 0) dX12_controlled_516 rfl ?_
              obtain ⟨f315, h316, e317⟩ := ga_68 G313.t
              refine u_zast B Z (t0 := 3) (x := iI 0) (y := iI 0) (ym_68 Y) h316 rfl (by omega) (narZ (by omega)) dX12_controlled_517 (fun σ318 h319 n320 => ?_)
              have e321 := el_upd (z := 0) e317 ⟨by omega, by omega⟩ (d : Int).toNat
              have F322 := F312.put (ym_68 Y) (by simp) n320
              have G323 := gp_68 Y G313 ⟨_, h319, e321⟩ n320
              refine v_aload_n B dX12_controlled_518 rfl rfl ?_
              refine v_iload_n B dX12_controlled_519 rfl rfl ?_
              refine v_bipush B (v := iI 13) dX12_controlled_520 (by decide +kernel) ?_
              refine v_aload_n B dX12_controlled_522 rfl rfl ?_
              have h324 := (n320 h (ne_ty Y.o (ym_68 Y) (by decide))).trans (h314)
              refine u_get B Z (C := RX12) (T := TX12) (N := 123) (ci := 12) hi_M_controlled_X12 Y.o h324 rfl 81 (by decide +kernel) (List.mem_of_getElem? (i := 7) rfl) rfl dX12_controlled_523 ?_
              refine v_iconst B (v := iI 1) dX12_controlled_526 rfl ?_
              obtain ⟨f325, h326, e327⟩ := ga_81 G323.t
              obtain ⟨z328, e329, r330⟩ := e327 (1 : Int).toNat
              refine u_bald B Z (t0 := 2) (ym_81 Y) h326 rfl (by omega) e329 dX12_controlled_527 ?_
              refine v_sipush B (v := iI 255) dX12_controlled_528 (by decide +kernel) ?_
              obtain ⟨z331, e332, r333⟩ := iI_and z328 (c := 255) (by decide) (by decide)
              refine v_iand B (v := iI z331) dX12_controlled_531 e332 ?_
              refine v_iconst B (v := iI 0) dX12_controlled_532 rfl ?_
              refine v_iconst B (v := iI 0) dX12_controlled_533 rfl ?_
              refine u_callVv B Z hz (n := 5) (As := [.int (iI d), .int (iI 13), .int (iI z331), .int (iI 0), .int (iI 0)]) (rest := []) (c_M_complete5 l D K Z _ _ _ _ h q Y d 13 z331 0 0 ⟨by omega, by omega⟩ ⟨by omega, by omega⟩ ⟨by omega, by omega⟩ ⟨by omega, by omega⟩ ⟨by omega, by omega⟩ σ318 G323) gd_M_controlled_M_complete5_504 rfl rfl rfl (by decide +kernel) ⟨Nat.le_trans (by decide +kernel) hR.1, Nat.le_trans (by decide +kernel) hR.2⟩ Y.o (clsM G323.t) rfl rfl rfl rfl (Nat.le_of_ble_eq_true rfl) dX12_controlled_534 ⟨Nat.zero_le _, Nat.zero_le _⟩ (fun σ334 p335 => ?_)
              obtain ⟨G337, F338⟩ := p335
              have F339 := F322.call F338 (by first | rfl | simp)
              exact hend σ334 _ _ G337 F339 dX12_controlled_537
            · refine v_goto B (tgt := 537) dX12_controlled_501 (by decide +kernel) ?_
              exact hend σ0 _ _ G0 F0 dX12_controlled_537
        | 11, o37, x38 =>
          replace o37 : o35 = 292 := by simp at o37; omega
          obtain rfl : g36 = 442 := by omega
          refine v_aload_n B dX12_controlled_442 rfl rfl ?_
          refine v_iload_n B dX12_controlled_443 rfl rfl ?_
          refine v_bipush B (v := iI 14) dX12_controlled_444 (by decide +kernel) ?_
          refine v_aload_n B dX12_controlled_446 rfl rfl ?_
          refine u_get B Z (C := RX12) (T := TX12) (N := 123) (ci := 12) hi_M_controlled_X12 Y.o h6 rfl 81 (by decide +kernel) (List.mem_of_getElem? (i := 7) rfl) rfl dX12_controlled_447 ?_
          refine v_iconst B (v := iI 1) dX12_controlled_450 rfl ?_
          obtain ⟨f340, h341, e342⟩ := ga_81 G0.t
          obtain ⟨z343, e344, r345⟩ := e342 (1 : Int).toNat
          refine u_bald B Z (t0 := 2) (ym_81 Y) h341 rfl (by omega) e344 dX12_controlled_451 ?_
          refine v_sipush B (v := iI 255) dX12_controlled_452 (by decide +kernel) ?_
          obtain ⟨z346, e347, r348⟩ := iI_and z343 (c := 255) (by decide) (by decide)
          refine v_iand B (v := iI z346) dX12_controlled_455 e347 ?_
          refine v_aload_n B dX12_controlled_456 rfl rfl ?_
          refine u_get B Z (C := RX12) (T := TX12) (N := 123) (ci := 12) hi_M_controlled_X12 Y.o h6 rfl 81 (by decide +kernel) (List.mem_of_getElem? (i := 7) rfl) rfl dX12_controlled_457 ?_
          refine v_iconst B (v := iI 2) dX12_controlled_460 rfl ?_
          refine u_callSi B Z hz (n := 2) (As := [.ref (q 81), .int (iI 2)]) (rest := [.int (iI z346), .int (iI 14), .int (iI d), .ref h]) (c_M_two l D K Z _ _ _ _ h q Y 81 40 2 rfl ⟨by omega, by omega⟩ σ0 (G0.t) (by omega)) gd_M_controlled_M_two_489 rfl rfl rfl (by decide +kernel) ⟨Nat.le_trans (by decide +kernel) hR.1, Nat.le_trans (by decide +kernel) hR.2⟩ rfl rfl (Nat.le_of_ble_eq_true rfl) dX12_controlled_461 ⟨Nat.zero_le _, Nat.zero_le _⟩ (fun v351 σ349 p350 => ?_)
          obtain ⟨rfl, z352, e353, r354⟩ := p350
          subst e353
          refine v_aload_n B dX12_controlled_464 rfl rfl ?_
          refine u_get B Z (C := RX12) (T := TX12) (N := 123) (ci := 12) hi_M_controlled_X12 Y.o h6 rfl 81 (by decide +kernel) (List.mem_of_getElem? (i := 7) rfl) rfl dX12_controlled_465 ?_
          refine v_iconst B (v := iI 4) dX12_controlled_468 rfl ?_
          refine u_callSi B Z hz (n := 2) (As := [.ref (q 81), .int (iI 4)]) (rest := [.int (iI z352), .int (iI z346), .int (iI 14), .int (iI d), .ref h]) (c_M_two l D K Z _ _ _ _ h q Y 81 40 4 rfl ⟨by omega, by omega⟩ σ0 (G0.t) (by omega)) gd_M_controlled_M_two_489 rfl rfl rfl (by decide +kernel) ⟨Nat.le_trans (by decide +kernel) hR.1, Nat.le_trans (by decide +kernel) hR.2⟩ rfl rfl (Nat.le_of_ble_eq_true rfl) dX12_controlled_469 ⟨Nat.zero_le _, Nat.zero_le _⟩ (fun v357 σ355 p356 => ?_)
          obtain ⟨rfl, z358, e359, r360⟩ := p356
          subst e359
          refine u_callVv B Z hz (n := 5) (As := [.int (iI d), .int (iI 14), .int (iI z346), .int (iI z352), .int (iI z358)]) (rest := []) (c_M_complete5 l D K Z _ _ _ _ h q Y d 14 z346 z352 z358 ⟨by omega, by omega⟩ ⟨by omega, by omega⟩ ⟨by omega, by omega⟩ ⟨by omega, by omega⟩ ⟨by omega, by omega⟩ σ0 G0) gd_M_controlled_M_complete5_504 rfl rfl rfl (by decide +kernel) ⟨Nat.le_trans (by decide +kernel) hR.1, Nat.le_trans (by decide +kernel) hR.2⟩ Y.o (clsM G0.t) rfl rfl rfl rfl (Nat.le_of_ble_eq_true rfl) dX12_controlled_472 ⟨Nat.zero_le _, Nat.zero_le _⟩ (fun σ361 p362 => ?_)
          obtain ⟨G364, F365⟩ := p362
          have F366 := F0.call F365 (by first | rfl | simp)
          refine v_aload_n B dX12_controlled_475 rfl rfl ?_
          refine v_iload_n B dX12_controlled_476 rfl rfl ?_
          have h367 := (F365 (q 57) _ (ym_57 Y) (by first | rfl | simp)).trans (h13)
          refine u_callVv B Z hz (n := 1) (As := [.int (iI d)]) (rest := []) (c_M_version l D K Z _ _ _ _ h q Y d z15 ⟨by omega, by omega⟩ ⟨by omega, by omega⟩ σ361 G364 (At.mk h367 e16 (by omega) ⟨by omega, by omega⟩)) gd_M_controlled_M_version_507 rfl rfl rfl (by decide +kernel) ⟨Nat.le_trans (by decide +kernel) hR.1, Nat.le_trans (by decide +kernel) hR.2⟩ Y.o (clsM G364.t) rfl rfl rfl rfl (Nat.le_of_ble_eq_true rfl) dX12_controlled_477 ⟨Nat.zero_le _, Nat.zero_le _⟩ (fun σ368 p369 => ?_)
          obtain ⟨G372, F373, po371⟩ := p369
          have F374 := F366.call F373 (by first | rfl | simp)
          obtain ⟨f375, h376, e377⟩ := ga_57 G372.t
          obtain ⟨z378, e379, r380⟩ := e377 (d : Int).toNat
          have r381 := po371.use h376 e379 (by omega)
          refine v_goto B (tgt := 537) dX12_controlled_480 (by decide +kernel) ?_
          exact hend σ368 _ _ G372 F374 dX12_controlled_537
        | i34 + 12, o37, x38 => exact absurd (o37.symm.trans (Array.getElem?_eq_none (by simp))) (by simp)
      · intro x38
        refine v_aload_n B dX12_controlled_483 rfl rfl ?_
        refine u_get B Z (C := RX12) (T := TX12) (N := 123) (ci := 12) hi_M_controlled_X12 Y.o h6 rfl 69 (by decide +kernel) (List.mem_of_getElem? (i := 77) rfl) rfl dX12_controlled_484 ?_
        refine v_iload_n B dX12_controlled_487 rfl rfl ?_
        obtain ⟨f382, h383, e384⟩ := ga_69 G0.t
        obtain ⟨z385, e386, r387⟩ := e384 (d : Int).toNat
        refine u_zald B Z (t0 := 3) (ym_69 Y) h383 rfl (by omega) e386 dX12_controlled_488 ?_
        refine u_if_eq B (tgt := 537) (by omega) dX12_controlled_489 (by decide +kernel) (fun c388 => ?_) (fun c388 => ?_)
        · exact hend σ0 _ _ G0 F0 dX12_controlled_537
        · refine v_aload_n B dX12_controlled_492 rfl rfl ?_
          refine u_get B Z (C := RX12) (T := TX12) (N := 123) (ci := 12) hi_M_controlled_X12 Y.o h6 rfl 73 (by decide +kernel) (List.mem_of_getElem? (i := 31) rfl) rfl dX12_controlled_493 ?_
          refine v_iload_n B dX12_controlled_496 rfl rfl ?_
          obtain ⟨f389, h390, e391⟩ := ga_73 G0.t
          obtain ⟨z392, e393, r394⟩ := e391 (d : Int).toNat
          refine u_zald B Z (t0 := 3) (ym_73 Y) h390 rfl (by omega) e393 dX12_controlled_497 ?_
          refine u_if_eq B (tgt := 504) (by omega) dX12_controlled_498 (by decide +kernel) (fun c395 => ?_) (fun c395 => ?_)
          · refine v_aload_n B dX12_controlled_504 rfl rfl ?_
            refine u_get B Z (C := RX12) (T := TX12) (N := 123) (ci := 12) hi_M_controlled_X12 Y.o h6 rfl 69 (by decide +kernel) (List.mem_of_getElem? (i := 77) rfl) rfl dX12_controlled_505 ?_
            refine v_iload_n B dX12_controlled_508 rfl rfl ?_
            refine v_iconst B (v := iI 0) dX12_controlled_509 rfl ?_
            refine u_zast B Z (t0 := 3) (x := iI 0) (y := iI 0) (ym_69 Y) h383 rfl (by omega) (narZ (by omega)) dX12_controlled_510 (fun σ396 h397 n398 => ?_)
            have e399 := el_upd (z := 0) e384 ⟨by omega, by omega⟩ (d : Int).toNat
            have F400 := F0.put (ym_69 Y) (by simp) n398
            have G401 := gp_69 Y G0 ⟨_, h397, e399⟩ n398
            refine v_aload_n B dX12_controlled_511 rfl rfl ?_
            have h402 := (n398 h (ne_ty Y.o (ym_69 Y) (by decide))).trans (h6)
            refine u_get B Z (C := RX12) (T := TX12) (N := 123) (ci := 12) hi_M_controlled_X12 Y.o h402 rfl 68 (by decide +kernel) (List.mem_of_getElem? (i := 36) rfl) rfl dX12_controlled_512 ?_
            refine v_iload_n B dX12_controlled_515 rfl rfl ?_
            refine v_iconst B (v := iI 0) dX12_controlled_516 rfl ?_
            obtain ⟨f403, h404, e405⟩ := ga_68 G401.t
            refine u_zast B Z (t0 := 3) (x := iI 0) (y := iI 0) (ym_68 Y) h404 rfl (by omega) (narZ (by omega)) dX12_controlled_517 (fun σ406 h407 n408 => ?_)
            have e409 := el_upd (z := 0) e405 ⟨by omega, by omega⟩ (d : Int).toNat
            have F410 := F400.put (ym_68 Y) (by simp) n408
            have G411 := gp_68 Y G401 ⟨_, h407, e409⟩ n408
            refine v_aload_n B dX12_controlled_518 rfl rfl ?_
            refine v_iload_n B dX12_controlled_519 rfl rfl ?_
            refine v_bipush B (v := iI 13) dX12_controlled_520 (by decide +kernel) ?_
            refine v_aload_n B dX12_controlled_522 rfl rfl ?_
            have h412 := (n408 h (ne_ty Y.o (ym_68 Y) (by decide))).trans (h402)
            refine u_get B Z (C := RX12) (T := TX12) (N := 123) (ci := 12) hi_M_controlled_X12 Y.o h412 rfl 81 (by decide +kernel) (List.mem_of_getElem? (i := 7) rfl) rfl dX12_controlled_523 ?_
            refine v_iconst B (v := iI 1) dX12_controlled_526 rfl ?_
            obtain ⟨f413, h414, e415⟩ := ga_81 G411.t
            obtain ⟨z416, e417, r418⟩ := e415 (1 : Int).toNat
            refine u_bald B Z (t0 := 2) (ym_81 Y) h414 rfl (by omega) e417 dX12_controlled_527 ?_
            refine v_sipush B (v := iI 255) dX12_controlled_528 (by decide +kernel) ?_
            obtain ⟨z419, e420, r421⟩ := iI_and z416 (c := 255) (by decide) (by decide)
            refine v_iand B (v := iI z419) dX12_controlled_531 e420 ?_
            refine v_iconst B (v := iI 0) dX12_controlled_532 rfl ?_
            refine v_iconst B (v := iI 0) dX12_controlled_533 rfl ?_
            refine u_callVv B Z hz (n := 5) (As := [.int (iI d), .int (iI 13), .int (iI z419), .int (iI 0), .int (iI 0)]) (rest := []) (c_M_complete5 l D K Z _ _ _ _ h q Y d 13 z419 0 0 ⟨by omega, by omega⟩ ⟨by omega, by omega⟩ ⟨by omega, by omega⟩ ⟨by omega, by omega⟩ ⟨by omega, by omega⟩ σ406 G411) gd_M_controlled_M_complete5_504 rfl rfl rfl (by decide +kernel) ⟨Nat.le_trans (by decide +kernel) hR.1, Nat.le_trans (by decide +kernel) hR.2⟩ Y.o (clsM G411.t) rfl rfl rfl rfl (Nat.le_of_ble_eq_true rfl) dX12_controlled_534 ⟨Nat.zero_le _, Nat.zero_le _⟩ (fun σ422 p423 => ?_)
            obtain ⟨G425, F426⟩ := p423
            have F427 := F410.call F426 (by first | rfl | simp)
            exact hend σ422 _ _ G425 F427 dX12_controlled_537
          · refine v_goto B (tgt := 537) dX12_controlled_501 (by decide +kernel) ?_
            exact hend σ0 _ _ G0 F0 dX12_controlled_537
    · refine v_iload_n B dX12_controlled_133 rfl rfl ?_
      refine v_bipush B (v := iI 7) dX12_controlled_134 (by decide +kernel) ?_
      refine u_icmp_eq B (tgt := 148) (by omega) (by omega) dX12_controlled_136 (by decide +kernel) (fun c428 => ?_) (fun c428 => ?_)
      · exact hend σ0 _ _ G0 F0 dX12_controlled_148
      · refine v_aload_n B dX12_controlled_139 rfl rfl ?_
        refine v_iload_n B dX12_controlled_140 rfl rfl ?_
        refine v_bipush B (v := iI 7) dX12_controlled_141 (by decide +kernel) ?_
        refine v_iload_n B dX12_controlled_143 rfl rfl ?_
        refine v_iconst B (v := iI 1) dX12_controlled_144 rfl ?_
        refine u_callVv B Z hz (n := 4) (As := [.int (iI d), .int (iI 7), .int (iI z126_3), .int (iI 1)]) (rest := []) (c_M_adds4 l D K Z _ _ _ _ h q Y d 7 z126_3 1 z15 ⟨by omega, by omega⟩ ⟨by omega, by omega⟩ ⟨by omega, by omega⟩ ⟨by omega, by omega⟩ ⟨by omega, by omega⟩ σ0 G0 (At.mk h13 e16 (by omega) ⟨by omega, by omega⟩)) gd_M_controlled_M_adds4_486 rfl rfl rfl (by decide +kernel) ⟨Nat.le_trans (by decide +kernel) hR.1, Nat.le_trans (by decide +kernel) hR.2⟩ Y.o (clsM G0.t) rfl rfl rfl rfl (Nat.le_of_ble_eq_true rfl) dX12_controlled_145 ⟨Nat.zero_le _, Nat.zero_le _⟩ (fun σ429 p430 => ?_)
        obtain ⟨G433, F434, po432⟩ := p430
        have F435 := F0.call F434 (by first | rfl | simp)
        obtain ⟨f436, h437, e438⟩ := ga_57 G433.t
        obtain ⟨z439, e440, r441⟩ := e438 (d : Int).toNat
        have r442 := po432.use h437 e440 (by omega)
        exact hend σ429 _ _ G433 F435 dX12_controlled_148
  have J125 : ∀ (z125_3 : Int), (1 ≤ x2 ∧ x2 ≤ 13) → (0 ≤ z15 ∧ z15 ≤ 4) → (0 ≤ z125_3 ∧ z125_3 ≤ 255) → V p l e R s m args below meth c 8 D A Q (0, 0) (fd dom σ0) [(0, .ref h), (1, .int (iI d)), (3, .int (iI z125_3))] 125 [] := by
    intro z125_3 rv125_x2 rv125_z15 r125_3
    refine v_iconst B (v := iI 0) dX12_controlled_125 rfl ?_
    exact J126 z125_3 0 ⟨by omega, by omega⟩ ⟨by omega, by omega⟩ ⟨by omega, by omega⟩
  have J121 : ∀ (z121_3 : Int), (0 ≤ z15 ∧ z15 ≤ 4) → (0 ≤ z121_3 ∧ z121_3 ≤ 255) → V p l e R s m args below meth c 8 D A Q (0, 0) (fd dom σ0) [(0, .ref h), (1, .int (iI d)), (3, .int (iI z121_3))] 121 [] := by
    intro z121_3 rv121_z15 r121_3
    refine v_iconst B (v := iI 1) dX12_controlled_121 rfl ?_
    refine v_goto B (tgt := 126) dX12_controlled_122 (by decide +kernel) ?_
    exact J126 z121_3 1 ⟨by omega, by omega⟩ ⟨by omega, by omega⟩ ⟨by omega, by omega⟩
  have J75 : ∀ (z75_3 : Int) (z75_s0 : Int), (0 ≤ z15 ∧ z15 ≤ 4) → (0 ≤ z75_3 ∧ z75_3 ≤ 255) → (0 ≤ z75_s0 ∧ z75_s0 ≤ 1) → V p l e R s m args below meth c 8 D A Q (0, 0) (fd dom σ0) [(0, .ref h), (1, .int (iI d)), (2, .int (iI x2)), (3, .int (iI z75_3))] 75 [.int (iI z75_s0)] := by
    intro z75_3 z75_s0 rv75_z15 r75_3 r75_s0
    refine v_istore B (lv' := [(5, .int (iI z75_s0)), (0, .ref h), (1, .int (iI d)), (2, .int (iI x2)), (3, .int (iI z75_3))]) dX12_controlled_75 (by decide +kernel) rfl ?_
    refine v_iload_n B dX12_controlled_77 rfl rfl ?_
    refine u_callSi B Z hz (n := 1) (As := [.int (iI z75_3)]) (rest := []) (c_M_bytesOf l D K Z _ _ _ _ h q Y z75_3 ⟨by omega, by omega⟩ σ0 (G0.t)) gd_M_controlled_M_bytesOf_483 rfl rfl rfl (by decide +kernel) ⟨Nat.le_trans (by decide +kernel) hR.1, Nat.le_trans (by decide +kernel) hR.2⟩ rfl rfl (Nat.le_of_ble_eq_true rfl) dX12_controlled_78 ⟨Nat.zero_le _, Nat.zero_le _⟩ (fun v445 σ443 p444 => ?_)
    obtain ⟨rfl, z446, e447, r448⟩ := p444
    subst e447
    refine v_iload_n B dX12_controlled_81 rfl rfl ?_
    refine v_iconst B (v := iI 1) dX12_controlled_82 rfl ?_
    refine v_isub B (v := iI (x2 + (-1))) dX12_controlled_83 ((iI_sub _ _).trans (congrArg iI (by omega))) ?_
    refine u_icmp_ne B (tgt := 121) (by omega) (by omega) dX12_controlled_84 (by decide +kernel) (fun c449 => ?_) (fun c449 => ?_)
    · refine v_lv [1, 2, 4] rfl ?_
      exact J121 z75_3 ⟨by omega, by omega⟩ ⟨by omega, by omega⟩
    · refine v_iload B dX12_controlled_87 rfl ?_
      refine u_if_eq B (tgt := 105) (by omega) dX12_controlled_89 (by decide +kernel) (fun c450 => ?_) (fun c450 => ?_)
      · refine v_iload_n B dX12_controlled_105 rfl rfl ?_
        refine v_iconst B (v := iI 4) dX12_controlled_106 rfl ?_
        refine u_icmp_eq B (tgt := 121) (by omega) (by omega) dX12_controlled_107 (by decide +kernel) (fun c451 => ?_) (fun c451 => ?_)
        · refine v_lv [1, 2, 4] rfl ?_
          exact J121 z75_3 ⟨by omega, by omega⟩ ⟨by omega, by omega⟩
        · refine v_iload_n B dX12_controlled_110 rfl rfl ?_
          refine v_iconst B (v := iI 5) dX12_controlled_111 rfl ?_
          refine u_icmp_eq B (tgt := 121) (by omega) (by omega) dX12_controlled_112 (by decide +kernel) (fun c452 => ?_) (fun c452 => ?_)
          · refine v_lv [1, 2, 4] rfl ?_
            exact J121 z75_3 ⟨by omega, by omega⟩ ⟨by omega, by omega⟩
          · refine v_iload_n B dX12_controlled_115 rfl rfl ?_
            refine v_bipush B (v := iI 13) dX12_controlled_116 (by decide +kernel) ?_
            refine u_icmp_ne B (tgt := 125) (by omega) (by omega) dX12_controlled_118 (by decide +kernel) (fun c453 => ?_) (fun c453 => ?_)
            · refine v_lv [1, 2, 4] rfl ?_
              exact J125 z75_3 ⟨by omega, by omega⟩ ⟨by omega, by omega⟩ ⟨by omega, by omega⟩
            · refine v_lv [1, 2, 4] rfl ?_
              exact J121 z75_3 ⟨by omega, by omega⟩ ⟨by omega, by omega⟩
      · refine v_iload_n B dX12_controlled_92 rfl rfl ?_
        refine v_iconst B (v := iI 1) dX12_controlled_93 rfl ?_
        refine u_icmp_eq B (tgt := 121) (by omega) (by omega) dX12_controlled_94 (by decide +kernel) (fun c454 => ?_) (fun c454 => ?_)
        · refine v_lv [1, 2, 4] rfl ?_
          exact J121 z75_3 ⟨by omega, by omega⟩ ⟨by omega, by omega⟩
        · refine v_iload_n B dX12_controlled_97 rfl rfl ?_
          refine v_iconst B (v := iI 3) dX12_controlled_98 rfl ?_
          refine u_icmp_ne B (tgt := 125) (by omega) (by omega) dX12_controlled_99 (by decide +kernel) (fun c455 => ?_) (fun c455 => ?_)
          · refine v_lv [1, 2, 4] rfl ?_
            exact J125 z75_3 ⟨by omega, by omega⟩ ⟨by omega, by omega⟩ ⟨by omega, by omega⟩
          · refine v_goto B (tgt := 121) dX12_controlled_102 (by decide +kernel) ?_
            refine v_lv [1, 2, 4] rfl ?_
            exact J121 z75_3 ⟨by omega, by omega⟩ ⟨by omega, by omega⟩
  have J60 : ∀ (z60_3 : Int), (0 ≤ z15 ∧ z15 ≤ 4) → (0 ≤ z60_3 ∧ z60_3 ≤ 255) → V p l e R s m args below meth c 8 D A Q (0, 0) (fd dom σ0) [(0, .ref h), (1, .int (iI d)), (2, .int (iI x2)), (3, .int (iI z60_3))] 60 [] := by
    intro z60_3 rv60_z15 r60_3
    refine v_aload_n B dX12_controlled_60 rfl rfl ?_
    refine u_get B Z (C := RX12) (T := TX12) (N := 123) (ci := 12) hi_M_controlled_X12 Y.o h6 rfl 7 (by decide +kernel) (List.mem_of_getElem? (i := 54) rfl) rfl dX12_controlled_61 ?_
    refine v_iload_n B dX12_controlled_64 rfl rfl ?_
    obtain ⟨f456, h457, e458⟩ := ga_7 G0.t
    obtain ⟨z459, e460, r461⟩ := e458 (d : Int).toNat
    refine u_iald B Z (t0 := 0) (ym_7 Y) h457 rfl (by omega) e460 dX12_controlled_65 ?_
    refine v_iconst B (v := iI 4) dX12_controlled_66 rfl ?_
    refine u_icmp_ne B (tgt := 74) (by omega) (by omega) dX12_controlled_67 (by decide +kernel) (fun c462 => ?_) (fun c462 => ?_)
    · refine v_iconst B (v := iI 0) dX12_controlled_74 rfl ?_
      exact J75 z60_3 0 ⟨by omega, by omega⟩ ⟨by omega, by omega⟩ ⟨by omega, by omega⟩
    · refine v_iconst B (v := iI 1) dX12_controlled_70 rfl ?_
      refine v_goto B (tgt := 75) dX12_controlled_71 (by decide +kernel) ?_
      exact J75 z60_3 1 ⟨by omega, by omega⟩ ⟨by omega, by omega⟩ ⟨by omega, by omega⟩
  have J33 : ∀ (z33_3 : Int) (z33_s0 : Int), (0 ≤ z33_3 ∧ z33_3 ≤ 255) → (0 ≤ z33_s0 ∧ z33_s0 ≤ 1) → V p l e R s m args below meth c 8 D A Q (0, 0) (fd dom σ0) [(0, .ref h), (1, .int (iI d)), (2, .int (iI x2)), (3, .int (iI z33_3))] 33 [.int (iI z33_s0)] := by
    intro z33_3 z33_s0 r33_3 r33_s0
    refine v_istore B (lv' := [(4, .int (iI z33_s0)), (0, .ref h), (1, .int (iI d)), (2, .int (iI x2)), (3, .int (iI z33_3))]) dX12_controlled_33 (by decide +kernel) rfl ?_
    refine v_aload_n B dX12_controlled_35 rfl rfl ?_
    refine u_get B Z (C := RX12) (T := TX12) (N := 123) (ci := 12) hi_M_controlled_X12 Y.o h6 rfl 57 (by decide +kernel) (List.mem_of_getElem? (i := 69) rfl) rfl dX12_controlled_36 ?_
    refine v_iload_n B dX12_controlled_39 rfl rfl ?_
    refine u_iald B Z (t0 := 0) (ym_57 Y) h13 rfl (by omega) e16 dX12_controlled_40 ?_
    refine v_iconst B (v := iI 4) dX12_controlled_41 rfl ?_
    refine u_icmp_gt B (tgt := 59) (by omega) (by omega) dX12_controlled_42 (by decide +kernel) (fun c463 => ?_) (fun c463 => ?_)
    · exact hend σ0 _ _ G0 F0 dX12_controlled_59
    · refine v_aload_n B dX12_controlled_45 rfl rfl ?_
      refine u_get B Z (C := RX12) (T := TX12) (N := 123) (ci := 12) hi_M_controlled_X12 Y.o h6 rfl 68 (by decide +kernel) (List.mem_of_getElem? (i := 36) rfl) rfl dX12_controlled_46 ?_
      refine v_iload_n B dX12_controlled_49 rfl rfl ?_
      obtain ⟨f464, h465, e466⟩ := ga_68 G0.t
      obtain ⟨z467, e468, r469⟩ := e466 (d : Int).toNat
      refine u_zald B Z (t0 := 3) (ym_68 Y) h465 rfl (by omega) e468 dX12_controlled_50 ?_
      refine u_if_eq B (tgt := 60) (by omega) dX12_controlled_51 (by decide +kernel) (fun c470 => ?_) (fun c470 => ?_)
      · refine v_lv [1, 2, 3, 4] rfl ?_
        exact J60 z33_3 ⟨by omega, by omega⟩ ⟨by omega, by omega⟩
      · refine v_iload B dX12_controlled_54 rfl ?_
        refine u_if_ne B (tgt := 60) (by omega) dX12_controlled_56 (by decide +kernel) (fun c471 => ?_) (fun c471 => ?_)
        · refine v_lv [1, 2, 3, 4] rfl ?_
          exact J60 z33_3 ⟨by omega, by omega⟩ ⟨by omega, by omega⟩
        · exact hend σ0 _ _ G0 F0 dX12_controlled_59
  have J28 : ∀ (z28_3 : Int), (2 ≤ z28_3 ∧ z28_3 ≤ 13) → V p l e R s m args below meth c 8 D A Q (0, 0) (fd dom σ0) [(0, .ref h), (1, .int (iI d)), (2, .int (iI x2)), (3, .int (iI z28_3))] 28 [] := by
    intro z28_3 r28_3
    refine v_iconst B (v := iI 1) dX12_controlled_28 rfl ?_
    refine v_goto B (tgt := 33) dX12_controlled_29 (by decide +kernel) ?_
    exact J33 z28_3 1 ⟨by omega, by omega⟩ ⟨by omega, by omega⟩
  have J22 : ∀ (z22_3 : Int), (0 ≤ z22_3 ∧ z22_3 ≤ 255) → V p l e R s m args below meth c 8 D A Q (0, 0) (fd dom σ0) [(0, .ref h), (1, .int (iI d)), (2, .int (iI x2)), (3, .int (iI z22_3))] 22 [] := by
    intro z22_3 r22_3
    refine v_iload_n B dX12_controlled_22 rfl rfl ?_
    refine v_bipush B (v := iI 13) dX12_controlled_23 (by decide +kernel) ?_
    refine u_icmp_ne B (tgt := 32) (by omega) (by omega) dX12_controlled_25 (by decide +kernel) (fun c472 => ?_) (fun c472 => ?_)
    · refine v_iconst B (v := iI 0) dX12_controlled_32 rfl ?_
      exact J33 z22_3 0 ⟨by omega, by omega⟩ ⟨by omega, by omega⟩
    · exact J28 z22_3 ⟨by omega, by omega⟩
  refine v_aload_n B dX12_controlled_0 rfl rfl ?_
  refine u_get B Z (C := RX12) (T := TX12) (N := 123) (ci := 12) hi_M_controlled_X12 Y.o h6 rfl 81 (by decide +kernel) (List.mem_of_getElem? (i := 7) rfl) rfl dX12_controlled_1 ?_
  refine v_iconst B (v := iI 0) dX12_controlled_4 rfl ?_
  obtain ⟨f473, h474, e475⟩ := ga_81 G0.t
  obtain ⟨z476, e477, r478⟩ := e475 (0 : Int).toNat
  refine u_bald B Z (t0 := 2) (ym_81 Y) h474 rfl (by omega) e477 dX12_controlled_5 ?_
  refine v_sipush B (v := iI 255) dX12_controlled_6 (by decide +kernel) ?_
  obtain ⟨z479, e480, r481⟩ := iI_and z476 (c := 255) (by decide) (by decide)
  refine v_iand B (v := iI z479) dX12_controlled_9 e480 ?_
  refine v_istore_n B (lv' := [(3, .int (iI z479)), (0, .ref h), (1, .int (iI d)), (2, .int (iI x2))]) dX12_controlled_10 rfl (by decide +kernel) rfl ?_
  refine v_iload_n B dX12_controlled_11 rfl rfl ?_
  refine v_iconst B (v := iI 2) dX12_controlled_12 rfl ?_
  refine u_icmp_lt B (tgt := 22) (by omega) (by omega) dX12_controlled_13 (by decide +kernel) (fun c482 => ?_) (fun c482 => ?_)
  · refine v_lv [1, 2, 3, 0] rfl ?_
    exact J22 z479 ⟨by omega, by omega⟩
  · refine v_iload_n B dX12_controlled_16 rfl rfl ?_
    refine v_bipush B (v := iI 6) dX12_controlled_17 (by decide +kernel) ?_
    refine u_icmp_le B (tgt := 28) (by omega) (by omega) dX12_controlled_19 (by decide +kernel) (fun c483 => ?_) (fun c483 => ?_)
    · refine v_lv [1, 2, 3, 0] rfl ?_
      exact J28 z479 ⟨by omega, by omega⟩
    · refine v_lv [1, 2, 3, 0] rfl ?_
      exact J22 z479 ⟨by omega, by omega⟩
set_option maxRecDepth 100000 in
theorem c_M_controlled (l : Launch) (D : va_G) (K : Nat → ClassId) {τ : Nat → Option Ty} {dom : List Nat} (Z : Sk τ dom) (zb zL : Nat) (zx : Nat → Int32) (zs : Nat → Nat) (h : Nat) (q : Nat → Nat) (Y : MS τ h q) (d : Int) (x2 : Int) (r_d : 0 ≤ d ∧ d ≤ 1) (r_x2 : 1 ≤ x2 ∧ x2 ≤ 31) (σ0 : Nat → va_E) (G0 : GM K h q σ0) : MZ l yX12_controlled wp_M_controlled ({ frames := 4, cells := 0, slots := 0, locals := 101 }) D (tysA K) [.ref h, .int (iI d), .int (iI x2)] (fd dom σ0) zb zL zx zs (Qv D (fun σ' => GM K h q σ' ∧ Fr τ [(116, 0), (138, 0), (141, 0), (171, 0), (158, 0), (180, 0), (161, 0), (167, 0), (157, 0), (172, 0), (159, 0), (177, 0), (164, 0), (104, 0), (105, 0), (106, 0), (163, 0), (174, 0), (170, 0), (168, 0), (108, 0), (165, 0), (166, 0), (173, 0), (145, 0), (144, 0), (146, 0), (169, 0), (176, 0), (136, 0), (137, 0)] σ0 σ') (fun σ' => fd dom σ')) 0 0 := by
  refine mz_of (cc := cX12_controlled) (maxL := 8) (ret := none) (by decide +kernel) rfl (Nat.le_of_ble_eq_true rfl) ?_
  intro p e s m below meth c A B hr hlk _ hz
  exact b_M_controlled ⟨Nat.le_refl _, Nat.le_refl _⟩ B Z hz h q Y d x2 r_d r_x2 σ0 G0 (fun σ' lv pc G F hd => v_vret B hr hlk σ' ⟨G, F⟩ rfl (Nat.le_refl _) (Nat.le_refl _) hd)
