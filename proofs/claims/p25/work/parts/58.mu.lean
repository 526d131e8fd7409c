def wp_M_executes : List Cond := .code yX12_executes cX12_executes 9 none :: (([.fieldLink RX12 290 "LowEnergyModel" "said" "[B", .methodLink RX12 527 yX12_says, .instanceMethod yX12_says, .selects RX12 yX12_says yX12_says, .initialized RX12, .code yX12_says cX12_says 5 none, .fieldLink RX12 275 "LowEnergyModel" "messages" "[I", .fieldLink RX12 266 "LowEnergyModel" "message" "[B", .methodLink RX12 432 yX12_number, .static yX12_number, .code yX12_number cX12_number 6 none, .methodLink RX12 29 yX12_copy, .static yX12_copy, .code yX12_copy cX12_copy 6 none, .fieldLink RX12 272 "LowEnergyModel" "messageMany" "[I", .fieldLink RX12 329 "LowEnergyModel" "length" "[I", .fieldLink RX12 359 "LowEnergyModel" "trialLength" "[I", .fieldLink RX12 347 "LowEnergyModel" "trial" "[B", .fieldLink RX12 341 "LowEnergyModel" "values" "[B", .methodLink RX12 564 yX12_error, .instanceMethod yX12_error, .selects RX12 yX12_error yX12_error, .code yX12_error cX12_error 5 none, .fieldLink RX12 353 "LowEnergyModel" "partPlace" "[I", .fieldLink RX12 350 "LowEnergyModel" "partHandle" "[I", .fieldLink RX12 356 "LowEnergyModel" "partMany" "[I", .fieldLink RX12 344 "LowEnergyModel" "partBytes" "[B", .methodLink RX12 596 Lib.Math.max.name, .static Lib.Math.max.name, .initialized "java/lang/Math", .code Lib.Math.max.name Lib.Math.max.code 2 (some .int), .fieldLink RX12 338 "LowEnergyModel" "parts" "[I"] : List Cond) ++ (wsX120 ++ ([])))
theorem hi_M_executes_X12 : ∀ x ∈ u_ws RX12 TX12 123, x ∈ wp_M_executes := fun _ h => List.mem_cons_of_mem _ (List.mem_append_right _ (List.mem_append_left _ h))
set_option maxRecDepth 100000 in
theorem gd_M_executes_M_says_527 : GoodIn wp_M_executes (wsV RX12 527 RX12 yX12_says wp_M_says) := goodIn_app (goodIn_r _ [2, 3, 4, 5] rfl rfl) (goodIn_ca (goodIn_r _ [6, 7, 8, 9, 10, 5, 11, 1, 12, 13, 14, 15] rfl rfl) (goodIn_app (goodIn_cls hi_M_executes_X12 gw_X12) (goodIn_nil)))
set_option maxRecDepth 100000 in
theorem gd_M_executes_M_copy_29 : GoodIn wp_M_executes (va_wsS RX12 29 yX12_copy wp_M_copy) := goodIn_app (goodIn_r _ [12, 13, 5] rfl rfl) (goodIn_ca (goodIn_r _ [14] rfl rfl) (goodIn_nil))
set_option maxRecDepth 100000 in
theorem gd_M_executes_M_error_564 : GoodIn wp_M_executes (wsV RX12 564 RX12 yX12_error wp_M_error) := goodIn_app (goodIn_r _ [20, 21, 22, 5] rfl rfl) (goodIn_ca (goodIn_r _ [23, 1, 9, 10, 5, 11, 2, 3, 4, 6, 7, 8, 12, 13, 14, 15] rfl rfl) (goodIn_app (goodIn_cls hi_M_executes_X12 gw_X12) (goodIn_nil)))
set_option maxHeartbeats 4000000 in
set_option maxRecDepth 100000 in
theorem b_M_executes {p : Program} {l : Launch} {e : Env} {R : Room} {s : State} {m : MethodId} {args : Array Value} {below : List Frame} {meth : Method} {c : Code} {D : va_G} {K : Nat → ClassId} {A : Nat → Prop} {Q : State → Prop} {τ : Nat → Option Ty} {dom : List Nat} {zb zL : Nat} {zx : Nat → Int32} {zs : Nat → Nat} (hR : 3 ≤ R.frames ∧ 73 ≤ R.locals) (B : Bx p s m args c cX12_executes 9 RX12 wp_M_executes D (tysA K) A) (Z : Sk τ dom) (hz : ZL zb zL zx zs A s s.heap) (h : Nat) (q : Nat → Nat) (Y : MS τ h q) (d : Int) (x2 : Int) (r_d : 0 ≤ d ∧ d ≤ 1) (r_x2 : 0 ≤ x2 ∧ x2 ≤ 255) (σ0 : Nat → va_E) (G0 : GM K h q σ0) (hM : At σ0 (q 85) (d : Int).toNat (0) (7)) (hend : ∀ (σ' : Nat → va_E) (lv : List (Nat × Value)) (pc : Nat), GM K h q σ' → Fr τ [(206, 0), (209, 0), (213, 0), (190, 0), (182, 0), (184, 0), (185, 0), (207, 0), (203, 0)] σ0 σ' → decode cX12_executes pc = .ok (.return_, 1) → V p l e R s m args below meth c 9 D A Q (0, 0) (fd dom σ') lv pc []) : V p l e R s m args below meth c 9 D A Q (0, 0) (fd dom σ0) [(0, .ref h), (1, .int (iI d)), (2, .int (iI x2))] 0 [] := by
  have F0 : Fr τ [(206, 0), (209, 0), (213, 0), (190, 0), (182, 0), (184, 0), (185, 0), (207, 0), (203, 0)] σ0 σ0 := Fr.rf
  obtain ⟨z1, z2, z3, z4, z5, h6, r7, r8, r9, r10, r11⟩ := G0.t.o
  obtain ⟨f12, h13, e14⟩ := ga_85 G0.t
  obtain ⟨z15, e16, r17⟩ := e14 (d : Int).toNat
  have r18 := hM.use h13 e16 (by omega)
  obtain ⟨f19, h20, e21⟩ := ga_106 G0.t
  obtain ⟨z22, e23, r24⟩ := e21 (d : Int).toNat
  obtain ⟨f25, h26, e27⟩ := ga_110 G0.t
  have ra28 := G0.b _ _ _ _ _ _ h20 h26
  have J267 : ∀ (k267 : Nat) (σ_267 : Nat → va_E) (z267_4 : Int) (z267_5 : Int), (2147483648 - z267_5).toNat ≤ k267 → GM K h q σ_267 → Fr τ [(206, 0), (209, 0), (213, 0), (190, 0), (182, 0), (184, 0), (185, 0), (207, 0), (203, 0)] σ0 σ_267 → (σ_267 (q 110) = .inl (K 0, 12, .inl f25)) → (σ_267 h = .inr (12, fsM q (iI z1) (iI z2) (iI z3) (iI z4) (iI z5))) → (0 ≤ z267_4 ∧ z267_4 ≤ 20) → (0 ≤ z267_5 ∧ z267_5 ≤ 20) → (At σ_267 (q 85) (d : Int).toNat (0) (7)) → V p l e R s m args below meth c 9 D A Q (0, 0) (fd dom σ_267) [(0, .ref h), (1, .int (iI d)), (4, .int (iI z267_4)), (5, .int (iI z267_5))] 267 [] := by
    intro k267
    induction k267 with
    | zero => intro σ_267 z267_4 z267_5 m267 G_267 F_267 hc267_q110 hc267_h r267_4 r267_5 i267; omega
    | succ k267 IH267 =>
      intro σ_267 z267_4 z267_5 m267 G_267 F_267 hc267_q110 hc267_h r267_4 r267_5 i267
      obtain ⟨f29, h30, e31⟩ := ga_85 G_267.t
      obtain ⟨z32, e33, r34⟩ := e31 (d : Int).toNat
      have r35 := (i267).use h30 e33 (by omega)
      refine v_iload B dX12_executes_267 rfl ?_
      refine v_bipush B (v := iI 20) dX12_executes_269 (by decide +kernel) ?_
      refine u_icmp_ge B (tgt := 297) (by omega) (by omega) dX12_executes_271 (by decide +kernel) (fun c36 => ?_) (fun c36 => ?_)
      · refine v_aload_n B dX12_executes_297 rfl rfl ?_
        refine u_get B Z (C := RX12) (T := TX12) (N := 123) (ci := 12) hi_M_executes_X12 Y.o hc267_h rfl 90 (by decide +kernel) (List.mem_of_getElem? (i := 1) rfl) rfl dX12_executes_298 ?_
        refine v_iconst B (v := iI 0) dX12_executes_301 rfl ?_
        refine v_bipush B (v := iI 25) dX12_executes_302 (by decide +kernel) ?_
        obtain ⟨f37, h38, e39⟩ := ga_90 G_267.t
        refine u_bast B Z (t0 := 2) (x := iI 25) (y := iI 25) (ym_90 Y) h38 rfl (by omega) (nar8 (by omega)) dX12_executes_304 (fun σ40 h41 n42 => ?_)
        have F43 := F_267.put (ym_90 Y) (by simp) n42
        have G44 := gp_90 Y G_267 ⟨_, h41, el_upd (z := 25) e39 ⟨by omega, by omega⟩ _⟩ n42
        refine v_aload_n B dX12_executes_305 rfl rfl ?_
        refine v_iload_n B dX12_executes_306 rfl rfl ?_
        refine v_iconst B (v := iI 4) dX12_executes_307 rfl ?_
        refine v_iconst B (v := iI 1) dX12_executes_308 rfl ?_
        have h45 := (n42 (q 85) (ne_ty (ym_85 Y) (ym_90 Y) (by decide))).trans (h30)
        refine u_callVv B Z hz (n := 3) (As := [.int (iI d), .int (iI 4), .int (iI 1)]) (rest := []) (c_M_says l D K Z _ _ _ _ h q Y d 4 1 ⟨by omega, by omega⟩ ⟨by omega, by omega⟩ ⟨by omega, by omega⟩ σ40 G44 (At.mk h45 e33 (by omega) ⟨by omega, by omega⟩) (by omega)) gd_M_executes_M_says_527 rfl rfl rfl (by decide +kernel) ⟨Nat.le_trans (by decide +kernel) hR.1, Nat.le_trans (by decide +kernel) hR.2⟩ Y.o (clsM G44.t) rfl rfl rfl rfl (Nat.le_of_ble_eq_true rfl) dX12_executes_309 ⟨Nat.zero_le _, Nat.zero_le _⟩ (fun σ46 p47 => ?_)
        obtain ⟨G49, F50⟩ := p47
        have F51 := F43.call F50 (by first | rfl | simp)
        exact hend σ46 _ _ G49 F51 dX12_executes_312
      · refine v_aload_n B dX12_executes_274 rfl rfl ?_
        refine u_get B Z (C := RX12) (T := TX12) (N := 123) (ci := 12) hi_M_executes_X12 Y.o hc267_h rfl 103 (by decide +kernel) (List.mem_of_getElem? (i := 16) rfl) rfl dX12_executes_275 ?_
        refine v_iload B dX12_executes_278 rfl ?_
        refine v_iload B dX12_executes_280 rfl ?_
        refine v_iadd B (v := iI (z267_4 + z267_5)) dX12_executes_282 ((iI_add _ _).trans (congrArg iI (by omega))) ?_
        refine v_aload_n B dX12_executes_283 rfl rfl ?_
        refine u_get B Z (C := RX12) (T := TX12) (N := 123) (ci := 12) hi_M_executes_X12 Y.o hc267_h rfl 113 (by decide +kernel) (List.mem_of_getElem? (i := 17) rfl) rfl dX12_executes_284 ?_
        refine v_iload B dX12_executes_287 rfl ?_
        obtain ⟨f52, h53, e54⟩ := ga_113 G_267.t
        obtain ⟨z55, e56, r57⟩ := e54 (z267_5 : Int).toNat
        refine u_iald B Z (t0 := 0) (ym_113 Y) h53 rfl (by omega) e56 dX12_executes_289 ?_
        obtain ⟨f58, h59, e60⟩ := ga_103 G_267.t
        refine u_iast B Z (t0 := 0) (x := iI z55) (ym_103 Y) h59 rfl (by omega) dX12_executes_290 (fun σ61 h62 n63 => ?_)
        have e64 := el_upd (z := z55) e60 ⟨by omega, by omega⟩ ((z267_4 + z267_5) : Int).toNat
        have F65 := F_267.put (ym_103 Y) (by simp) n63
        have G66 := gp_103 Y G_267 ⟨_, h62, e64⟩ n63
        refine v_iinc B (k := 3) (v := iI (z267_5 + 1)) (lv' := [(5, .int (iI (z267_5 + 1))), (0, .ref h), (1, .int (iI d)), (4, .int (iI z267_4))]) dX12_executes_291 rfl ((iI_add _ _).trans (congrArg iI (by omega))) (by decide +kernel) rfl ?_
        refine v_goto B (tgt := 267) dX12_executes_294 (by decide +kernel) ?_
        refine v_lv [1, 2, 3, 0] rfl ?_
        have h67 := (n63 (q 85) (ne_ty (ym_85 Y) (ym_103 Y) (by decide))).trans (h30)
        have h68 := (n63 (q 110) (ne_ty (ym_110 Y) (ym_103 Y) (by decide))).trans (hc267_q110)
        have h69 := (n63 h (ne_ty Y.o (ym_103 Y) (by decide))).trans (hc267_h)
        exact IH267 σ61 z267_4 (z267_5 + 1) (by omega) G66 F65 h68 h69 ⟨by omega, by omega⟩ ⟨by omega, by omega⟩ ((At.mk h67 e33 (by omega) ⟨by omega, by omega⟩))
  have J244 : ∀ (σ_244 : Nat → va_E) (z244_4 : Int), GM K h q σ_244 → Fr τ [(206, 0), (209, 0), (213, 0), (190, 0), (182, 0), (184, 0), (185, 0), (207, 0), (203, 0)] σ0 σ_244 → (σ_244 (q 110) = .inl (K 0, 12, .inl f25)) → (σ_244 h = .inr (12, fsM q (iI z1) (iI z2) (iI z3) (iI z4) (iI z5))) → (0 ≤ z244_4 ∧ z244_4 ≤ 20) → (At σ_244 (q 85) (d : Int).toNat (0) (7)) → V p l e R s m args below meth c 9 D A Q (0, 0) (fd dom σ_244) [(0, .ref h), (1, .int (iI d)), (4, .int (iI z244_4))] 244 [] := by
    intro σ_244 z244_4 G_244 F_244 hc244_q110 hc244_h r244_4 i244
    obtain ⟨f70, h71, e72⟩ := ga_85 G_244.t
    obtain ⟨z73, e74, r75⟩ := e72 (d : Int).toNat
    have r76 := (i244).use h71 e74 (by omega)
    refine v_aload_n B dX12_executes_244 rfl rfl ?_
    refine u_get B Z (C := RX12) (T := TX12) (N := 123) (ci := 12) hi_M_executes_X12 Y.o hc244_h rfl 109 (by decide +kernel) (List.mem_of_getElem? (i := 18) rfl) rfl dX12_executes_245 ?_
    refine v_iconst B (v := iI 0) dX12_executes_248 rfl ?_
    refine v_aload_n B dX12_executes_249 rfl rfl ?_
    refine u_get B Z (C := RX12) (T := TX12) (N := 123) (ci := 12) hi_M_executes_X12 Y.o hc244_h rfl 107 (by decide +kernel) (List.mem_of_getElem? (i := 19) rfl) rfl dX12_executes_250 ?_
    refine v_bipush B (v := iI 40) dX12_executes_253 (by decide +kernel) ?_
    refine v_iload B dX12_executes_255 rfl ?_
    refine v_imul B (v := iI (40 * z244_4)) dX12_executes_257 ((iI_mul _ _).trans (congrArg iI (by omega))) ?_
    refine v_sipush B (v := iI 800) dX12_executes_258 (by decide +kernel) ?_
    refine u_callSv B Z hz (n := 5) (As := [.ref (q 109), .int (iI 0), .ref (q 107), .int (iI (40 * z244_4)), .int (iI 800)]) (rest := []) (c_M_copy l D K Z _ _ _ _ h q Y 109 800 0 107 1600 (40 * z244_4) 800 rfl ⟨by omega, by omega⟩ rfl ⟨by omega, by omega⟩ ⟨by omega, by omega⟩ σ_244 G_244 (by omega)) gd_M_executes_M_copy_29 rfl rfl rfl (by decide +kernel) ⟨Nat.le_trans (by decide +kernel) hR.1, Nat.le_trans (by decide +kernel) hR.2⟩ rfl rfl (Nat.le_of_ble_eq_true rfl) dX12_executes_261 ⟨Nat.zero_le _, Nat.zero_le _⟩ (fun σ77 p78 => ?_)
    obtain ⟨G80, F81⟩ := p78
    have F82 := F_244.call F81 (by first | rfl | simp)
    refine v_iconst B (v := iI 0) dX12_executes_264 rfl ?_
    refine v_istore B (lv' := [(5, .int (iI 0)), (0, .ref h), (1, .int (iI d)), (4, .int (iI z244_4))]) dX12_executes_265 (by decide +kernel) rfl ?_
    refine v_lv [1, 2, 3, 0] rfl ?_
    have h83 := (F81 (q 85) _ (ym_85 Y) (by first | rfl | simp)).trans (h71)
    have h84 := (F81 (q 110) _ (ym_110 Y) (by first | rfl | simp)).trans (hc244_q110)
    have h85 := (F81 h _ Y.o (by first | rfl | simp)).trans (hc244_h)
    exact J267 _ σ77 z244_4 0 (Nat.le_refl _) G80 F82 h84 h85 ⟨by omega, by omega⟩ ⟨by omega, by omega⟩ ((At.mk h83 e74 (by omega) ⟨by omega, by omega⟩))
  have J76 : ∀ (k76 : Nat) (σ_76 : Nat → va_E) (z76_3 : Int) (z76_4 : Int) (z76_5 : Int), (2147483648 - z76_5).toNat ≤ k76 → GM K h q σ_76 → Fr τ [(206, 0), (209, 0), (213, 0), (190, 0), (182, 0), (184, 0), (185, 0), (207, 0), (203, 0)] σ0 σ_76 → (σ_76 (q 110) = .inl (K 0, 12, .inl f25)) → (σ_76 h = .inr (12, fsM q (iI z1) (iI z2) (iI z3) (iI z4) (iI z5))) → (0 ≤ z76_3 ∧ z76_3 ≤ 6) → (0 ≤ z76_4 ∧ z76_4 ≤ 20) → (0 ≤ z76_5 ∧ z76_5 ≤ 6) → (At σ_76 (q 85) (d : Int).toNat (0) (7) ∧ (z76_3 = z22)) → V p l e R s m args below meth c 9 D A Q (0, 0) (fd dom σ_76) [(0, .ref h), (1, .int (iI d)), (2, .int (iI x2)), (3, .int (iI z76_3)), (4, .int (iI z76_4)), (5, .int (iI z76_5))] 76 [] := by
    intro k76
    induction k76 with
    | zero => intro σ_76 z76_3 z76_4 z76_5 m76 G_76 F_76 hc76_q110 hc76_h r76_3 r76_4 r76_5 i76; omega
    | succ k76 IH76 =>
      intro σ_76 z76_3 z76_4 z76_5 m76 G_76 F_76 hc76_q110 hc76_h r76_3 r76_4 r76_5 i76
      have J179 : ∀ (z179_s0 : Int) (z179_s1 : Int) (z179_s2 : Int), (1 ≤ x2 ∧ x2 ≤ 255) → (1 ≤ z76_3 ∧ z76_3 ≤ 6) → (0 ≤ z76_5 ∧ z76_5 ≤ 5) → (7 ≤ z179_s0 ∧ z179_s0 ≤ 13) → (1 ≤ z179_s1 ∧ z179_s1 ≤ 20) → (24 ≤ z179_s2 ∧ z179_s2 ≤ 24) → (At σ_76 (q 85) (d : Int).toNat (0) (7)) → V p l e R s m args below meth c 9 D A Q (0, 0) (fd dom σ_76) [] 179 [.int (iI z179_s0), .int (iI z179_s1), .int (iI z179_s2), .int (iI d), .ref h] := by
        intro z179_s0 z179_s1 z179_s2 rv179_x2 rv179_z76_3 rv179_z76_5 r179_s0 r179_s1 r179_s2 i179
        obtain ⟨f86, h87, e88⟩ := ga_85 G_76.t
        obtain ⟨z89, e90, r91⟩ := e88 (d : Int).toNat
        have r92 := (i179).use h87 e90 (by omega)
        refine u_callVv B Z hz (n := 4) (As := [.int (iI d), .int (iI z179_s2), .int (iI z179_s1), .int (iI z179_s0)]) (rest := []) (c_M_error l D K Z _ _ _ _ h q Y d z179_s2 z179_s1 z179_s0 ⟨by omega, by omega⟩ ⟨by omega, by omega⟩ ⟨by omega, by omega⟩ ⟨by omega, by omega⟩ σ_76 G_76 (At.mk h87 e90 (by omega) ⟨by omega, by omega⟩)) gd_M_executes_M_error_564 rfl rfl rfl (by decide +kernel) ⟨Nat.le_trans (by decide +kernel) hR.1, Nat.le_trans (by decide +kernel) hR.2⟩ Y.o (clsM G_76.t) rfl rfl rfl rfl (Nat.le_of_ble_eq_true rfl) dX12_executes_179 ⟨Nat.zero_le _, Nat.zero_le _⟩ (fun σ93 p94 => ?_)
        obtain ⟨G96, F97⟩ := p94
        have F98 := F_76.call F97 (by first | rfl | simp)
        exact hend σ93 _ _ G96 F98 dX12_executes_182
      have J147 : ∀ (z147_6 : Int) (z147_7 : Int), (1 ≤ x2 ∧ x2 ≤ 255) → (1 ≤ z76_3 ∧ z76_3 ≤ 6) → (0 ≤ z76_5 ∧ z76_5 ≤ 5) → (0 ≤ z147_6 ∧ z147_6 ≤ 11) → (0 ≤ z147_7 ∧ z147_7 ≤ 19) → (At σ_76 (q 85) (d : Int).toNat (0) (7)) → V p l e R s m args below meth c 9 D A Q (0, 0) (fd dom σ_76) [(0, .ref h), (1, .int (iI d)), (6, .int (iI z147_6)), (7, .int (iI z147_7))] 147 [] := by
        intro z147_6 z147_7 rv147_x2 rv147_z76_3 rv147_z76_5 r147_6 r147_7 i147
        obtain ⟨f99, h100, e101⟩ := ga_85 G_76.t
        obtain ⟨z102, e103, r104⟩ := e101 (d : Int).toNat
        have r105 := (i147).use h100 e103 (by omega)
        refine v_aload_n B dX12_executes_147 rfl rfl ?_
        refine v_iload_n B dX12_executes_148 rfl rfl ?_
        refine v_bipush B (v := iI 24) dX12_executes_149 (by decide +kernel) ?_
        refine v_iload B dX12_executes_151 rfl ?_
        refine v_iconst B (v := iI 1) dX12_executes_153 rfl ?_
        refine v_iadd B (v := iI (z147_7 + 1)) dX12_executes_154 ((iI_add _ _).trans (congrArg iI (by omega))) ?_
        refine v_aload_n B dX12_executes_155 rfl rfl ?_
        refine u_get B Z (C := RX12) (T := TX12) (N := 123) (ci := 12) hi_M_executes_X12 Y.o hc76_h rfl 111 (by decide +kernel) (List.mem_of_getElem? (i := 24) rfl) rfl dX12_executes_156 ?_
        refine v_iload B dX12_executes_159 rfl ?_
        obtain ⟨f106, h107, e108⟩ := ga_111 G_76.t
        obtain ⟨z109, e110, r111⟩ := e108 (z147_6 : Int).toNat
        refine u_iald B Z (t0 := 0) (ym_111 Y) h107 rfl (by omega) e110 dX12_executes_161 ?_
        refine v_aload_n B dX12_executes_162 rfl rfl ?_
        refine u_get B Z (C := RX12) (T := TX12) (N := 123) (ci := 12) hi_M_executes_X12 Y.o hc76_h rfl 113 (by decide +kernel) (List.mem_of_getElem? (i := 17) rfl) rfl dX12_executes_163 ?_
        refine v_iload B dX12_executes_166 rfl ?_
        obtain ⟨f112, h113, e114⟩ := ga_113 G_76.t
        obtain ⟨z115, e116, r117⟩ := e114 (z147_7 : Int).toNat
        refine u_iald B Z (t0 := 0) (ym_113 Y) h113 rfl (by omega) e116 dX12_executes_168 ?_
        refine u_icmp_le B (tgt := 177) (by omega) (by omega) dX12_executes_169 (by decide +kernel) (fun c118 => ?_) (fun c118 => ?_)
        · refine v_bipush B (v := iI 13) dX12_executes_177 (by decide +kernel) ?_
          refine v_lv [] rfl ?_
          exact J179 13 (z147_7 + 1) 24 ⟨by omega, by omega⟩ ⟨by omega, by omega⟩ ⟨by omega, by omega⟩ ⟨by omega, by omega⟩ ⟨by omega, by omega⟩ ⟨by omega, by omega⟩ ((At.mk h100 e103 (by omega) ⟨by omega, by omega⟩))
        · refine v_bipush B (v := iI 7) dX12_executes_172 (by decide +kernel) ?_
          refine v_goto B (tgt := 179) dX12_executes_174 (by decide +kernel) ?_
          refine v_lv [] rfl ?_
          exact J179 7 (z147_7 + 1) 24 ⟨by omega, by omega⟩ ⟨by omega, by omega⟩ ⟨by omega, by omega⟩ ⟨by omega, by omega⟩ ⟨by omega, by omega⟩ ⟨by omega, by omega⟩ ((At.mk h100 e103 (by omega) ⟨by omega, by omega⟩))
      obtain ⟨f119, h120, e121⟩ := ga_85 G_76.t
      obtain ⟨z122, e123, r124⟩ := e121 (d : Int).toNat
      have r125 := (i76.1).use h120 e123 (by omega)
      have r126 := i76.2
      refine v_iload B dX12_executes_76 rfl ?_
      refine v_iload_n B dX12_executes_78 rfl rfl ?_
      refine u_icmp_ge B (tgt := 244) (by omega) (by omega) dX12_executes_79 (by decide +kernel) (fun c127 => ?_) (fun c127 => ?_)
      · refine v_lv [0, 1, 4] rfl ?_
        exact J244 σ_76 z76_4 G_76 F_76 hc76_q110 hc76_h ⟨by omega, by omega⟩ ((At.mk h120 e123 (by omega) ⟨by omega, by omega⟩))
      · refine v_iload_n B dX12_executes_82 rfl rfl ?_
        refine u_if_eq B (tgt := 244) (by omega) dX12_executes_83 (by decide +kernel) (fun c128 => ?_) (fun c128 => ?_)
        · refine v_lv [0, 1, 4] rfl ?_
          exact J244 σ_76 z76_4 G_76 F_76 hc76_q110 hc76_h ⟨by omega, by omega⟩ ((At.mk h120 e123 (by omega) ⟨by omega, by omega⟩))
        · refine v_bipush B (v := iI 6) dX12_executes_86 (by decide +kernel) ?_
          refine v_iload_n B dX12_executes_88 rfl rfl ?_
          refine v_imul B (v := iI (6 * d)) dX12_executes_89 ((iI_mul _ _).trans (congrArg iI (by omega))) ?_
          refine v_iload B dX12_executes_90 rfl ?_
          refine v_iadd B (v := iI (6 * d + z76_5)) dX12_executes_92 ((iI_add _ _).trans (congrArg iI (by omega))) ?_
          refine v_istore B (lv' := [(6, .int (iI (6 * d + z76_5))), (0, .ref h), (1, .int (iI d)), (2, .int (iI x2)), (3, .int (iI z76_3)), (4, .int (iI z76_4)), (5, .int (iI z76_5))]) dX12_executes_93 (by decide +kernel) rfl ?_
          refine v_aload_n B dX12_executes_95 rfl rfl ?_
          refine u_get B Z (C := RX12) (T := TX12) (N := 123) (ci := 12) hi_M_executes_X12 Y.o hc76_h rfl 110 (by decide +kernel) (List.mem_of_getElem? (i := 25) rfl) rfl dX12_executes_96 ?_
          refine v_iload B dX12_executes_99 rfl ?_
          obtain ⟨z129, e130, r131⟩ := e27 ((6 * d + z76_5) : Int).toNat
          have r132 : 1 ≤ z129 := ra28 (d : Int).toNat (by omega) z22 e23 (by omega) (z76_5 : Int).toNat (by omega) z129 (by rw [show 6 * (d : Int).toNat + (z76_5 : Int).toNat = ((6 * d + z76_5) : Int).toNat by omega]; exact e130) (by omega)
          refine u_iald B Z (t0 := 0) (ym_110 Y) hc76_q110 rfl (by omega) e130 dX12_executes_101 ?_
          refine v_iconst B (v := iI 1) dX12_executes_102 rfl ?_
          refine v_isub B (v := iI (z129 + (-1))) dX12_executes_103 ((iI_sub _ _).trans (congrArg iI (by omega))) ?_
          refine v_istore B (lv' := [(7, .int (iI (z129 + (-1)))), (6, .int (iI (6 * d + z76_5))), (0, .ref h), (1, .int (iI d)), (2, .int (iI x2)), (3, .int (iI z76_3)), (4, .int (iI z76_4)), (5, .int (iI z76_5))]) dX12_executes_104 (by decide +kernel) rfl ?_
          refine v_aload_n B dX12_executes_106 rfl rfl ?_
          refine u_get B Z (C := RX12) (T := TX12) (N := 123) (ci := 12) hi_M_executes_X12 Y.o hc76_h rfl 111 (by decide +kernel) (List.mem_of_getElem? (i := 24) rfl) rfl dX12_executes_107 ?_
          refine v_iload B dX12_executes_110 rfl ?_
          obtain ⟨f133, h134, e135⟩ := ga_111 G_76.t
          obtain ⟨z136, e137, r138⟩ := e135 ((6 * d + z76_5) : Int).toNat
          refine u_iald B Z (t0 := 0) (ym_111 Y) h134 rfl (by omega) e137 dX12_executes_112 ?_
          refine v_aload_n B dX12_executes_113 rfl rfl ?_
          refine u_get B Z (C := RX12) (T := TX12) (N := 123) (ci := 12) hi_M_executes_X12 Y.o hc76_h rfl 112 (by decide +kernel) (List.mem_of_getElem? (i := 26) rfl) rfl dX12_executes_114 ?_
          refine v_iload B dX12_executes_117 rfl ?_
          obtain ⟨f139, h140, e141⟩ := ga_112 G_76.t
          obtain ⟨z142, e143, r144⟩ := e141 ((6 * d + z76_5) : Int).toNat
          refine u_iald B Z (t0 := 0) (ym_112 Y) h140 rfl (by omega) e143 dX12_executes_119 ?_
          refine v_iadd B (v := iI (z136 + z142)) dX12_executes_120 ((iI_add _ _).trans (congrArg iI (by omega))) ?_
          refine v_istore B (lv' := [(8, .int (iI (z136 + z142))), (7, .int (iI (z129 + (-1)))), (6, .int (iI (6 * d + z76_5))), (0, .ref h), (1, .int (iI d)), (2, .int (iI x2)), (3, .int (iI z76_3)), (4, .int (iI z76_4)), (5, .int (iI z76_5))]) dX12_executes_121 (by decide +kernel) rfl ?_
          refine v_aload_n B dX12_executes_123 rfl rfl ?_
          refine u_get B Z (C := RX12) (T := TX12) (N := 123) (ci := 12) hi_M_executes_X12 Y.o hc76_h rfl 111 (by decide +kernel) (List.mem_of_getElem? (i := 24) rfl) rfl dX12_executes_124 ?_
          refine v_iload B dX12_executes_127 rfl ?_
          refine u_iald B Z (t0 := 0) (ym_111 Y) h134 rfl (by omega) e137 dX12_executes_129 ?_
          refine v_aload_n B dX12_executes_130 rfl rfl ?_
          refine u_get B Z (C := RX12) (T := TX12) (N := 123) (ci := 12) hi_M_executes_X12 Y.o hc76_h rfl 113 (by decide +kernel) (List.mem_of_getElem? (i := 17) rfl) rfl dX12_executes_131 ?_
          refine v_iload B dX12_executes_134 rfl ?_
          obtain ⟨f145, h146, e147⟩ := ga_113 G_76.t
          obtain ⟨z148, e149, r150⟩ := e147 ((z129 + (-1)) : Int).toNat
          refine u_iald B Z (t0 := 0) (ym_113 Y) h146 rfl (by omega) e149 dX12_executes_136 ?_
          refine u_icmp_gt B (tgt := 147) (by omega) (by omega) dX12_executes_137 (by decide +kernel) (fun c151 => ?_) (fun c151 => ?_)
          · refine v_lv [3, 4, 2, 1] rfl ?_
            exact J147 (6 * d + z76_5) (z129 + (-1)) ⟨by omega, by omega⟩ ⟨by omega, by omega⟩ ⟨by omega, by omega⟩ ⟨by omega, by omega⟩ ⟨by omega, by omega⟩ ((At.mk h120 e123 (by omega) ⟨by omega, by omega⟩))
          · refine v_iload B dX12_executes_140 rfl ?_
            refine v_bipush B (v := iI 40) dX12_executes_142 (by decide +kernel) ?_
            refine u_icmp_le B (tgt := 183) (by omega) (by omega) dX12_executes_144 (by decide +kernel) (fun c152 => ?_) (fun c152 => ?_)
            · refine v_aload_n B dX12_executes_183 rfl rfl ?_
              refine u_get B Z (C := RX12) (T := TX12) (N := 123) (ci := 12) hi_M_executes_X12 Y.o hc76_h rfl 108 (by decide +kernel) (List.mem_of_getElem? (i := 27) rfl) rfl dX12_executes_184 ?_
              refine v_bipush B (v := iI 64) dX12_executes_187 (by decide +kernel) ?_
              refine v_iload B dX12_executes_189 rfl ?_
              refine v_imul B (v := iI (384 * d + 64 * z76_5)) dX12_executes_191 ((iI_mul _ _).trans (congrArg iI (by omega))) ?_
              refine v_aload_n B dX12_executes_192 rfl rfl ?_
              refine u_get B Z (C := RX12) (T := TX12) (N := 123) (ci := 12) hi_M_executes_X12 Y.o hc76_h rfl 109 (by decide +kernel) (List.mem_of_getElem? (i := 18) rfl) rfl dX12_executes_193 ?_
              refine v_bipush B (v := iI 40) dX12_executes_196 (by decide +kernel) ?_
              refine v_iload B dX12_executes_198 rfl ?_
              refine v_imul B (v := iI (40 * z129 + (-40))) dX12_executes_200 ((iI_mul _ _).trans (congrArg iI (by omega))) ?_
              refine v_aload_n B dX12_executes_201 rfl rfl ?_
              refine u_get B Z (C := RX12) (T := TX12) (N := 123) (ci := 12) hi_M_executes_X12 Y.o hc76_h rfl 111 (by decide +kernel) (List.mem_of_getElem? (i := 24) rfl) rfl dX12_executes_202 ?_
              refine v_iload B dX12_executes_205 rfl ?_
              refine u_iald B Z (t0 := 0) (ym_111 Y) h134 rfl (by omega) e137 dX12_executes_207 ?_
              refine v_iadd B (v := iI (40 * z129 + z136 + (-40))) dX12_executes_208 ((iI_add _ _).trans (congrArg iI (by omega))) ?_
              refine v_aload_n B dX12_executes_209 rfl rfl ?_
              refine u_get B Z (C := RX12) (T := TX12) (N := 123) (ci := 12) hi_M_executes_X12 Y.o hc76_h rfl 112 (by decide +kernel) (List.mem_of_getElem? (i := 26) rfl) rfl dX12_executes_210 ?_
              refine v_iload B dX12_executes_213 rfl ?_
              refine u_iald B Z (t0 := 0) (ym_112 Y) h140 rfl (by omega) e143 dX12_executes_215 ?_
              refine u_callSv B Z hz (n := 5) (As := [.ref (q 108), .int (iI (384 * d + 64 * z76_5)), .ref (q 109), .int (iI (40 * z129 + z136 + (-40))), .int (iI z142)]) (rest := []) (c_M_copy l D K Z _ _ _ _ h q Y 108 768 (384 * d + 64 * z76_5) 109 800 (40 * z129 + z136 + (-40)) z142 rfl ⟨by omega, by omega⟩ rfl ⟨by omega, by omega⟩ ⟨by omega, by omega⟩ σ_76 G_76 (by omega)) gd_M_executes_M_copy_29 rfl rfl rfl (by decide +kernel) ⟨Nat.le_trans (by decide +kernel) hR.1, Nat.le_trans (by decide +kernel) hR.2⟩ rfl rfl (Nat.le_of_ble_eq_true rfl) dX12_executes_216 ⟨Nat.zero_le _, Nat.zero_le _⟩ (fun σ153 p154 => ?_)
              obtain ⟨G156, F157⟩ := p154
              have F158 := F_76.call F157 (by first | rfl | simp)
              refine v_aload_n B dX12_executes_219 rfl rfl ?_
              have h159 := (F157 h _ Y.o (by first | rfl | simp)).trans (hc76_h)
              refine u_get B Z (C := RX12) (T := TX12) (N := 123) (ci := 12) hi_M_executes_X12 Y.o h159 rfl 113 (by decide +kernel) (List.mem_of_getElem? (i := 17) rfl) rfl dX12_executes_220 ?_
              refine v_iload B dX12_executes_223 rfl ?_
              refine v_aload_n B dX12_executes_225 rfl rfl ?_
              refine u_get B Z (C := RX12) (T := TX12) (N := 123) (ci := 12) hi_M_executes_X12 Y.o h159 rfl 113 (by decide +kernel) (List.mem_of_getElem? (i := 17) rfl) rfl dX12_executes_226 ?_
              refine v_iload B dX12_executes_229 rfl ?_
              have h160 := (F157 (q 113) _ (ym_113 Y) (by first | rfl | simp)).trans (h146)
              refine u_iald B Z (t0 := 0) (ym_113 Y) h160 rfl (by omega) e149 dX12_executes_231 ?_
              refine v_iload B dX12_executes_232 rfl ?_
              obtain ⟨z161, e162, r163⟩ := iI_max (a := z148) (b := (z136 + z142)) (by omega) (by omega)
              refine v_mmax B (v := iI z161) (List.mem_of_getElem? (i := 28) rfl) (List.mem_of_getElem? (i := 29) rfl) (List.mem_of_getElem? (i := 30) rfl) (List.mem_of_getElem? (i := 31) rfl) (Nat.le_trans (by decide +kernel) hR.1) (Nat.le_trans (Nat.le_of_ble_eq_true rfl) hR.2) (Nat.zero_le _) (Nat.zero_le _) e162 dX12_executes_234 ?_
              refine u_iast B Z (t0 := 0) (x := iI z161) (ym_113 Y) h160 rfl (by omega) dX12_executes_237 (fun σ164 h165 n166 => ?_)
              have e167 := el_upd (z := z161) e147 ⟨by omega, by omega⟩ ((z129 + (-1)) : Int).toNat
              have F168 := F158.put (ym_113 Y) (by simp) n166
              have G169 := gp_113 Y G156 ⟨_, h165, e167⟩ n166
              refine v_iinc B (k := 8) (v := iI (z76_5 + 1)) (lv' := [(5, .int (iI (z76_5 + 1))), (8, .int (iI (z136 + z142))), (7, .int (iI (z129 + (-1)))), (6, .int (iI (6 * d + z76_5))), (0, .ref h), (1, .int (iI d)), (2, .int (iI x2)), (3, .int (iI z76_3)), (4, .int (iI z76_4))]) dX12_executes_238 rfl ((iI_add _ _).trans (congrArg iI (by omega))) (by decide +kernel) rfl ?_
              refine v_goto B (tgt := 76) dX12_executes_241 (by decide +kernel) ?_
              refine v_lv [4, 5, 6, 7, 8, 0] rfl ?_
              have h170 := (n166 (q 85) (ne_ty (ym_85 Y) (ym_113 Y) (by decide))).trans ((F157 (q 85) _ (ym_85 Y) (by first | rfl | simp)).trans (h120))
              have h171 := (n166 (q 110) (ne_ty (ym_110 Y) (ym_113 Y) (by decide))).trans ((F157 (q 110) _ (ym_110 Y) (by first | rfl | simp)).trans (hc76_q110))
              have h172 := (n166 h (ne_ty Y.o (ym_113 Y) (by decide))).trans (h159)
              exact IH76 σ164 z76_3 z76_4 (z76_5 + 1) (by omega) G169 F168 h171 h172 ⟨by omega, by omega⟩ ⟨by omega, by omega⟩ ⟨by omega, by omega⟩ (⟨(At.mk h170 e123 (by omega) ⟨by omega, by omega⟩), (by omega)⟩)
            · refine v_lv [3, 4, 2, 1] rfl ?_
              exact J147 (6 * d + z76_5) (z129 + (-1)) ⟨by omega, by omega⟩ ⟨by omega, by omega⟩ ⟨by omega, by omega⟩ ⟨by omega, by omega⟩ ⟨by omega, by omega⟩ ((At.mk h120 e123 (by omega) ⟨by omega, by omega⟩))
  have J43 : ∀ (k43 : Nat) (σ_43 : Nat → va_E) (z43_3 : Int) (z43_4 : Int) (z43_5 : Int), (2147483648 - z43_5).toNat ≤ k43 → GM K h q σ_43 → Fr τ [(206, 0), (209, 0), (213, 0), (190, 0), (182, 0), (184, 0), (185, 0), (207, 0), (203, 0)] σ0 σ_43 → (σ_43 (q 110) = .inl (K 0, 12, .inl f25)) → (σ_43 (q 85) = .inl (K 0, 2, .inl f12)) → (σ_43 h = .inr (12, fsM q (iI z1) (iI z2) (iI z3) (iI z4) (iI z5))) → (0 ≤ z43_3 ∧ z43_3 ≤ 6) → (0 ≤ z43_4 ∧ z43_4 ≤ 20) → (0 ≤ z43_5 ∧ z43_5 ≤ 20) → (At σ_43 (q 85) (d : Int).toNat (0) (7) ∧ (z43_3 = z22)) → V p l e R s m args below meth c 9 D A Q (0, 0) (fd dom σ_43) [(0, .ref h), (1, .int (iI d)), (2, .int (iI x2)), (3, .int (iI z43_3)), (4, .int (iI z43_4)), (5, .int (iI z43_5))] 43 [] := by
    intro k43
    induction k43 with
    | zero => intro σ_43 z43_3 z43_4 z43_5 m43 G_43 F_43 hc43_q110 hc43_q85 hc43_h r43_3 r43_4 r43_5 i43; omega
    | succ k43 IH43 =>
      intro σ_43 z43_3 z43_4 z43_5 m43 G_43 F_43 hc43_q110 hc43_q85 hc43_h r43_3 r43_4 r43_5 i43
      have r173 := (i43.1).use hc43_q85 e16 (by omega)
      have r174 := i43.2
      refine v_iload B dX12_executes_43 rfl ?_
      refine v_bipush B (v := iI 20) dX12_executes_45 (by decide +kernel) ?_
      refine u_icmp_ge B (tgt := 73) (by omega) (by omega) dX12_executes_47 (by decide +kernel) (fun c175 => ?_) (fun c175 => ?_)
      · refine v_iconst B (v := iI 0) dX12_executes_73 rfl ?_
        refine v_istore B (lv' := [(5, .int (iI 0)), (0, .ref h), (1, .int (iI d)), (2, .int (iI x2)), (3, .int (iI z43_3)), (4, .int (iI z43_4))]) dX12_executes_74 (by decide +kernel) rfl ?_
        refine v_lv [1, 2, 3, 4, 5, 0] rfl ?_
        exact J76 _ σ_43 z43_3 z43_4 0 (Nat.le_refl _) G_43 F_43 hc43_q110 hc43_h ⟨by omega, by omega⟩ ⟨by omega, by omega⟩ ⟨by omega, by omega⟩ (⟨(At.mk hc43_q85 e16 (by omega) ⟨by omega, by omega⟩), (by omega)⟩)
      · refine v_aload_n B dX12_executes_50 rfl rfl ?_
        refine u_get B Z (C := RX12) (T := TX12) (N := 123) (ci := 12) hi_M_executes_X12 Y.o hc43_h rfl 113 (by decide +kernel) (List.mem_of_getElem? (i := 17) rfl) rfl dX12_executes_51 ?_
        refine v_iload B dX12_executes_54 rfl ?_
        refine v_aload_n B dX12_executes_56 rfl rfl ?_
        refine u_get B Z (C := RX12) (T := TX12) (N := 123) (ci := 12) hi_M_executes_X12 Y.o hc43_h rfl 103 (by decide +kernel) (List.mem_of_getElem? (i := 16) rfl) rfl dX12_executes_57 ?_
        refine v_iload B dX12_executes_60 rfl ?_
        refine v_iload B dX12_executes_62 rfl ?_
        refine v_iadd B (v := iI (z43_4 + z43_5)) dX12_executes_64 ((iI_add _ _).trans (congrArg iI (by omega))) ?_
        obtain ⟨f176, h177, e178⟩ := ga_103 G_43.t
        obtain ⟨z179, e180, r181⟩ := e178 ((z43_4 + z43_5) : Int).toNat
        refine u_iald B Z (t0 := 0) (ym_103 Y) h177 rfl (by omega) e180 dX12_executes_65 ?_
        obtain ⟨f182, h183, e184⟩ := ga_113 G_43.t
        refine u_iast B Z (t0 := 0) (x := iI z179) (ym_113 Y) h183 rfl (by omega) dX12_executes_66 (fun σ185 h186 n187 => ?_)
        have e188 := el_upd (z := z179) e184 ⟨by omega, by omega⟩ (z43_5 : Int).toNat
        have F189 := F_43.put (ym_113 Y) (by simp) n187
        have G190 := gp_113 Y G_43 ⟨_, h186, e188⟩ n187
        refine v_iinc B (k := 5) (v := iI (z43_5 + 1)) (lv' := [(5, .int (iI (z43_5 + 1))), (0, .ref h), (1, .int (iI d)), (2, .int (iI x2)), (3, .int (iI z43_3)), (4, .int (iI z43_4))]) dX12_executes_67 rfl ((iI_add _ _).trans (congrArg iI (by omega))) (by decide +kernel) rfl ?_
        refine v_goto B (tgt := 43) dX12_executes_70 (by decide +kernel) ?_
        refine v_lv [1, 2, 3, 4, 5, 0] rfl ?_
        have h191 := (n187 (q 85) (ne_ty (ym_85 Y) (ym_113 Y) (by decide))).trans (hc43_q85)
        have h192 := (n187 (q 110) (ne_ty (ym_110 Y) (ym_113 Y) (by decide))).trans (hc43_q110)
        have h193 := (n187 h (ne_ty Y.o (ym_113 Y) (by decide))).trans (hc43_h)
        exact IH43 σ185 z43_3 z43_4 (z43_5 + 1) (by omega) G190 F189 h192 h191 h193 ⟨by omega, by omega⟩ ⟨by omega, by omega⟩ ⟨by omega, by omega⟩ (⟨(At.mk h191 e16 (by omega) ⟨by omega, by omega⟩), (by omega)⟩)
  refine v_aload_n B dX12_executes_0 rfl rfl ?_
  refine u_get B Z (C := RX12) (T := TX12) (N := 123) (ci := 12) hi_M_executes_X12 Y.o h6 rfl 106 (by decide +kernel) (List.mem_of_getElem? (i := 32) rfl) rfl dX12_executes_1 ?_
  refine v_iload_n B dX12_executes_4 rfl rfl ?_
  refine u_iald B Z (t0 := 0) (ym_106 Y) h20 rfl (by omega) e23 dX12_executes_5 ?_
  refine v_istore_n B (lv' := [(3, .int (iI z22)), (0, .ref h), (1, .int (iI d)), (2, .int (iI x2))]) dX12_executes_6 rfl (by decide +kernel) rfl ?_
  refine v_aload_n B dX12_executes_7 rfl rfl ?_
  refine u_get B Z (C := RX12) (T := TX12) (N := 123) (ci := 12) hi_M_executes_X12 Y.o h6 rfl 106 (by decide +kernel) (List.mem_of_getElem? (i := 32) rfl) rfl dX12_executes_8 ?_
  refine v_iload_n B dX12_executes_11 rfl rfl ?_
  refine v_iconst B (v := iI 0) dX12_executes_12 rfl ?_
  have ra194 := G0.b _ _ _ _ _ _ h20 h26
  refine u_iast B Z (t0 := 0) (x := iI 0) (ym_106 Y) h20 rfl (by omega) dX12_executes_13 (fun σ195 h196 n197 => ?_)
  have e198 := el_upd (z := 0) e21 ⟨by omega, by omega⟩ (d : Int).toNat
  have F199 := F0.put (ym_106 Y) (by simp) n197
  have T200 := gp_106 Y G0.t ⟨_, h196, e198⟩ n197
  have R201 := (G0.a).kept (n197 _ (ne_ty (ym_85 Y) (ym_106 Y) (by decide))) (n197 _ (ne_ty (ym_86 Y) (ym_106 Y) (by decide))) (n197 _ (ne_ty (ym_84 Y) (ym_106 Y) (by decide)))
  have R202 := (G0.c).kept (n197 _ (ne_ty (ym_7 Y) (ym_106 Y) (by decide))) (n197 _ (ne_ty (ym_15 Y) (ym_106 Y) (by decide)))
  have R203 := (G0.d).kept (n197 _ (ne_ty (ym_41 Y) (ym_106 Y) (by decide))) (n197 _ (ne_ty (ym_16 Y) (ym_106 Y) (by decide)))
  have h204 := (n197 (q 110) (ne_ty (ym_110 Y) (ym_106 Y) (by decide))).trans (h26)
  have R205 : RelB q σ195 := RelB.mk h196 h204 (RB.set ra194 (d : Int).toNat (fun i hi => upd_n hi) (fun _ _ _ _ _ => rfl) e21 (fun x e1 r1 k hk z e3 r3 => by have a1 : 0 = x := (iI_eq (by omega) r1).mp ((upd_s).symm.trans e1); omega))
  have G206 : GM K h q σ195 := ⟨T200, R201, R205, R202, R203⟩
  refine v_bipush B (v := iI 20) dX12_executes_14 (by decide +kernel) ?_
  refine v_iload_n B dX12_executes_16 rfl rfl ?_
  refine v_imul B (v := iI (20 * d)) dX12_executes_17 ((iI_mul _ _).trans (congrArg iI (by omega))) ?_
  refine v_istore B (lv' := [(4, .int (iI (20 * d))), (3, .int (iI z22)), (0, .ref h), (1, .int (iI d)), (2, .int (iI x2))]) dX12_executes_18 (by decide +kernel) rfl ?_
  refine v_aload_n B dX12_executes_20 rfl rfl ?_
  have h207 := (n197 h (ne_ty Y.o (ym_106 Y) (by decide))).trans (h6)
  refine u_get B Z (C := RX12) (T := TX12) (N := 123) (ci := 12) hi_M_executes_X12 Y.o h207 rfl 107 (by decide +kernel) (List.mem_of_getElem? (i := 19) rfl) rfl dX12_executes_21 ?_
  refine v_bipush B (v := iI 40) dX12_executes_24 (by decide +kernel) ?_
  refine v_iload B dX12_executes_26 rfl ?_
  refine v_imul B (v := iI (800 * d)) dX12_executes_28 ((iI_mul _ _).trans (congrArg iI (by omega))) ?_
  refine v_aload_n B dX12_executes_29 rfl rfl ?_
  refine u_get B Z (C := RX12) (T := TX12) (N := 123) (ci := 12) hi_M_executes_X12 Y.o h207 rfl 109 (by decide +kernel) (List.mem_of_getElem? (i := 18) rfl) rfl dX12_executes_30 ?_
  refine v_iconst B (v := iI 0) dX12_executes_33 rfl ?_
  refine v_sipush B (v := iI 800) dX12_executes_34 (by decide +kernel) ?_
  refine u_callSv B Z hz (n := 5) (As := [.ref (q 107), .int (iI (800 * d)), .ref (q 109), .int (iI 0), .int (iI 800)]) (rest := []) (c_M_copy l D K Z _ _ _ _ h q Y 107 1600 (800 * d) 109 800 0 800 rfl ⟨by omega, by omega⟩ rfl ⟨by omega, by omega⟩ ⟨by omega, by omega⟩ σ195 G206 (by omega)) gd_M_executes_M_copy_29 rfl rfl rfl (by decide +kernel) ⟨Nat.le_trans (by decide +kernel) hR.1, Nat.le_trans (by decide +kernel) hR.2⟩ rfl rfl (Nat.le_of_ble_eq_true rfl) dX12_executes_37 ⟨Nat.zero_le _, Nat.zero_le _⟩ (fun σ208 p209 => ?_)
  obtain ⟨G211, F212⟩ := p209
  have F213 := F199.call F212 (by first | rfl | simp)
  refine v_iconst B (v := iI 0) dX12_executes_40 rfl ?_
  refine v_istore B (lv' := [(5, .int (iI 0)), (4, .int (iI (20 * d))), (3, .int (iI z22)), (0, .ref h), (1, .int (iI d)), (2, .int (iI x2))]) dX12_executes_41 (by decide +kernel) rfl ?_
  refine v_lv [3, 4, 5, 2, 1, 0] rfl ?_
  have h214 := (F212 (q 85) _ (ym_85 Y) (by first | rfl | simp)).trans ((n197 (q 85) (ne_ty (ym_85 Y) (ym_106 Y) (by decide))).trans (h13))
  have h215 := (F212 (q 110) _ (ym_110 Y) (by first | rfl | simp)).trans (h204)
  have h216 := (F212 h _ Y.o (by first | rfl | simp)).trans (h207)
  exact J43 _ σ208 z22 (20 * d) 0 (Nat.le_refl _) G211 F213 h215 h214 h216 ⟨by omega, by omega⟩ ⟨by omega, by omega⟩ ⟨by omega, by omega⟩ (⟨(At.mk h214 e16 (by omega) ⟨by omega, by omega⟩), (by omega)⟩)
set_option maxRecDepth 100000 in
theorem c_M_executes (l : Launch) (D : va_G) (K : Nat → ClassId) {τ : Nat → Option Ty} {dom : List Nat} (Z : Sk τ dom) (zb zL : Nat) (zx : Nat → Int32) (zs : Nat → Nat) (h : Nat) (q : Nat → Nat) (Y : MS τ h q) (d : Int) (x2 : Int) (r_d : 0 ≤ d ∧ d ≤ 1) (r_x2 : 0 ≤ x2 ∧ x2 ≤ 255) (σ0 : Nat → va_E) (G0 : GM K h q σ0) (hM : At σ0 (q 85) (d : Int).toNat (0) (7)) : MZ l yX12_executes wp_M_executes ({ frames := 3, cells := 0, slots := 0, locals := 73 }) D (tysA K) [.ref h, .int (iI d), .int (iI x2)] (fd dom σ0) zb zL zx zs (Qv D (fun σ' => GM K h q σ' ∧ Fr τ [(206, 0), (209, 0), (213, 0), (190, 0), (182, 0), (184, 0), (185, 0), (207, 0), (203, 0)] σ0 σ') (fun σ' => fd dom σ')) 0 0 := by
  refine mz_of (cc := cX12_executes) (maxL := 9) (ret := none) (by decide +kernel) rfl (Nat.le_of_ble_eq_true rfl) ?_
  intro p e s m below meth c A B hr hlk _ hz
  exact b_M_executes ⟨Nat.le_refl _, Nat.le_refl _⟩ B Z hz h q Y d x2 r_d r_x2 σ0 G0 hM (fun σ' lv pc G F hd => v_vret B hr hlk σ' ⟨G, F⟩ rfl (Nat.le_refl _) (Nat.le_refl _) hd)

def wp_M_isValue : List Cond := .code yX12_isValue cX12_isValue 8 (some .boolean) :: (([.fieldLink RX12 341 "LowEnergyModel" "values" "[B", .fieldLink RX12 293 "LowEnergyModel" "asks" "[B", .methodLink RX12 547 yX12_row, .instanceMethod yX12_row, .selects RX12 yX12_row yX12_row, .initialized RX12, .code yX12_row cX12_row 3 (some .int), .fieldLink RX12 329 "LowEnergyModel" "length" "[I"] : List Cond) ++ (wsX120 ++ ([])))
theorem hi_M_isValue_X12 : ∀ x ∈ u_ws RX12 TX12 123, x ∈ wp_M_isValue := fun _ h => List.mem_cons_of_mem _ (List.mem_append_right _ (List.mem_append_left _ h))
set_option maxRecDepth 100000 in
theorem gd_M_isValue_M_row_547 : GoodIn wp_M_isValue (wsV RX12 547 RX12 yX12_row wp_M_row) := goodIn_app (goodIn_r _ [3, 4, 5, 6] rfl rfl) (goodIn_ca (goodIn_r _ [7] rfl rfl) (goodIn_nil))
set_option maxHeartbeats 4000000 in
set_option maxRecDepth 100000 in
theorem b_M_isValue {p : Program} {l : Launch} {e : Env} {R : Room} {s : State} {m : MethodId} {args : Array Value} {below : List Frame} {meth : Method} {c : Code} {D : va_G} {K : Nat → ClassId} {A : Nat → Prop} {Q : State → Prop} {τ : Nat → Option Ty} {dom : List Nat} {zb zL : Nat} {zx : Nat → Int32} {zs : Nat → Nat} (hR : 1 ≤ R.frames ∧ 22 ≤ R.locals) (B : Bx p s m args c cX12_isValue 8 RX12 wp_M_isValue D (tysA K) A) (Z : Sk τ dom) (hz : ZL zb zL zx zs A s s.heap) (h : Nat) (q : Nat → Nat) (Y : MS τ h q) (d : Int) (x2 : Int) (x3 : Int) (x4 : Int) (r_d : 0 ≤ d ∧ d ≤ 1) (r_x2 : 1 ≤ x2 ∧ x2 ≤ 20) (r_x3 : 7 ≤ x3 ∧ x3 ≤ 7) (r_x4 : -11 ≤ x4 ∧ x4 ≤ 57) (σ0 : Nat → va_E) (G0 : GT K h q σ0) (hend : ∀ (z : Int) (lv : List (Nat × Value)) (pc : Nat), (0 ≤ z ∧ z ≤ 1) → decode cX12_isValue pc = .ok (.ireturn, 1) → V p l e R s m args below meth c 8 D A Q (0, 0) (fd dom σ0) lv pc [.int (iI z)]) : V p l e R s m args below meth c 8 D A Q (0, 0) (fd dom σ0) [(0, .ref h), (1, .int (iI d)), (2, .int (iI x2)), (3, .int (iI x3)), (4, .int (iI x4))] 0 [] := by
  obtain ⟨z1, z2, z3, z4, z5, h6, r7, r8, r9, r10, r11⟩ := G0.o
  have J30 : ∀ (k30 : Nat) (z30_5 : Int) (z30_6 : Int) (z30_7 : Int), (2147483648 - z30_7).toNat ≤ k30 → (0 ≤ z30_5 ∧ z30_5 ≤ 39) → (0 ≤ z30_6 ∧ z30_6 ≤ 1) → (0 ≤ z30_7 ∧ z30_7 ≤ 57) → (z30_6 = 1 → x4 ≤ 40) → V p l e R s m args below meth c 8 D A Q (0, 0) (fd dom σ0) [(0, .ref h), (3, .int (iI x3)), (4, .int (iI x4)), (5, .int (iI z30_5)), (6, .int (iI z30_6)), (7, .int (iI z30_7))] 30 [] := by
    intro k30
    induction k30 with
    | zero => intro z30_5 z30_6 z30_7 m30 r30_5 r30_6 r30_7 i30; omega
    | succ k30 IH30 =>
      intro z30_5 z30_6 z30_7 m30 r30_5 r30_6 r30_7 i30
      have J72 : ∀ (z72_s0 : Int), (1 ≤ x4 ∧ x4 ≤ 57) → (1 ≤ z30_6 ∧ z30_6 ≤ 1) → (0 ≤ z30_7 ∧ z30_7 ≤ 56) → (0 ≤ z72_s0 ∧ z72_s0 ≤ 1) → (x4 ≤ 40) → V p l e R s m args below meth c 8 D A Q (0, 0) (fd dom σ0) [(0, .ref h), (3, .int (iI x3)), (4, .int (iI x4)), (5, .int (iI z30_5)), (7, .int (iI z30_7))] 72 [.int (iI z72_s0)] := by
        intro z72_s0 rv72_x4 rv72_z30_6 rv72_z30_7 r72_s0 i72
        refine v_istore B (lv' := [(6, .int (iI z72_s0)), (0, .ref h), (3, .int (iI x3)), (4, .int (iI x4)), (5, .int (iI z30_5)), (7, .int (iI z30_7))]) dX12_isValue_72 (by decide +kernel) rfl ?_
        refine v_iinc B (k := 5) (v := iI (z30_7 + 1)) (lv' := [(7, .int (iI (z30_7 + 1))), (6, .int (iI z72_s0)), (0, .ref h), (3, .int (iI x3)), (4, .int (iI x4)), (5, .int (iI z30_5))]) dX12_isValue_74 rfl ((iI_add _ _).trans (congrArg iI (by omega))) (by decide +kernel) rfl ?_
        refine v_goto B (tgt := 30) dX12_isValue_77 (by decide +kernel) ?_
        refine v_lv [2, 3, 4, 5, 1, 0] rfl ?_
        exact IH30 z30_5 z72_s0 (z30_7 + 1) (by omega) ⟨by omega, by omega⟩ ⟨by omega, by omega⟩ ⟨by omega, by omega⟩ (by omega)
      refine v_iload B dX12_isValue_30 rfl ?_
      refine v_iload B dX12_isValue_32 rfl ?_
      refine u_icmp_ge B (tgt := 80) (by omega) (by omega) dX12_isValue_34 (by decide +kernel) (fun c12 => ?_) (fun c12 => ?_)
      · refine v_iload B dX12_isValue_80 rfl ?_
        exact hend z30_6 _ _ ⟨by omega, by omega⟩ dX12_isValue_82
      · refine v_iload B dX12_isValue_37 rfl ?_
        refine u_if_eq B (tgt := 80) (by omega) dX12_isValue_39 (by decide +kernel) (fun c13 => ?_) (fun c13 => ?_)
        · refine v_iload B dX12_isValue_80 rfl ?_
          exact hend z30_6 _ _ ⟨by omega, by omega⟩ dX12_isValue_82
        · refine v_aload_n B dX12_isValue_42 rfl rfl ?_
          refine u_get B Z (C := RX12) (T := TX12) (N := 123) (ci := 12) hi_M_isValue_X12 Y.o h6 rfl 107 (by decide +kernel) (List.mem_of_getElem? (i := 1) rfl) rfl dX12_isValue_43 ?_
          refine v_bipush B (v := iI 40) dX12_isValue_46 (by decide +kernel) ?_
          refine v_iload B dX12_isValue_48 rfl ?_
          refine v_imul B (v := iI (40 * z30_5)) dX12_isValue_50 ((iI_mul _ _).trans (congrArg iI (by omega))) ?_
          refine v_iload B dX12_isValue_51 rfl ?_
          refine v_iadd B (v := iI (40 * z30_5 + z30_7)) dX12_isValue_53 ((iI_add _ _).trans (congrArg iI (by omega))) ?_
          obtain ⟨f14, h15, e16⟩ := ga_107 G0
          obtain ⟨z17, e18, r19⟩ := e16 ((40 * z30_5 + z30_7) : Int).toNat
          refine u_bald B Z (t0 := 2) (ym_107 Y) h15 rfl (by omega) e18 dX12_isValue_54 ?_
          refine v_aload_n B dX12_isValue_55 rfl rfl ?_
          refine u_get B Z (C := RX12) (T := TX12) (N := 123) (ci := 12) hi_M_isValue_X12 Y.o h6 rfl 91 (by decide +kernel) (List.mem_of_getElem? (i := 2) rfl) rfl dX12_isValue_56 ?_
          refine v_iload_n B dX12_isValue_59 rfl rfl ?_
          refine v_iload B dX12_isValue_60 rfl ?_
          refine v_iadd B (v := iI (x3 + z30_7)) dX12_isValue_62 ((iI_add _ _).trans (congrArg iI (by omega))) ?_
          obtain ⟨f20, h21, e22⟩ := ga_91 G0
          obtain ⟨z23, e24, r25⟩ := e22 ((x3 + z30_7) : Int).toNat
          refine u_bald B Z (t0 := 2) (ym_91 Y) h21 rfl (by omega) e24 dX12_isValue_63 ?_
          refine u_icmp_ne B (tgt := 71) (by omega) (by omega) dX12_isValue_64 (by decide +kernel) (fun c26 => ?_) (fun c26 => ?_)
          · refine v_iconst B (v := iI 0) dX12_isValue_71 rfl ?_
            refine v_lv [0, 1, 2, 3, 5] rfl ?_
            exact J72 0 ⟨by omega, by omega⟩ ⟨by omega, by omega⟩ ⟨by omega, by omega⟩ ⟨by omega, by omega⟩ (by omega)
          · refine v_iconst B (v := iI 1) dX12_isValue_67 rfl ?_
            refine v_goto B (tgt := 72) dX12_isValue_68 (by decide +kernel) ?_
            refine v_lv [0, 1, 2, 3, 5] rfl ?_
            exact J72 1 ⟨by omega, by omega⟩ ⟨by omega, by omega⟩ ⟨by omega, by omega⟩ ⟨by omega, by omega⟩ (by omega)
  refine v_aload_n B dX12_isValue_0 rfl rfl ?_
  refine v_iload_n B dX12_isValue_1 rfl rfl ?_
  refine v_iload_n B dX12_isValue_2 rfl rfl ?_
  refine u_callVi B Z hz (n := 2) (As := [.int (iI d), .int (iI x2)]) (rest := []) (c_M_row l D K Z _ _ _ _ h q Y d x2 ⟨by omega, by omega⟩ ⟨by omega, by omega⟩ σ0 (G0)) gd_M_isValue_M_row_547 rfl rfl rfl (by decide +kernel) ⟨Nat.le_trans (by decide +kernel) hR.1, Nat.le_trans (by decide +kernel) hR.2⟩ Y.o (clsM G0) rfl rfl rfl rfl (Nat.le_of_ble_eq_true rfl) dX12_isValue_3 ⟨Nat.zero_le _, Nat.zero_le _⟩ (fun v29 σ27 p28 => ?_)
  obtain ⟨rfl, z30, e31, r32, po33⟩ := p28
  subst e31
  subst po33
  show V _ _ _ _ _ _ _ _ _ _ _ _ _ _ _ _ _ _ [.int (iI (20 * d + x2 + (-1)))]
  refine v_istore B (lv' := [(5, .int (iI (20 * d + x2 + (-1)))), (0, .ref h), (1, .int (iI d)), (2, .int (iI x2)), (3, .int (iI x3)), (4, .int (iI x4))]) dX12_isValue_6 (by decide +kernel) rfl ?_
  refine v_aload_n B dX12_isValue_8 rfl rfl ?_
  refine u_get B Z (C := RX12) (T := TX12) (N := 123) (ci := 12) hi_M_isValue_X12 Y.o h6 rfl 103 (by decide +kernel) (List.mem_of_getElem? (i := 8) rfl) rfl dX12_isValue_9 ?_
  refine v_iload B dX12_isValue_12 rfl ?_
  obtain ⟨f34, h35, e36⟩ := ga_103 G0
  obtain ⟨z37, e38, r39⟩ := e36 ((20 * d + x2 + (-1)) : Int).toNat
  refine u_iald B Z (t0 := 0) (ym_103 Y) h35 rfl (by omega) e38 dX12_isValue_14 ?_
  refine v_iload B dX12_isValue_15 rfl ?_
  refine u_icmp_ne B (tgt := 24) (by omega) (by omega) dX12_isValue_17 (by decide +kernel) (fun c40 => ?_) (fun c40 => ?_)
  · refine v_iconst B (v := iI 0) dX12_isValue_24 rfl ?_
    refine v_istore B (lv' := [(6, .int (iI 0)), (5, .int (iI (20 * d + x2 + (-1)))), (0, .ref h), (1, .int (iI d)), (2, .int (iI x2)), (3, .int (iI x3)), (4, .int (iI x4))]) dX12_isValue_25 (by decide +kernel) rfl ?_
    refine v_iconst B (v := iI 0) dX12_isValue_27 rfl ?_
    refine v_istore B (lv' := [(7, .int (iI 0)), (6, .int (iI 0)), (5, .int (iI (20 * d + x2 + (-1)))), (0, .ref h), (1, .int (iI d)), (2, .int (iI x2)), (3, .int (iI x3)), (4, .int (iI x4))]) dX12_isValue_28 (by decide +kernel) rfl ?_
    refine v_lv [3, 6, 7, 2, 1, 0] rfl ?_
    exact J30 _ (20 * d + x2 + (-1)) 0 0 (Nat.le_refl _) ⟨by omega, by omega⟩ ⟨by omega, by omega⟩ ⟨by omega, by omega⟩ (by omega)
  · refine v_iconst B (v := iI 1) dX12_isValue_20 rfl ?_
    refine v_goto B (tgt := 25) dX12_isValue_21 (by decide +kernel) ?_
    refine v_istore B (lv' := [(6, .int (iI 1)), (5, .int (iI (20 * d + x2 + (-1)))), (0, .ref h), (1, .int (iI d)), (2, .int (iI x2)), (3, .int (iI x3)), (4, .int (iI x4))]) dX12_isValue_25 (by decide +kernel) rfl ?_
    refine v_iconst B (v := iI 0) dX12_isValue_27 rfl ?_
    refine v_istore B (lv' := [(7, .int (iI 0)), (6, .int (iI 1)), (5, .int (iI (20 * d + x2 + (-1)))), (0, .ref h), (1, .int (iI d)), (2, .int (iI x2)), (3, .int (iI x3)), (4, .int (iI x4))]) dX12_isValue_28 (by decide +kernel) rfl ?_
    refine v_lv [3, 6, 7, 2, 1, 0] rfl ?_
    exact J30 _ (20 * d + x2 + (-1)) 1 0 (Nat.le_refl _) ⟨by omega, by omega⟩ ⟨by omega, by omega⟩ ⟨by omega, by omega⟩ (by omega)
set_option maxRecDepth 100000 in
theorem c_M_isValue (l : Launch) (D : va_G) (K : Nat → ClassId) {τ : Nat → Option Ty} {dom : List Nat} (Z : Sk τ dom) (zb zL : Nat) (zx : Nat → Int32) (zs : Nat → Nat) (h : Nat) (q : Nat → Nat) (Y : MS τ h q) (d : Int) (x2 : Int) (x3 : Int) (x4 : Int) (r_d : 0 ≤ d ∧ d ≤ 1) (r_x2 : 1 ≤ x2 ∧ x2 ≤ 20) (r_x3 : 7 ≤ x3 ∧ x3 ≤ 7) (r_x4 : -11 ≤ x4 ∧ x4 ≤ 57) (σ0 : Nat → va_E) (G0 : GT K h q σ0) : MZ l yX12_isValue wp_M_isValue ({ frames := 1, cells := 0, slots := 0, locals := 22 }) D (tysA K) [.ref h, .int (iI d), .int (iI x2), .int (iI x3), .int (iI x4)] (fd dom σ0) zb zL zx zs (Qi D (fun r σ' => σ0 = σ' ∧ ∃ z : Int, r = iI z ∧ (0 ≤ z ∧ z ≤ 1)) (fun σ' => fd dom σ')) 0 0 := by
  refine mz_of (cc := cX12_isValue) (maxL := 8) (ret := (some .boolean)) (by decide +kernel) rfl (Nat.le_of_ble_eq_true rfl) ?_
  intro p e s m below meth c A B hr hlk _ hz
  exact b_M_isValue ⟨Nat.le_refl _, Nat.le_refl _⟩ B Z hz h q Y d x2 x3 x4 r_d r_x2 r_x3 r_x4 σ0 G0 (fun z lv pc hZ hd => v_zret B hr hlk (nar01 (by omega)) σ0 ⟨rfl, z, rfl, hZ⟩ rfl (Nat.le_refl _) (Nat.le_refl _) hd)

def wp_M_lists : List Cond := .code yX12_lists cX12_lists 16 none :: (([.methodLink RX12 527 yX12_says, .instanceMethod yX12_says, .selects RX12 yX12_says yX12_says, .initialized RX12, .code yX12_says cX12_says 5 none, .fieldLink RX12 275 "LowEnergyModel" "messages" "[I", .fieldLink RX12 266 "LowEnergyModel" "message" "[B", .methodLink RX12 432 yX12_number, .static yX12_number, .code yX12_number cX12_number 6 none, .fieldLink RX12 290 "LowEnergyModel" "said" "[B", .methodLink RX12 29 yX12_copy, .static yX12_copy, .code yX12_copy cX12_copy 6 none, .fieldLink RX12 272 "LowEnergyModel" "messageMany" "[I", .methodLink RX12 564 yX12_error, .instanceMethod yX12_error, .selects RX12 yX12_error yX12_error, .code yX12_error cX12_error 5 none, .fieldLink RX12 341 "LowEnergyModel" "values" "[B", .fieldLink RX12 332 "LowEnergyModel" "mtu" "[I", .methodLink RX12 603 yX12_endOf, .instanceMethod yX12_endOf, .selects RX12 yX12_endOf yX12_endOf, .code yX12_endOf cX12_endOf 4 (some .int), .fieldLink RX12 320 "LowEnergyModel" "attributes" "[I", .fieldLink RX12 323 "LowEnergyModel" "type" "[I", .methodLink RX12 547 yX12_row, .instanceMethod yX12_row, .selects RX12 yX12_row yX12_row, .code yX12_row cX12_row 3 (some .int), .methodLink RX12 570 yX12_lacks, .instanceMethod yX12_lacks, .selects RX12 yX12_lacks yX12_lacks, .code yX12_lacks cX12_lacks 5 (some .int), .fieldLink RX12 326 "LowEnergyModel" "rights" "[I", .fieldLink RX12 239 "LowEnergyModel" "isSecure" "[Z", .fieldLink RX12 329 "LowEnergyModel" "length" "[I", .methodLink RX12 404 Lib.Math.min.name, .static Lib.Math.min.name, .initialized "java/lang/Math", .code Lib.Math.min.name Lib.Math.min.code 2 (some .int), .methodLink RX12 599 yX12_isValue, .instanceMethod yX12_isValue, .selects RX12 yX12_isValue yX12_isValue, .code yX12_isValue cX12_isValue 8 (some .boolean), .fieldLink RX12 293 "LowEnergyModel" "asks" "[B", .methodLink RX12 489 yX12_two, .static yX12_two, .code yX12_two cX12_two 2 (some .int)] : List Cond) ++ (wsX120 ++ ([])))
theorem hi_M_lists_X12 : ∀ x ∈ u_ws RX12 TX12 123, x ∈ wp_M_lists := fun _ h => List.mem_cons_of_mem _ (List.mem_append_right _ (List.mem_append_left _ h))
set_option maxRecDepth 100000 in
theorem gd_M_lists_M_says_527 : GoodIn wp_M_lists (wsV RX12 527 RX12 yX12_says wp_M_says) := goodIn_app (goodIn_r _ [1, 2, 3, 4] rfl rfl) (goodIn_ca (goodIn_r _ [5, 6, 7, 8, 9, 4, 10, 11, 12, 13, 14, 15] rfl rfl) (goodIn_app (goodIn_cls hi_M_lists_X12 gw_X12) (goodIn_nil)))
set_option maxRecDepth 100000 in
theorem gd_M_lists_M_error_564 : GoodIn wp_M_lists (wsV RX12 564 RX12 yX12_error wp_M_error) := goodIn_app (goodIn_r _ [16, 17, 18, 4] rfl rfl) (goodIn_ca (goodIn_r _ [19, 11, 8, 9, 4, 10, 1, 2, 3, 5, 6, 7, 12, 13, 14, 15] rfl rfl) (goodIn_app (goodIn_cls hi_M_lists_X12 gw_X12) (goodIn_nil)))
set_option maxRecDepth 100000 in
theorem gd_M_lists_M_copy_29 : GoodIn wp_M_lists (va_wsS RX12 29 yX12_copy wp_M_copy) := goodIn_app (goodIn_r _ [12, 13, 4] rfl rfl) (goodIn_ca (goodIn_r _ [14] rfl rfl) (goodIn_nil))
set_option maxRecDepth 100000 in
theorem gd_M_lists_M_numberP_432 : GoodIn wp_M_lists (va_wsS RX12 432 yX12_number wp_M_numberP) := goodIn_app (goodIn_r _ [8, 9, 4] rfl rfl) (goodIn_ca (goodIn_r _ [10] rfl rfl) (goodIn_nil))
set_option maxRecDepth 100000 in
theorem gd_M_lists_M_endOf_603 : GoodIn wp_M_lists (wsV RX12 603 RX12 yX12_endOf wp_M_endOf) := goodIn_app (goodIn_r _ [22, 23, 24, 4] rfl rfl) (goodIn_ca (goodIn_r _ [25, 26, 27, 28, 29, 30, 4, 31] rfl rfl) (goodIn_app (goodIn_cls hi_M_lists_X12 gw_X12) (goodIn_nil)))
set_option maxRecDepth 100000 in
theorem gd_M_lists_M_lacks_570 : GoodIn wp_M_lists (wsV RX12 570 RX12 yX12_lacks wp_M_lacks) := goodIn_app (goodIn_r _ [32, 33, 34, 4] rfl rfl) (goodIn_ca (goodIn_r _ [35, 36, 28, 29, 30, 4, 31, 37] rfl rfl) (goodIn_app (goodIn_cls hi_M_lists_X12 gw_X12) (goodIn_nil)))
set_option maxRecDepth 100000 in
theorem gd_M_lists_M_isValue_599 : GoodIn wp_M_lists (wsV RX12 599 RX12 yX12_isValue wp_M_isValue) := goodIn_app (goodIn_r _ [43, 44, 45, 4] rfl rfl) (goodIn_ca (goodIn_r _ [46, 20, 47, 28, 29, 30, 4, 31, 38] rfl rfl) (goodIn_app (goodIn_cls hi_M_lists_X12 gw_X12) (goodIn_nil)))
set_option maxRecDepth 100000 in
theorem gd_M_lists_M_row_547 : GoodIn wp_M_lists (wsV RX12 547 RX12 yX12_row wp_M_row) := goodIn_app (goodIn_r _ [28, 29, 30, 4] rfl rfl) (goodIn_ca (goodIn_r _ [31] rfl rfl) (goodIn_nil))
set_option maxRecDepth 100000 in
theorem gd_M_lists_M_two_489 : GoodIn wp_M_lists (va_wsS RX12 489 yX12_two wp_M_two) := goodIn_app (goodIn_r _ [48, 49, 4] rfl rfl) (goodIn_ca (goodIn_r _ [50] rfl rfl) (goodIn_nil))
set_option maxHeartbeats 4000000 in
set_option maxRecDepth 100000 in
theorem b_M_lists {p : Program} {l : Launch} {e : Env} {R : Room} {s : State} {m : MethodId} {args : Array Value} {below : List Frame} {meth : Method} {c : Code} {D : va_G} {K : Nat → ClassId} {A : Nat → Prop} {Q : State → Prop} {τ : Nat → Option Ty} {dom : List Nat} {zb zL : Nat} {zx : Nat → Int32} {zs : Nat → Nat} (hR : 3 ≤ R.frames ∧ 73 ≤ R.locals) (B : Bx p s m args c cX12_lists 16 RX12 wp_M_lists D (tysA K) A) (Z : Sk τ dom) (hz : ZL zb zL zx zs A s s.heap) (h : Nat) (q : Nat → Nat) (Y : MS τ h q) (d : Int) (x2 : Int) (x3 : Int) (x4 : Int) (x5 : Int) (r_d : 0 ≤ d ∧ d ≤ 1) (r_x2 : 0 ≤ x2 ∧ x2 ≤ 255) (r_x3 : 0 ≤ x3 ∧ x3 ≤ 65535) (r_x4 : 0 ≤ x4 ∧ x4 ≤ 65535) (r_x5 : -4 ≤ x5 ∧ x5 ≤ 64) (σ0 : Nat → va_E) (G0 : GM K h q σ0) (hM : At σ0 (q 85) (d : Int).toNat (0) (7)) (h1 : 1 ≤ x3) (hend : ∀ (σ' : Nat → va_E) (lv : List (Nat × Value)) (pc : Nat), GM K h q σ' → Fr τ [(190, 0), (182, 0), (184, 0), (185, 0)] σ0 σ' → decode cX12_lists pc = .ok (.return_, 1) → V p l e R s m args below meth c 16 D A Q (0, 0) (fd dom σ') lv pc []) : V p l e R s m args below meth c 16 D A Q (0, 0) (fd dom σ0) [(0, .ref h), (1, .int (iI d)), (2, .int (iI x2)), (3, .int (iI x3)), (4, .int (iI x4)), (5, .int (iI x5))] 0 [] := by
  have F0 : Fr τ [(190, 0), (182, 0), (184, 0), (185, 0)] σ0 σ0 := Fr.rf
  obtain ⟨z1, z2, z3, z4, z5, h6, r7, r8, r9, r10, r11⟩ := G0.t.o
  obtain ⟨f12, h13, e14⟩ := ga_85 G0.t
  obtain ⟨z15, e16, r17⟩ := e14 (d : Int).toNat
  have r18 := hM.use h13 e16 (by omega)
  have J452 : ∀ (σ_452 : Nat → va_E) (z452_7 : Int), GM K h q σ_452 → Fr τ [(190, 0), (182, 0), (184, 0), (185, 0)] σ0 σ_452 → (σ_452 h = .inr (12, fsM q (iI z1) (iI z2) (iI z3) (iI z4) (iI z5))) → (0 ≤ z452_7 ∧ z452_7 ≤ 64) → (At σ_452 (q 85) (d : Int).toNat (0) (7)) → V p l e R s m args below meth c 16 D A Q (0, 0) (fd dom σ_452) [(0, .ref h), (1, .int (iI d)), (7, .int (iI z452_7))] 452 [] := by
    intro σ_452 z452_7 G_452 F_452 hc452_h r452_7 i452
    obtain ⟨f19, h20, e21⟩ := ga_85 G_452.t
    obtain ⟨z22, e23, r24⟩ := e21 (d : Int).toNat
    have r25 := (i452).use h20 e23 (by omega)
    refine v_aload_n B dX12_lists_452 rfl rfl ?_
    refine v_iload_n B dX12_lists_453 rfl rfl ?_
    refine v_iconst B (v := iI 4) dX12_lists_454 rfl ?_
    refine v_iload B dX12_lists_455 rfl ?_
    refine u_callVv B Z hz (n := 3) (As := [.int (iI d), .int (iI 4), .int (iI z452_7)]) (rest := []) (c_M_says l D K Z _ _ _ _ h q Y d 4 z452_7 ⟨by omega, by omega⟩ ⟨by omega, by omega⟩ ⟨by omega, by omega⟩ σ_452 G_452 (At.mk h20 e23 (by omega) ⟨by omega, by omega⟩) (by omega)) gd_M_lists_M_says_527 rfl rfl rfl (by decide +kernel) ⟨Nat.le_trans (by decide +kernel) hR.1, Nat.le_trans (by decide +kernel) hR.2⟩ Y.o (clsM G_452.t) rfl rfl rfl rfl (Nat.le_of_ble_eq_true rfl) dX12_lists_457 ⟨Nat.zero_le _, Nat.zero_le _⟩ (fun σ26 p27 => ?_)
    obtain ⟨G29, F30⟩ := p27
    have F31 := F_452.call F30 (by first | rfl | simp)
    exact hend σ26 _ _ G29 F31 dX12_lists_460
  have J450 : ∀ (σ_450 : Nat → va_E) (z450_7 : Int) (z450_s0 : Int) (z450_s1 : Int), GM K h q σ_450 → Fr τ [(190, 0), (182, 0), (184, 0), (185, 0)] σ0 σ_450 → (σ_450 h = .inr (12, fsM q (iI z1) (iI z2) (iI z3) (iI z4) (iI z5))) → (0 ≤ z450_7 ∧ z450_7 ≤ 64) → (0 ≤ z450_s0 ∧ z450_s0 ≤ 44) → (1 ≤ z450_s1 ∧ z450_s1 ≤ 1) → (At σ_450 (q 85) (d : Int).toNat (0) (7)) → V p l e R s m args below meth c 16 D A Q (0, 0) (fd dom σ_450) [(0, .ref h), (1, .int (iI d)), (7, .int (iI z450_7))] 450 [.int (iI z450_s0), .int (iI z450_s1), .ref (q 90)] := by
    intro σ_450 z450_7 z450_s0 z450_s1 G_450 F_450 hc450_h r450_7 r450_s0 r450_s1 i450
    obtain ⟨f32, h33, e34⟩ := ga_85 G_450.t
    obtain ⟨z35, e36, r37⟩ := e34 (d : Int).toNat
    have r38 := (i450).use h33 e36 (by omega)
    obtain ⟨z39, e40, r41⟩ := iI_i8 z450_s0
    refine v_i2b B (v := iI z39) dX12_lists_450 e40 ?_
    obtain ⟨f42, h43, e44⟩ := ga_90 G_450.t
    refine u_bast B Z (t0 := 2) (x := iI z39) (y := iI z39) (ym_90 Y) h43 rfl (by omega) (nar8 (by omega)) dX12_lists_451 (fun σ45 h46 n47 => ?_)
    have F48 := F_450.put (ym_90 Y) (by simp) n47
    have G49 := gp_90 Y G_450 ⟨_, h46, el_upd (z := z39) e44 ⟨by omega, by omega⟩ _⟩ n47
    have h50 := (n47 (q 85) (ne_ty (ym_85 Y) (ym_90 Y) (by decide))).trans (h33)
    have h51 := (n47 h (ne_ty Y.o (ym_90 Y) (by decide))).trans (hc450_h)
    exact J452 σ45 z450_7 G49 F48 h51 ⟨by omega, by omega⟩ ((At.mk h50 e36 (by omega) ⟨by omega, by omega⟩))
  have J403 : ∀ (σ_403 : Nat → va_E) (z403_7 : Int) (z403_8 : Int) (z403_9 : Int), GM K h q σ_403 → Fr τ [(190, 0), (182, 0), (184, 0), (185, 0)] σ0 σ_403 → (σ_403 h = .inr (12, fsM q (iI z1) (iI z2) (iI z3) (iI z4) (iI z5))) → (0 ≤ z403_7 ∧ z403_7 ≤ 64) → (0 ≤ z403_8 ∧ z403_8 ≤ 44) → (-2147483648 ≤ z403_9 ∧ z403_9 ≤ 2147483647) → (At σ_403 (q 85) (d : Int).toNat (0) (7)) → V p l e R s m args below meth c 16 D A Q (0, 0) (fd dom σ_403) [(0, .ref h), (1, .int (iI d)), (2, .int (iI x2)), (3, .int (iI x3)), (7, .int (iI z403_7)), (8, .int (iI z403_8)), (9, .int (iI z403_9))] 403 [] := by
    intro σ_403 z403_7 z403_8 z403_9 G_403 F_403 hc403_h r403_7 r403_8 r403_9 i403
    obtain ⟨f52, h53, e54⟩ := ga_85 G_403.t
    obtain ⟨z55, e56, r57⟩ := e54 (d : Int).toNat
    have r58 := (i403).use h53 e56 (by omega)
    refine v_iload B dX12_lists_403 rfl ?_
    refine u_if_ne B (tgt := 418) (by omega) dX12_lists_405 (by decide +kernel) (fun c59 => ?_) (fun c59 => ?_)
    · refine v_aload_n B dX12_lists_418 rfl rfl ?_
      refine u_get B Z (C := RX12) (T := TX12) (N := 123) (ci := 12) hi_M_lists_X12 Y.o hc403_h rfl 90 (by decide +kernel) (List.mem_of_getElem? (i := 11) rfl) rfl dX12_lists_419 ?_
      refine v_iconst B (v := iI 0) dX12_lists_422 rfl ?_
      refine v_iload_n B dX12_lists_423 rfl rfl ?_
      refine v_iconst B (v := iI 1) dX12_lists_424 rfl ?_
      refine v_iadd B (v := iI (x2 + 1)) dX12_lists_425 ((iI_add _ _).trans (congrArg iI (by omega))) ?_
      obtain ⟨z60, e61, r62⟩ := iI_i8 (x2 + 1)
      refine v_i2b B (v := iI z60) dX12_lists_426 e61 ?_
      obtain ⟨f63, h64, e65⟩ := ga_90 G_403.t
      refine u_bast B Z (t0 := 2) (x := iI z60) (y := iI z60) (ym_90 Y) h64 rfl (by omega) (nar8 (by omega)) dX12_lists_427 (fun σ66 h67 n68 => ?_)
      have F69 := F_403.put (ym_90 Y) (by simp) n68
      have G70 := gp_90 Y G_403 ⟨_, h67, el_upd (z := z60) e65 ⟨by omega, by omega⟩ _⟩ n68
      refine v_iload_n B dX12_lists_428 rfl rfl ?_
      refine v_bipush B (v := iI 6) dX12_lists_429 (by decide +kernel) ?_
      refine u_icmp_eq B (tgt := 452) (by omega) (by omega) dX12_lists_431 (by decide +kernel) (fun c71 => ?_) (fun c71 => ?_)
      · refine v_lv [0, 1, 4] rfl ?_
        have h72 := (n68 (q 85) (ne_ty (ym_85 Y) (ym_90 Y) (by decide))).trans (h53)
        have h73 := (n68 h (ne_ty Y.o (ym_90 Y) (by decide))).trans (hc403_h)
        exact J452 σ66 z403_7 G70 F69 h73 ⟨by omega, by omega⟩ ((At.mk h72 e56 (by omega) ⟨by omega, by omega⟩))
      · refine v_aload_n B dX12_lists_434 rfl rfl ?_
        have h74 := (n68 h (ne_ty Y.o (ym_90 Y) (by decide))).trans (hc403_h)
        refine u_get B Z (C := RX12) (T := TX12) (N := 123) (ci := 12) hi_M_lists_X12 Y.o h74 rfl 90 (by decide +kernel) (List.mem_of_getElem? (i := 11) rfl) rfl dX12_lists_435 ?_
        refine v_iconst B (v := iI 1) dX12_lists_438 rfl ?_
        refine v_iload_n B dX12_lists_439 rfl rfl ?_
        refine v_iconst B (v := iI 4) dX12_lists_440 rfl ?_
        refine u_icmp_ne B (tgt := 448) (by omega) (by omega) dX12_lists_441 (by decide +kernel) (fun c75 => ?_) (fun c75 => ?_)
        · refine v_iload B dX12_lists_448 rfl ?_
          refine v_lv [0, 1, 4] rfl ?_
          have h76 := (n68 (q 85) (ne_ty (ym_85 Y) (ym_90 Y) (by decide))).trans (h53)
          exact J450 σ66 z403_7 z403_8 1 G70 F69 h74 ⟨by omega, by omega⟩ ⟨by omega, by omega⟩ ⟨by omega, by omega⟩ ((At.mk h76 e56 (by omega) ⟨by omega, by omega⟩))
        · refine v_iconst B (v := iI 1) dX12_lists_444 rfl ?_
          refine v_goto B (tgt := 450) dX12_lists_445 (by decide +kernel) ?_
          refine v_lv [0, 1, 4] rfl ?_
          have h77 := (n68 (q 85) (ne_ty (ym_85 Y) (ym_90 Y) (by decide))).trans (h53)
          exact J450 σ66 z403_7 1 1 G70 F69 h74 ⟨by omega, by omega⟩ ⟨by omega, by omega⟩ ⟨by omega, by omega⟩ ((At.mk h77 e56 (by omega) ⟨by omega, by omega⟩))
    · refine v_aload_n B dX12_lists_408 rfl rfl ?_
      refine v_iload_n B dX12_lists_409 rfl rfl ?_
      refine v_iload_n B dX12_lists_410 rfl rfl ?_
      refine v_iload_n B dX12_lists_411 rfl rfl ?_
      refine v_bipush B (v := iI 10) dX12_lists_412 (by decide +kernel) ?_
      refine u_callVv B Z hz (n := 4) (As := [.int (iI d), .int (iI x2), .int (iI x3), .int (iI 10)]) (rest := []) (c_M_error l D K Z _ _ _ _ h q Y d x2 x3 10 ⟨by omega, by omega⟩ ⟨by omega, by omega⟩ ⟨by omega, by omega⟩ ⟨by omega, by omega⟩ σ_403 G_403 (At.mk h53 e56 (by omega) ⟨by omega, by omega⟩)) gd_M_lists_M_error_564 rfl rfl rfl (by decide +kernel) ⟨Nat.le_trans (by decide +kernel) hR.1, Nat.le_trans (by decide +kernel) hR.2⟩ Y.o (clsM G_403.t) rfl rfl rfl rfl (Nat.le_of_ble_eq_true rfl) dX12_lists_414 ⟨Nat.zero_le _, Nat.zero_le _⟩ (fun σ78 p79 => ?_)
      obtain ⟨G81, F82⟩ := p79
      have F83 := F_403.call F82 (by first | rfl | simp)
      exact hend σ78 _ _ G81 F83 dX12_lists_417
  have J44 : ∀ (k44 : Nat) (σ_44 : Nat → va_E) (z44_6 : Int) (z44_7 : Int) (z44_8 : Int) (z44_9 : Int) (z44_10 : Int) (z44_11 : Int), (2147483648 - z44_11).toNat ≤ k44 → GM K h q σ_44 → Fr τ [(190, 0), (182, 0), (184, 0), (185, 0)] σ0 σ_44 → (σ_44 h = .inr (12, fsM q (iI z1) (iI z2) (iI z3) (iI z4) (iI z5))) → (0 ≤ z44_6 ∧ z44_6 ≤ 65535) → (0 ≤ z44_7 ∧ z44_7 ≤ 64) → (0 ≤ z44_8 ∧ z44_8 ≤ 44) → (-2147483648 ≤ z44_9 ∧ z44_9 ≤ 2147483647) → (0 ≤ z44_10 ∧ z44_10 ≤ 1) → (1 ≤ z44_11 ∧ z44_11 ≤ 65535) → (At σ_44 (q 85) (d : Int).toNat (0) (7)) → V p l e R s m args below meth c 16 D A Q (0, 0) (fd dom σ_44) [(0, .ref h), (1, .int (iI d)), (2, .int (iI x2)), (3, .int (iI x3)), (4, .int (iI x4)), (5, .int (iI x5)), (6, .int (iI z44_6)), (7, .int (iI z44_7)), (8, .int (iI z44_8)), (9, .int (iI z44_9)), (10, .int (iI z44_10)), (11, .int (iI z44_11))] 44 [] := by
    intro k44
    induction k44 with
    | zero => intro σ_44 z44_6 z44_7 z44_8 z44_9 z44_10 z44_11 m44 G_44 F_44 hc44_h r44_6 r44_7 r44_8 r44_9 r44_10 r44_11 i44; omega
    | succ k44 IH44 =>
      intro σ_44 z44_6 z44_7 z44_8 z44_9 z44_10 z44_11 m44 G_44 F_44 hc44_h r44_6 r44_7 r44_8 r44_9 r44_10 r44_11 i44
      have J397 : ∀ (σ_397 : Nat → va_E) (z397_7 : Int) (z397_8 : Int) (z397_9 : Int) (z397_10 : Int), GM K h q σ_397 → Fr τ [(190, 0), (182, 0), (184, 0), (185, 0)] σ0 σ_397 → (σ_397 h = .inr (12, fsM q (iI z1) (iI z2) (iI z3) (iI z4) (iI z5))) → (1 ≤ x4 ∧ x4 ≤ 65535) → (1 ≤ z44_10 ∧ z44_10 ≤ 1) → (1 ≤ z44_11 ∧ z44_11 ≤ 20) → (0 ≤ z397_7 ∧ z397_7 ≤ 64) → (0 ≤ z397_8 ∧ z397_8 ≤ 44) → (-2147483648 ≤ z397_9 ∧ z397_9 ≤ 2147483647) → (0 ≤ z397_10 ∧ z397_10 ≤ 1) → (At σ_397 (q 85) (d : Int).toNat (0) (7)) → V p l e R s m args below meth c 16 D A Q (0, 0) (fd dom σ_397) [(0, .ref h), (1, .int (iI d)), (2, .int (iI x2)), (3, .int (iI x3)), (4, .int (iI x4)), (5, .int (iI x5)), (6, .int (iI z44_6)), (7, .int (iI z397_7)), (8, .int (iI z397_8)), (9, .int (iI z397_9)), (10, .int (iI z397_10)), (11, .int (iI z44_11))] 397 [] := by
        intro σ_397 z397_7 z397_8 z397_9 z397_10 G_397 F_397 hc397_h rv397_x4 rv397_z44_10 rv397_z44_11 r397_7 r397_8 r397_9 r397_10 i397
        obtain ⟨f84, h85, e86⟩ := ga_85 G_397.t
        obtain ⟨z87, e88, r89⟩ := e86 (d : Int).toNat
        have r90 := (i397).use h85 e88 (by omega)
        refine v_iinc B (k := 11) (v := iI (z44_11 + 1)) (lv' := [(11, .int (iI (z44_11 + 1))), (0, .ref h), (1, .int (iI d)), (2, .int (iI x2)), (3, .int (iI x3)), (4, .int (iI x4)), (5, .int (iI x5)), (6, .int (iI z44_6)), (7, .int (iI z397_7)), (8, .int (iI z397_8)), (9, .int (iI z397_9)), (10, .int (iI z397_10))]) dX12_lists_397 rfl ((iI_add _ _).trans (congrArg iI (by omega))) (by decide +kernel) rfl ?_
        refine v_goto B (tgt := 44) dX12_lists_400 (by decide +kernel) ?_
        refine v_lv [1, 2, 3, 4, 5, 6, 7, 8, 9, 10, 11, 0] rfl ?_
        exact IH44 σ_397 z44_6 z397_7 z397_8 z397_9 z397_10 (z44_11 + 1) (by omega) G_397 F_397 hc397_h ⟨by omega, by omega⟩ ⟨by omega, by omega⟩ ⟨by omega, by omega⟩ ⟨by omega, by omega⟩ ⟨by omega, by omega⟩ ⟨by omega, by omega⟩ ((At.mk h85 e88 (by omega) ⟨by omega, by omega⟩))
      have J364 : ∀ (σ_364 : Nat → va_E) (z364_7 : Int) (z364_8 : Int) (z364_10 : Int) (z364_12 : Int) (z364_13 : Int) (z364_14 : Int), GM K h q σ_364 → Fr τ [(190, 0), (182, 0), (184, 0), (185, 0)] σ0 σ_364 → (σ_364 h = .inr (12, fsM q (iI z1) (iI z2) (iI z3) (iI z4) (iI z5))) → (1 ≤ x4 ∧ x4 ≤ 65535) → (1 ≤ z44_10 ∧ z44_10 ≤ 1) → (1 ≤ z44_11 ∧ z44_11 ≤ 20) → (0 ≤ z364_7 ∧ z364_7 ≤ 64) → (0 ≤ z364_8 ∧ z364_8 ≤ 44) → (1 ≤ z364_10 ∧ z364_10 ≤ 1) → (0 ≤ z364_12 ∧ z364_12 ≤ 39) → (2 ≤ z364_13 ∧ z364_13 ≤ 4) → (0 ≤ z364_14 ∧ z364_14 ≤ 40) → (At σ_364 (q 85) (d : Int).toNat (0) (7) ∧ (z364_7 + z364_13 + z364_14 ≤ 64 ∧ z364_7 + z364_8 ≤ 64)) → V p l e R s m args below meth c 16 D A Q (0, 0) (fd dom σ_364) [(0, .ref h), (1, .int (iI d)), (2, .int (iI x2)), (3, .int (iI x3)), (4, .int (iI x4)), (5, .int (iI x5)), (6, .int (iI z44_6)), (7, .int (iI z364_7)), (8, .int (iI z364_8)), (9, .int (iI z44_9)), (10, .int (iI z364_10)), (11, .int (iI z44_11)), (12, .int (iI z364_12)), (13, .int (iI z364_13)), (14, .int (iI z364_14))] 364 [] := by
        intro σ_364 z364_7 z364_8 z364_10 z364_12 z364_13 z364_14 G_364 F_364 hc364_h rv364_x4 rv364_z44_10 rv364_z44_11 r364_7 r364_8 r364_10 r364_12 r364_13 r364_14 i364
        obtain ⟨f91, h92, e93⟩ := ga_85 G_364.t
        obtain ⟨z94, e95, r96⟩ := e93 (d : Int).toNat
        have r97 := (i364.1).use h92 e95 (by omega)
        have r98 := i364.2
        refine v_aload_n B dX12_lists_364 rfl rfl ?_
        refine u_get B Z (C := RX12) (T := TX12) (N := 123) (ci := 12) hi_M_lists_X12 Y.o hc364_h rfl 107 (by decide +kernel) (List.mem_of_getElem? (i := 20) rfl) rfl dX12_lists_365 ?_
        refine v_bipush B (v := iI 40) dX12_lists_368 (by decide +kernel) ?_
        refine v_iload B dX12_lists_370 rfl ?_
        refine v_imul B (v := iI (40 * z364_12)) dX12_lists_372 ((iI_mul _ _).trans (congrArg iI (by omega))) ?_
        refine v_aload_n B dX12_lists_373 rfl rfl ?_
        refine u_get B Z (C := RX12) (T := TX12) (N := 123) (ci := 12) hi_M_lists_X12 Y.o hc364_h rfl 90 (by decide +kernel) (List.mem_of_getElem? (i := 11) rfl) rfl dX12_lists_374 ?_
        refine v_iload B dX12_lists_377 rfl ?_
        refine v_iload B dX12_lists_379 rfl ?_
        refine v_iadd B (v := iI (z364_7 + z364_13)) dX12_lists_381 ((iI_add _ _).trans (congrArg iI (by omega))) ?_
        refine v_iload B dX12_lists_382 rfl ?_
        refine u_callSv B Z hz (n := 5) (As := [.ref (q 107), .int (iI (40 * z364_12)), .ref (q 90), .int (iI (z364_7 + z364_13)), .int (iI z364_14)]) (rest := []) (c_M_copy l D K Z _ _ _ _ h q Y 107 1600 (40 * z364_12) 90 96 (z364_7 + z364_13) z364_14 rfl ⟨by omega, by omega⟩ rfl ⟨by omega, by omega⟩ ⟨by omega, by omega⟩ σ_364 G_364 (by omega)) gd_M_lists_M_copy_29 rfl rfl rfl (by decide +kernel) ⟨Nat.le_trans (by decide +kernel) hR.1, Nat.le_trans (by decide +kernel) hR.2⟩ rfl rfl (Nat.le_of_ble_eq_true rfl) dX12_lists_384 ⟨Nat.zero_le _, Nat.zero_le _⟩ (fun σ99 p100 => ?_)
        obtain ⟨G102, F103⟩ := p100
        have F104 := F_364.call F103 (by first | rfl | simp)
        refine v_iload B dX12_lists_387 rfl ?_
        refine v_iload B dX12_lists_389 rfl ?_
        refine v_iadd B (v := iI (z364_7 + z364_8)) dX12_lists_391 ((iI_add _ _).trans (congrArg iI (by omega))) ?_
        refine v_istore B (lv' := [(7, .int (iI (z364_7 + z364_8))), (0, .ref h), (1, .int (iI d)), (2, .int (iI x2)), (3, .int (iI x3)), (4, .int (iI x4)), (5, .int (iI x5)), (6, .int (iI z44_6)), (8, .int (iI z364_8)), (9, .int (iI z44_9)), (10, .int (iI z364_10)), (11, .int (iI z44_11)), (12, .int (iI z364_12)), (13, .int (iI z364_13)), (14, .int (iI z364_14))]) dX12_lists_392 (by decide +kernel) rfl ?_
        obtain ⟨z105, e106, r107⟩ := iI_any (iI z44_9 + iI 1)
        refine v_iinc B (k := 9) (v := iI z105) (lv' := [(9, .int (iI z105)), (7, .int (iI (z364_7 + z364_8))), (0, .ref h), (1, .int (iI d)), (2, .int (iI x2)), (3, .int (iI x3)), (4, .int (iI x4)), (5, .int (iI x5)), (6, .int (iI z44_6)), (8, .int (iI z364_8)), (10, .int (iI z364_10)), (11, .int (iI z44_11)), (12, .int (iI z364_12)), (13, .int (iI z364_13)), (14, .int (iI z364_14))]) dX12_lists_394 rfl e106 (by decide +kernel) rfl ?_
        refine v_lv [2, 3, 4, 5, 6, 7, 8, 1, 9, 0, 10, 11] rfl ?_
        have h108 := (F103 (q 85) _ (ym_85 Y) (by first | rfl | simp)).trans (h92)
        have h109 := (F103 h _ Y.o (by first | rfl | simp)).trans (hc364_h)
        exact J397 σ99 (z364_7 + z364_8) z364_8 z105 z364_10 G102 F104 h109 ⟨by omega, by omega⟩ ⟨by omega, by omega⟩ ⟨by omega, by omega⟩ ⟨by omega, by omega⟩ ⟨by omega, by omega⟩ ⟨by omega, by omega⟩ ⟨by omega, by omega⟩ ((At.mk h108 e95 (by omega) ⟨by omega, by omega⟩))
      have J360 : ∀ (σ_360 : Nat → va_E) (z360_7 : Int) (z360_8 : Int) (z360_10 : Int) (z360_12 : Int) (z360_13 : Int) (z360_14 : Int) (y360_s0 : Int) (z360_s1 : Int), GM K h q σ_360 → Fr τ [(190, 0), (182, 0), (184, 0), (185, 0)] σ0 σ_360 → (σ_360 h = .inr (12, fsM q (iI z1) (iI z2) (iI z3) (iI z4) (iI z5))) → (1 ≤ x4 ∧ x4 ≤ 65535) → (1 ≤ z44_10 ∧ z44_10 ≤ 1) → (1 ≤ z44_11 ∧ z44_11 ≤ 20) → (0 ≤ z360_7 ∧ z360_7 ≤ 64) → (0 ≤ z360_8 ∧ z360_8 ≤ 44) → (1 ≤ z360_10 ∧ z360_10 ≤ 1) → (0 ≤ z360_12 ∧ z360_12 ≤ 39) → (2 ≤ z360_13 ∧ z360_13 ≤ 4) → (0 ≤ z360_14 ∧ z360_14 ≤ 40) → (InL y360_s0) → (2 ≤ z360_s1 ∧ z360_s1 ≤ 64) → (At σ_360 (q 85) (d : Int).toNat (0) (7) ∧ (z360_7 + z360_13 + z360_14 ≤ 64 ∧ z360_7 + z360_8 ≤ 64)) → V p l e R s m args below meth c 16 D A Q (0, 0) (fd dom σ_360) [(0, .ref h), (1, .int (iI d)), (2, .int (iI x2)), (3, .int (iI x3)), (4, .int (iI x4)), (5, .int (iI x5)), (6, .int (iI z44_6)), (7, .int (iI z360_7)), (8, .int (iI z360_8)), (9, .int (iI z44_9)), (10, .int (iI z360_10)), (11, .int (iI z44_11)), (12, .int (iI z360_12)), (13, .int (iI z360_13)), (14, .int (iI z360_14))] 360 [.long (lI y360_s0), .int (iI z360_s1), .ref (q 90)] := by
        intro σ_360 z360_7 z360_8 z360_10 z360_12 z360_13 z360_14 y360_s0 z360_s1 G_360 F_360 hc360_h rv360_x4 rv360_z44_10 rv360_z44_11 r360_7 r360_8 r360_10 r360_12 r360_13 r360_14 r360_s0 r360_s1 i360
        obtain ⟨f110, h111, e112⟩ := ga_85 G_360.t
        obtain ⟨z113, e114, r115⟩ := e112 (d : Int).toNat
        have r116 := (i360.1).use h111 e114 (by omega)
        have r117 := i360.2
        refine v_iconst B (v := iI 2) dX12_lists_360 rfl ?_
        refine u_callSv B Z hz (n := 4) (As := [.ref (q 90), .int (iI z360_s1), .long (lI y360_s0), .int (iI 2)]) (rest := []) (c_M_numberP l D K Z _ _ _ _ h q Y 90 96 z360_s1 y360_s0 2 rfl ⟨by omega, by omega⟩ ⟨by omega, by omega⟩ ⟨by omega, by omega⟩ σ_360 G_360 (by omega)) gd_M_lists_M_numberP_432 rfl rfl rfl (by decide +kernel) ⟨Nat.le_trans (by decide +kernel) hR.1, Nat.le_trans (by decide +kernel) hR.2⟩ rfl rfl (Nat.le_of_ble_eq_true rfl) dX12_lists_361 ⟨Nat.zero_le _, Nat.zero_le _⟩ (fun σ118 p119 => ?_)
        obtain ⟨G121, F122⟩ := p119
        have F123 := F_360.call F122 (by first | rfl | simp)
        have h124 := (F122 (q 85) _ (ym_85 Y) (by first | rfl | simp)).trans (h111)
        have h125 := (F122 h _ Y.o (by first | rfl | simp)).trans (hc360_h)
        exact J364 σ118 z360_7 z360_8 z360_10 z360_12 z360_13 z360_14 G121 F123 h125 ⟨by omega, by omega⟩ ⟨by omega, by omega⟩ ⟨by omega, by omega⟩ ⟨by omega, by omega⟩ ⟨by omega, by omega⟩ ⟨by omega, by omega⟩ ⟨by omega, by omega⟩ ⟨by omega, by omega⟩ ⟨by omega, by omega⟩ (⟨(At.mk h124 e114 (by omega) ⟨by omega, by omega⟩), (by omega)⟩)
      have J225 : ∀ (σ_225 : Nat → va_E) (z225_7 : Int) (z225_8 : Int) (z225_12 : Int) (z225_13 : Int) (z225_14 : Int) (z225_15 : Int), GM K h q σ_225 → Fr τ [(190, 0), (182, 0), (184, 0), (185, 0)] σ0 σ_225 → (σ_225 h = .inr (12, fsM q (iI z1) (iI z2) (iI z3) (iI z4) (iI z5))) → (8 ≤ x2 ∧ x2 ≤ 16) → (1 ≤ x4 ∧ x4 ≤ 65535) → (1 ≤ z44_10 ∧ z44_10 ≤ 1) → (1 ≤ z44_11 ∧ z44_11 ≤ 20) → (0 ≤ z225_7 ∧ z225_7 ≤ 64) → (0 ≤ z225_8 ∧ z225_8 ≤ 44) → (0 ≤ z225_12 ∧ z225_12 ≤ 39) → (2 ≤ z225_13 ∧ z225_13 ≤ 4) → (0 ≤ z225_14 ∧ z225_14 ≤ 40) → (0 ≤ z225_15 ∧ z225_15 ≤ 5) → (At σ_225 (q 85) (d : Int).toNat (0) (7)) → V p l e R s m args below meth c 16 D A Q (0, 0) (fd dom σ_225) [(0, .ref h), (1, .int (iI d)), (2, .int (iI x2)), (3, .int (iI x3)), (4, .int (iI x4)), (5, .int (iI x5)), (6, .int (iI z44_6)), (7, .int (iI z225_7)), (8, .int (iI z225_8)), (9, .int (iI z44_9)), (11, .int (iI z44_11)), (12, .int (iI z225_12)), (13, .int (iI z225_13)), (14, .int (iI z225_14)), (15, .int (iI z225_15))] 225 [] := by
        intro σ_225 z225_7 z225_8 z225_12 z225_13 z225_14 z225_15 G_225 F_225 hc225_h rv225_x2 rv225_x4 rv225_z44_10 rv225_z44_11 r225_7 r225_8 r225_12 r225_13 r225_14 r225_15 i225
        obtain ⟨f126, h127, e128⟩ := ga_85 G_225.t
        obtain ⟨z129, e130, r131⟩ := e128 (d : Int).toNat
        have r132 := (i225).use h127 e130 (by omega)
        refine v_iload B dX12_lists_225 rfl ?_
        refine u_if_ne B (tgt := 249) (by omega) dX12_lists_227 (by decide +kernel) (fun c133 => ?_) (fun c133 => ?_)
        · refine v_iconst B (v := iI 0) dX12_lists_249 rfl ?_
          refine v_istore B (lv' := [(10, .int (iI 0)), (0, .ref h), (1, .int (iI d)), (2, .int (iI x2)), (3, .int (iI x3)), (4, .int (iI x4)), (5, .int (iI x5)), (6, .int (iI z44_6)), (7, .int (iI z225_7)), (8, .int (iI z225_8)), (9, .int (iI z44_9)), (11, .int (iI z44_11)), (12, .int (iI z225_12)), (13, .int (iI z225_13)), (14, .int (iI z225_14)), (15, .int (iI z225_15))]) dX12_lists_250 (by decide +kernel) rfl ?_
          refine v_iload B dX12_lists_252 rfl ?_
          refine u_if_ne B (tgt := 265) (by omega) dX12_lists_254 (by decide +kernel) (fun c134 => ?_) (fun c134 => ?_)
          · refine v_iload B dX12_lists_265 rfl ?_
            refine v_istore B (lv' := [(8, .int (iI z225_8)), (10, .int (iI 0)), (0, .ref h), (1, .int (iI d)), (2, .int (iI x2)), (3, .int (iI x3)), (4, .int (iI x4)), (5, .int (iI x5)), (6, .int (iI z44_6)), (7, .int (iI z225_7)), (9, .int (iI z44_9)), (11, .int (iI z44_11)), (12, .int (iI z225_12)), (13, .int (iI z225_13)), (14, .int (iI z225_14)), (15, .int (iI z225_15))]) dX12_lists_267 (by decide +kernel) rfl ?_
            refine v_goto B (tgt := 275) dX12_lists_269 (by decide +kernel) ?_
            refine v_iload B dX12_lists_275 rfl ?_
            refine u_if_eq B (tgt := 298) (by omega) dX12_lists_277 (by decide +kernel) (fun c135 => ?_) (fun c135 => by omega)
            refine v_iconst B (v := iI 0) dX12_lists_298 rfl ?_
            refine v_istore B (lv' := [(10, .int (iI 0)), (8, .int (iI z225_8)), (0, .ref h), (1, .int (iI d)), (2, .int (iI x2)), (3, .int (iI x3)), (4, .int (iI x4)), (5, .int (iI x5)), (6, .int (iI z44_6)), (7, .int (iI z225_7)), (9, .int (iI z44_9)), (11, .int (iI z44_11)), (12, .int (iI z225_12)), (13, .int (iI z225_13)), (14, .int (iI z225_14)), (15, .int (iI z225_15))]) dX12_lists_299 (by decide +kernel) rfl ?_
            refine v_iload B dX12_lists_301 rfl ?_
            refine u_if_ne B (tgt := 309) (by omega) dX12_lists_303 (by decide +kernel) (fun c136 => by omega) (fun c136 => ?_)
            refine v_goto B (tgt := 397) dX12_lists_306 (by decide +kernel) ?_
            refine v_lv [2, 3, 4, 5, 6, 7, 8, 9, 1, 10, 0, 11] rfl ?_
            exact J397 σ_225 z225_7 z225_8 z44_9 0 G_225 F_225 hc225_h ⟨by omega, by omega⟩ ⟨by omega, by omega⟩ ⟨by omega, by omega⟩ ⟨by omega, by omega⟩ ⟨by omega, by omega⟩ ⟨by omega, by omega⟩ ⟨by omega, by omega⟩ ((At.mk h127 e130 (by omega) ⟨by omega, by omega⟩))
          · refine v_iload B dX12_lists_257 rfl ?_
            refine v_iload B dX12_lists_259 rfl ?_
            refine v_iadd B (v := iI (z225_13 + z225_14)) dX12_lists_261 ((iI_add _ _).trans (congrArg iI (by omega))) ?_
            refine v_goto B (tgt := 267) dX12_lists_262 (by decide +kernel) ?_
            refine v_istore B (lv' := [(8, .int (iI (z225_13 + z225_14))), (10, .int (iI 0)), (0, .ref h), (1, .int (iI d)), (2, .int (iI x2)), (3, .int (iI x3)), (4, .int (iI x4)), (5, .int (iI x5)), (6, .int (iI z44_6)), (7, .int (iI z225_7)), (9, .int (iI z44_9)), (11, .int (iI z44_11)), (12, .int (iI z225_12)), (13, .int (iI z225_13)), (14, .int (iI z225_14)), (15, .int (iI z225_15))]) dX12_lists_267 (by decide +kernel) rfl ?_
            refine v_goto B (tgt := 275) dX12_lists_269 (by decide +kernel) ?_
            refine v_iload B dX12_lists_275 rfl ?_
            refine u_if_eq B (tgt := 298) (by omega) dX12_lists_277 (by decide +kernel) (fun c137 => ?_) (fun c137 => by omega)
            refine v_iconst B (v := iI 0) dX12_lists_298 rfl ?_
            refine v_istore B (lv' := [(10, .int (iI 0)), (8, .int (iI (z225_13 + z225_14))), (0, .ref h), (1, .int (iI d)), (2, .int (iI x2)), (3, .int (iI x3)), (4, .int (iI x4)), (5, .int (iI x5)), (6, .int (iI z44_6)), (7, .int (iI z225_7)), (9, .int (iI z44_9)), (11, .int (iI z44_11)), (12, .int (iI z225_12)), (13, .int (iI z225_13)), (14, .int (iI z225_14)), (15, .int (iI z225_15))]) dX12_lists_299 (by decide +kernel) rfl ?_
            refine v_iload B dX12_lists_301 rfl ?_
            refine u_if_ne B (tgt := 309) (by omega) dX12_lists_303 (by decide +kernel) (fun c138 => by omega) (fun c138 => ?_)
            refine v_goto B (tgt := 397) dX12_lists_306 (by decide +kernel) ?_
            refine v_lv [2, 3, 4, 5, 6, 7, 8, 9, 1, 10, 0, 11] rfl ?_
            exact J397 σ_225 z225_7 (z225_13 + z225_14) z44_9 0 G_225 F_225 hc225_h ⟨by omega, by omega⟩ ⟨by omega, by omega⟩ ⟨by omega, by omega⟩ ⟨by omega, by omega⟩ ⟨by omega, by omega⟩ ⟨by omega, by omega⟩ ⟨by omega, by omega⟩ ((At.mk h127 e130 (by omega) ⟨by omega, by omega⟩))
        · refine v_iload B dX12_lists_230 rfl ?_
          refine u_if_eq B (tgt := 245) (by omega) dX12_lists_232 (by decide +kernel) (fun c139 => ?_) (fun c139 => ?_)
          · refine v_iconst B (v := iI 1) dX12_lists_245 rfl ?_
            refine v_goto B (tgt := 250) dX12_lists_246 (by decide +kernel) ?_
            refine v_istore B (lv' := [(10, .int (iI 1)), (0, .ref h), (1, .int (iI d)), (2, .int (iI x2)), (3, .int (iI x3)), (4, .int (iI x4)), (5, .int (iI x5)), (6, .int (iI z44_6)), (7, .int (iI z225_7)), (8, .int (iI z225_8)), (9, .int (iI z44_9)), (11, .int (iI z44_11)), (12, .int (iI z225_12)), (13, .int (iI z225_13)), (14, .int (iI z225_14)), (15, .int (iI z225_15))]) dX12_lists_250 (by decide +kernel) rfl ?_
            refine v_iload B dX12_lists_252 rfl ?_
            refine u_if_ne B (tgt := 265) (by omega) dX12_lists_254 (by decide +kernel) (fun c140 => by omega) (fun c140 => ?_)
            refine v_iload B dX12_lists_257 rfl ?_
            refine v_iload B dX12_lists_259 rfl ?_
            refine v_iadd B (v := iI (z225_13 + z225_14)) dX12_lists_261 ((iI_add _ _).trans (congrArg iI (by omega))) ?_
            refine v_goto B (tgt := 267) dX12_lists_262 (by decide +kernel) ?_
            refine v_istore B (lv' := [(8, .int (iI (z225_13 + z225_14))), (10, .int (iI 1)), (0, .ref h), (1, .int (iI d)), (2, .int (iI x2)), (3, .int (iI x3)), (4, .int (iI x4)), (5, .int (iI x5)), (6, .int (iI z44_6)), (7, .int (iI z225_7)), (9, .int (iI z44_9)), (11, .int (iI z44_11)), (12, .int (iI z225_12)), (13, .int (iI z225_13)), (14, .int (iI z225_14)), (15, .int (iI z225_15))]) dX12_lists_267 (by decide +kernel) rfl ?_
            refine v_goto B (tgt := 275) dX12_lists_269 (by decide +kernel) ?_
            refine v_iload B dX12_lists_275 rfl ?_
            refine u_if_eq B (tgt := 298) (by omega) dX12_lists_277 (by decide +kernel) (fun c141 => by omega) (fun c141 => ?_)
            refine v_iload B dX12_lists_280 rfl ?_
            refine v_iload B dX12_lists_282 rfl ?_
            refine v_iadd B (v := iI (z225_7 + z225_13 + z225_14)) dX12_lists_284 ((iI_add _ _).trans (congrArg iI (by omega))) ?_
            refine v_aload_n B dX12_lists_285 rfl rfl ?_
            refine u_get B Z (C := RX12) (T := TX12) (N := 123) (ci := 12) hi_M_lists_X12 Y.o hc225_h rfl 104 (by decide +kernel) (List.mem_of_getElem? (i := 21) rfl) rfl dX12_lists_286 ?_
            refine v_iload_n B dX12_lists_289 rfl rfl ?_
            obtain ⟨f142, h143, e144⟩ := ga_104 G_225.t
            obtain ⟨z145, e146, r147⟩ := e144 (d : Int).toNat
            refine u_iald B Z (t0 := 0) (ym_104 Y) h143 rfl (by omega) e146 dX12_lists_290 ?_
            refine u_icmp_gt B (tgt := 298) (by omega) (by omega) dX12_lists_291 (by decide +kernel) (fun c148 => ?_) (fun c148 => ?_)
            · refine v_iconst B (v := iI 0) dX12_lists_298 rfl ?_
              refine v_istore B (lv' := [(10, .int (iI 0)), (8, .int (iI (z225_13 + z225_14))), (0, .ref h), (1, .int (iI d)), (2, .int (iI x2)), (3, .int (iI x3)), (4, .int (iI x4)), (5, .int (iI x5)), (6, .int (iI z44_6)), (7, .int (iI z225_7)), (9, .int (iI z44_9)), (11, .int (iI z44_11)), (12, .int (iI z225_12)), (13, .int (iI z225_13)), (14, .int (iI z225_14)), (15, .int (iI z225_15))]) dX12_lists_299 (by decide +kernel) rfl ?_
              refine v_iload B dX12_lists_301 rfl ?_
              refine u_if_ne B (tgt := 309) (by omega) dX12_lists_303 (by decide +kernel) (fun c149 => by omega) (fun c149 => ?_)
              refine v_goto B (tgt := 397) dX12_lists_306 (by decide +kernel) ?_
              refine v_lv [2, 3, 4, 5, 6, 7, 8, 9, 1, 10, 0, 11] rfl ?_
              exact J397 σ_225 z225_7 (z225_13 + z225_14) z44_9 0 G_225 F_225 hc225_h ⟨by omega, by omega⟩ ⟨by omega, by omega⟩ ⟨by omega, by omega⟩ ⟨by omega, by omega⟩ ⟨by omega, by omega⟩ ⟨by omega, by omega⟩ ⟨by omega, by omega⟩ ((At.mk h127 e130 (by omega) ⟨by omega, by omega⟩))
            · refine v_iconst B (v := iI 1) dX12_lists_294 rfl ?_
              refine v_goto B (tgt := 299) dX12_lists_295 (by decide +kernel) ?_
              refine v_istore B (lv' := [(10, .int (iI 1)), (8, .int (iI (z225_13 + z225_14))), (0, .ref h), (1, .int (iI d)), (2, .int (iI x2)), (3, .int (iI x3)), (4, .int (iI x4)), (5, .int (iI x5)), (6, .int (iI z44_6)), (7, .int (iI z225_7)), (9, .int (iI z44_9)), (11, .int (iI z44_11)), (12, .int (iI z225_12)), (13, .int (iI z225_13)), (14, .int (iI z225_14)), (15, .int (iI z225_15))]) dX12_lists_299 (by decide +kernel) rfl ?_
              refine v_iload B dX12_lists_301 rfl ?_
              refine u_if_ne B (tgt := 309) (by omega) dX12_lists_303 (by decide +kernel) (fun c150 => ?_) (fun c150 => by omega)
              refine v_aload_n B dX12_lists_309 rfl rfl ?_
              refine u_get B Z (C := RX12) (T := TX12) (N := 123) (ci := 12) hi_M_lists_X12 Y.o hc225_h rfl 90 (by decide +kernel) (List.mem_of_getElem? (i := 11) rfl) rfl dX12_lists_310 ?_
              refine v_iload B dX12_lists_313 rfl ?_
              refine v_iload B dX12_lists_315 rfl ?_
              refine v_i2l B (v := lI z44_11) dX12_lists_317 (lI_i (by omega)) ?_
              refine v_iconst B (v := iI 2) dX12_lists_318 rfl ?_
              refine u_callSv B Z hz (n := 4) (As := [.ref (q 90), .int (iI z225_7), .long (lI z44_11), .int (iI 2)]) (rest := []) (c_M_numberP l D K Z _ _ _ _ h q Y 90 96 z225_7 z44_11 2 rfl ⟨by omega, by omega⟩ ⟨by omega, by omega⟩ ⟨by omega, by omega⟩ σ_225 G_225 (by omega)) gd_M_lists_M_numberP_432 rfl rfl rfl (by decide +kernel) ⟨Nat.le_trans (by decide +kernel) hR.1, Nat.le_trans (by decide +kernel) hR.2⟩ rfl rfl (Nat.le_of_ble_eq_true rfl) dX12_lists_319 ⟨Nat.zero_le _, Nat.zero_le _⟩ (fun σ151 p152 => ?_)
              obtain ⟨G154, F155⟩ := p152
              have F156 := F_225.call F155 (by first | rfl | simp)
              refine v_iload_n B dX12_lists_322 rfl rfl ?_
              refine v_bipush B (v := iI 8) dX12_lists_323 (by decide +kernel) ?_
              refine u_icmp_eq B (tgt := 364) (by omega) (by omega) dX12_lists_325 (by decide +kernel) (fun c157 => ?_) (fun c157 => ?_)
              · refine v_lv [2, 3, 4, 5, 6, 7, 8, 9, 1, 10, 0, 11, 12, 13, 14] rfl ?_
                have h158 := (F155 (q 85) _ (ym_85 Y) (by first | rfl | simp)).trans (h127)
                have h159 := (F155 h _ Y.o (by first | rfl | simp)).trans (hc225_h)
                exact J364 σ151 z225_7 (z225_13 + z225_14) 1 z225_12 z225_13 z225_14 G154 F156 h159 ⟨by omega, by omega⟩ ⟨by omega, by omega⟩ ⟨by omega, by omega⟩ ⟨by omega, by omega⟩ ⟨by omega, by omega⟩ ⟨by omega, by omega⟩ ⟨by omega, by omega⟩ ⟨by omega, by omega⟩ ⟨by omega, by omega⟩ (⟨(At.mk h158 e130 (by omega) ⟨by omega, by omega⟩), (by omega)⟩)
              · refine v_aload_n B dX12_lists_328 rfl rfl ?_
                have h160 := (F155 h _ Y.o (by first | rfl | simp)).trans (hc225_h)
                refine u_get B Z (C := RX12) (T := TX12) (N := 123) (ci := 12) hi_M_lists_X12 Y.o h160 rfl 90 (by decide +kernel) (List.mem_of_getElem? (i := 11) rfl) rfl dX12_lists_329 ?_
                refine v_iload B dX12_lists_332 rfl ?_
                refine v_iconst B (v := iI 2) dX12_lists_334 rfl ?_
                refine v_iadd B (v := iI (z225_7 + 2)) dX12_lists_335 ((iI_add _ _).trans (congrArg iI (by omega))) ?_
                refine v_iload_n B dX12_lists_336 rfl rfl ?_
                refine v_iconst B (v := iI 4) dX12_lists_337 rfl ?_
                refine u_icmp_ne B (tgt := 352) (by omega) (by omega) dX12_lists_338 (by decide +kernel) (fun c161 => ?_) (fun c161 => by omega)
                refine v_aload_n B dX12_lists_352 rfl rfl ?_
                refine v_iload_n B dX12_lists_353 rfl rfl ?_
                refine v_iload B dX12_lists_354 rfl ?_
                refine u_callVi B Z hz (n := 2) (As := [.int (iI d), .int (iI z44_11)]) (rest := [.int (iI (z225_7 + 2)), .ref (q 90)]) (c_M_endOf l D K Z _ _ _ _ h q Y d z44_11 ⟨by omega, by omega⟩ ⟨by omega, by omega⟩ σ151 (G154.t)) gd_M_lists_M_endOf_603 rfl rfl rfl (by decide +kernel) ⟨Nat.le_trans (by decide +kernel) hR.1, Nat.le_trans (by decide +kernel) hR.2⟩ Y.o (clsM G154.t) rfl rfl rfl rfl (Nat.le_of_ble_eq_true rfl) dX12_lists_356 ⟨Nat.zero_le _, Nat.zero_le _⟩ (fun v164 σ162 p163 => ?_)
                obtain ⟨rfl, z165, e166, r167⟩ := p163
                subst e166
                refine v_i2l B (v := lI z165) dX12_lists_359 (lI_i (by omega)) ?_
                refine v_lv [2, 3, 4, 5, 6, 7, 8, 9, 1, 10, 0, 11, 12, 13, 14] rfl ?_
                have h168 := (F155 (q 85) _ (ym_85 Y) (by first | rfl | simp)).trans (h127)
                exact J360 σ151 z225_7 (z225_13 + z225_14) 1 z225_12 z225_13 z225_14 z165 (z225_7 + 2) G154 F156 h160 ⟨by omega, by omega⟩ ⟨by omega, by omega⟩ ⟨by omega, by omega⟩ ⟨by omega, by omega⟩ ⟨by omega, by omega⟩ ⟨by omega, by omega⟩ ⟨by omega, by omega⟩ ⟨by omega, by omega⟩ ⟨by omega, by omega⟩ ⟨by omega, by omega⟩ ⟨by omega, by omega⟩ (⟨(At.mk h168 e130 (by omega) ⟨by omega, by omega⟩), (by omega)⟩)
          · refine v_iload B dX12_lists_235 rfl ?_
            refine v_iload B dX12_lists_237 rfl ?_
            refine v_iadd B (v := iI (z225_13 + z225_14)) dX12_lists_239 ((iI_add _ _).trans (congrArg iI (by omega))) ?_
            refine v_iload B dX12_lists_240 rfl ?_
            refine u_icmp_ne B (tgt := 249) (by omega) (by omega) dX12_lists_242 (by decide +kernel) (fun c169 => ?_) (fun c169 => ?_)
            · refine v_iconst B (v := iI 0) dX12_lists_249 rfl ?_
              refine v_istore B (lv' := [(10, .int (iI 0)), (0, .ref h), (1, .int (iI d)), (2, .int (iI x2)), (3, .int (iI x3)), (4, .int (iI x4)), (5, .int (iI x5)), (6, .int (iI z44_6)), (7, .int (iI z225_7)), (8, .int (iI z225_8)), (9, .int (iI z44_9)), (11, .int (iI z44_11)), (12, .int (iI z225_12)), (13, .int (iI z225_13)), (14, .int (iI z225_14)), (15, .int (iI z225_15))]) dX12_lists_250 (by decide +kernel) rfl ?_
              refine v_iload B dX12_lists_252 rfl ?_
              refine u_if_ne B (tgt := 265) (by omega) dX12_lists_254 (by decide +kernel) (fun c170 => ?_) (fun c170 => ?_)
              · refine v_iload B dX12_lists_265 rfl ?_
                refine v_istore B (lv' := [(8, .int (iI z225_8)), (10, .int (iI 0)), (0, .ref h), (1, .int (iI d)), (2, .int (iI x2)), (3, .int (iI x3)), (4, .int (iI x4)), (5, .int (iI x5)), (6, .int (iI z44_6)), (7, .int (iI z225_7)), (9, .int (iI z44_9)), (11, .int (iI z44_11)), (12, .int (iI z225_12)), (13, .int (iI z225_13)), (14, .int (iI z225_14)), (15, .int (iI z225_15))]) dX12_lists_267 (by decide +kernel) rfl ?_
                refine v_goto B (tgt := 275) dX12_lists_269 (by decide +kernel) ?_
                refine v_iload B dX12_lists_275 rfl ?_
                refine u_if_eq B (tgt := 298) (by omega) dX12_lists_277 (by decide +kernel) (fun c171 => ?_) (fun c171 => by omega)
                refine v_iconst B (v := iI 0) dX12_lists_298 rfl ?_
                refine v_istore B (lv' := [(10, .int (iI 0)), (8, .int (iI z225_8)), (0, .ref h), (1, .int (iI d)), (2, .int (iI x2)), (3, .int (iI x3)), (4, .int (iI x4)), (5, .int (iI x5)), (6, .int (iI z44_6)), (7, .int (iI z225_7)), (9, .int (iI z44_9)), (11, .int (iI z44_11)), (12, .int (iI z225_12)), (13, .int (iI z225_13)), (14, .int (iI z225_14)), (15, .int (iI z225_15))]) dX12_lists_299 (by decide +kernel) rfl ?_
                refine v_iload B dX12_lists_301 rfl ?_
                refine u_if_ne B (tgt := 309) (by omega) dX12_lists_303 (by decide +kernel) (fun c172 => by omega) (fun c172 => ?_)
                refine v_goto B (tgt := 397) dX12_lists_306 (by decide +kernel) ?_
                refine v_lv [2, 3, 4, 5, 6, 7, 8, 9, 1, 10, 0, 11] rfl ?_
                exact J397 σ_225 z225_7 z225_8 z44_9 0 G_225 F_225 hc225_h ⟨by omega, by omega⟩ ⟨by omega, by omega⟩ ⟨by omega, by omega⟩ ⟨by omega, by omega⟩ ⟨by omega, by omega⟩ ⟨by omega, by omega⟩ ⟨by omega, by omega⟩ ((At.mk h127 e130 (by omega) ⟨by omega, by omega⟩))
              · refine v_iload B dX12_lists_257 rfl ?_
                refine v_iload B dX12_lists_259 rfl ?_
                refine v_iadd B (v := iI (z225_13 + z225_14)) dX12_lists_261 ((iI_add _ _).trans (congrArg iI (by omega))) ?_
                refine v_goto B (tgt := 267) dX12_lists_262 (by decide +kernel) ?_
                refine v_istore B (lv' := [(8, .int (iI (z225_13 + z225_14))), (10, .int (iI 0)), (0, .ref h), (1, .int (iI d)), (2, .int (iI x2)), (3, .int (iI x3)), (4, .int (iI x4)), (5, .int (iI x5)), (6, .int (iI z44_6)), (7, .int (iI z225_7)), (9, .int (iI z44_9)), (11, .int (iI z44_11)), (12, .int (iI z225_12)), (13, .int (iI z225_13)), (14, .int (iI z225_14)), (15, .int (iI z225_15))]) dX12_lists_267 (by decide +kernel) rfl ?_
                refine v_goto B (tgt := 275) dX12_lists_269 (by decide +kernel) ?_
                refine v_iload B dX12_lists_275 rfl ?_
                refine u_if_eq B (tgt := 298) (by omega) dX12_lists_277 (by decide +kernel) (fun c173 => ?_) (fun c173 => by omega)
                refine v_iconst B (v := iI 0) dX12_lists_298 rfl ?_
                refine v_istore B (lv' := [(10, .int (iI 0)), (8, .int (iI (z225_13 + z225_14))), (0, .ref h), (1, .int (iI d)), (2, .int (iI x2)), (3, .int (iI x3)), (4, .int (iI x4)), (5, .int (iI x5)), (6, .int (iI z44_6)), (7, .int (iI z225_7)), (9, .int (iI z44_9)), (11, .int (iI z44_11)), (12, .int (iI z225_12)), (13, .int (iI z225_13)), (14, .int (iI z225_14)), (15, .int (iI z225_15))]) dX12_lists_299 (by decide +kernel) rfl ?_
                refine v_iload B dX12_lists_301 rfl ?_
                refine u_if_ne B (tgt := 309) (by omega) dX12_lists_303 (by decide +kernel) (fun c174 => by omega) (fun c174 => ?_)
                refine v_goto B (tgt := 397) dX12_lists_306 (by decide +kernel) ?_
                refine v_lv [2, 3, 4, 5, 6, 7, 8, 9, 1, 10, 0, 11] rfl ?_
                exact J397 σ_225 z225_7 (z225_13 + z225_14) z44_9 0 G_225 F_225 hc225_h ⟨by omega, by omega⟩ ⟨by omega, by omega⟩ ⟨by omega, by omega⟩ ⟨by omega, by omega⟩ ⟨by omega, by omega⟩ ⟨by omega, by omega⟩ ⟨by omega, by omega⟩ ((At.mk h127 e130 (by omega) ⟨by omega, by omega⟩))
            · refine v_iconst B (v := iI 1) dX12_lists_245 rfl ?_
              refine v_goto B (tgt := 250) dX12_lists_246 (by decide +kernel) ?_
              refine v_istore B (lv' := [(10, .int (iI 1)), (0, .ref h), (1, .int (iI d)), (2, .int (iI x2)), (3, .int (iI x3)), (4, .int (iI x4)), (5, .int (iI x5)), (6, .int (iI z44_6)), (7, .int (iI z225_7)), (8, .int (iI z225_8)), (9, .int (iI z44_9)), (11, .int (iI z44_11)), (12, .int (iI z225_12)), (13, .int (iI z225_13)), (14, .int (iI z225_14)), (15, .int (iI z225_15))]) dX12_lists_250 (by decide +kernel) rfl ?_
              refine v_iload B dX12_lists_252 rfl ?_
              refine u_if_ne B (tgt := 265) (by omega) dX12_lists_254 (by decide +kernel) (fun c175 => ?_) (fun c175 => ?_)
              · refine v_iload B dX12_lists_265 rfl ?_
                refine v_istore B (lv' := [(8, .int (iI z225_8)), (10, .int (iI 1)), (0, .ref h), (1, .int (iI d)), (2, .int (iI x2)), (3, .int (iI x3)), (4, .int (iI x4)), (5, .int (iI x5)), (6, .int (iI z44_6)), (7, .int (iI z225_7)), (9, .int (iI z44_9)), (11, .int (iI z44_11)), (12, .int (iI z225_12)), (13, .int (iI z225_13)), (14, .int (iI z225_14)), (15, .int (iI z225_15))]) dX12_lists_267 (by decide +kernel) rfl ?_
                refine v_goto B (tgt := 275) dX12_lists_269 (by decide +kernel) ?_
                refine v_iload B dX12_lists_275 rfl ?_
                refine u_if_eq B (tgt := 298) (by omega) dX12_lists_277 (by decide +kernel) (fun c176 => by omega) (fun c176 => ?_)
                refine v_iload B dX12_lists_280 rfl ?_
                refine v_iload B dX12_lists_282 rfl ?_
                refine v_iadd B (v := iI (z225_7 + z225_8)) dX12_lists_284 ((iI_add _ _).trans (congrArg iI (by omega))) ?_
                refine v_aload_n B dX12_lists_285 rfl rfl ?_
                refine u_get B Z (C := RX12) (T := TX12) (N := 123) (ci := 12) hi_M_lists_X12 Y.o hc225_h rfl 104 (by decide +kernel) (List.mem_of_getElem? (i := 21) rfl) rfl dX12_lists_286 ?_
                refine v_iload_n B dX12_lists_289 rfl rfl ?_
                obtain ⟨f177, h178, e179⟩ := ga_104 G_225.t
                obtain ⟨z180, e181, r182⟩ := e179 (d : Int).toNat
                refine u_iald B Z (t0 := 0) (ym_104 Y) h178 rfl (by omega) e181 dX12_lists_290 ?_
                refine u_icmp_gt B (tgt := 298) (by omega) (by omega) dX12_lists_291 (by decide +kernel) (fun c183 => ?_) (fun c183 => ?_)
                · refine v_iconst B (v := iI 0) dX12_lists_298 rfl ?_
                  refine v_istore B (lv' := [(10, .int (iI 0)), (8, .int (iI z225_8)), (0, .ref h), (1, .int (iI d)), (2, .int (iI x2)), (3, .int (iI x3)), (4, .int (iI x4)), (5, .int (iI x5)), (6, .int (iI z44_6)), (7, .int (iI z225_7)), (9, .int (iI z44_9)), (11, .int (iI z44_11)), (12, .int (iI z225_12)), (13, .int (iI z225_13)), (14, .int (iI z225_14)), (15, .int (iI z225_15))]) dX12_lists_299 (by decide +kernel) rfl ?_
                  refine v_iload B dX12_lists_301 rfl ?_
                  refine u_if_ne B (tgt := 309) (by omega) dX12_lists_303 (by decide +kernel) (fun c184 => by omega) (fun c184 => ?_)
                  refine v_goto B (tgt := 397) dX12_lists_306 (by decide +kernel) ?_
                  refine v_lv [2, 3, 4, 5, 6, 7, 8, 9, 1, 10, 0, 11] rfl ?_
                  exact J397 σ_225 z225_7 z225_8 z44_9 0 G_225 F_225 hc225_h ⟨by omega, by omega⟩ ⟨by omega, by omega⟩ ⟨by omega, by omega⟩ ⟨by omega, by omega⟩ ⟨by omega, by omega⟩ ⟨by omega, by omega⟩ ⟨by omega, by omega⟩ ((At.mk h127 e130 (by omega) ⟨by omega, by omega⟩))
                · refine v_iconst B (v := iI 1) dX12_lists_294 rfl ?_
                  refine v_goto B (tgt := 299) dX12_lists_295 (by decide +kernel) ?_
                  refine v_istore B (lv' := [(10, .int (iI 1)), (8, .int (iI z225_8)), (0, .ref h), (1, .int (iI d)), (2, .int (iI x2)), (3, .int (iI x3)), (4, .int (iI x4)), (5, .int (iI x5)), (6, .int (iI z44_6)), (7, .int (iI z225_7)), (9, .int (iI z44_9)), (11, .int (iI z44_11)), (12, .int (iI z225_12)), (13, .int (iI z225_13)), (14, .int (iI z225_14)), (15, .int (iI z225_15))]) dX12_lists_299 (by decide +kernel) rfl ?_
                  refine v_iload B dX12_lists_301 rfl ?_
                  refine u_if_ne B (tgt := 309) (by omega) dX12_lists_303 (by decide +kernel) (fun c185 => ?_) (fun c185 => by omega)
                  refine v_aload_n B dX12_lists_309 rfl rfl ?_
                  refine u_get B Z (C := RX12) (T := TX12) (N := 123) (ci := 12) hi_M_lists_X12 Y.o hc225_h rfl 90 (by decide +kernel) (List.mem_of_getElem? (i := 11) rfl) rfl dX12_lists_310 ?_
                  refine v_iload B dX12_lists_313 rfl ?_
                  refine v_iload B dX12_lists_315 rfl ?_
                  refine v_i2l B (v := lI z44_11) dX12_lists_317 (lI_i (by omega)) ?_
                  refine v_iconst B (v := iI 2) dX12_lists_318 rfl ?_
                  refine u_callSv B Z hz (n := 4) (As := [.ref (q 90), .int (iI z225_7), .long (lI z44_11), .int (iI 2)]) (rest := []) (c_M_numberP l D K Z _ _ _ _ h q Y 90 96 z225_7 z44_11 2 rfl ⟨by omega, by omega⟩ ⟨by omega, by omega⟩ ⟨by omega, by omega⟩ σ_225 G_225 (by omega)) gd_M_lists_M_numberP_432 rfl rfl rfl (by decide +kernel) ⟨Nat.le_trans (by decide +kernel) hR.1, Nat.le_trans (by decide +kernel) hR.2⟩ rfl rfl (Nat.le_of_ble_eq_true rfl) dX12_lists_319 ⟨Nat.zero_le _, Nat.zero_le _⟩ (fun σ186 p187 => ?_)
                  obtain ⟨G189, F190⟩ := p187
                  have F191 := F_225.call F190 (by first | rfl | simp)
                  refine v_iload_n B dX12_lists_322 rfl rfl ?_
                  refine v_bipush B (v := iI 8) dX12_lists_323 (by decide +kernel) ?_
                  refine u_icmp_eq B (tgt := 364) (by omega) (by omega) dX12_lists_325 (by decide +kernel) (fun c192 => ?_) (fun c192 => ?_)
                  · refine v_lv [2, 3, 4, 5, 6, 7, 8, 9, 1, 10, 0, 11, 12, 13, 14] rfl ?_
                    have h193 := (F190 (q 85) _ (ym_85 Y) (by first | rfl | simp)).trans (h127)
                    have h194 := (F190 h _ Y.o (by first | rfl | simp)).trans (hc225_h)
                    exact J364 σ186 z225_7 z225_8 1 z225_12 z225_13 z225_14 G189 F191 h194 ⟨by omega, by omega⟩ ⟨by omega, by omega⟩ ⟨by omega, by omega⟩ ⟨by omega, by omega⟩ ⟨by omega, by omega⟩ ⟨by omega, by omega⟩ ⟨by omega, by omega⟩ ⟨by omega, by omega⟩ ⟨by omega, by omega⟩ (⟨(At.mk h193 e130 (by omega) ⟨by omega, by omega⟩), (by omega)⟩)
                  · refine v_aload_n B dX12_lists_328 rfl rfl ?_
                    have h195 := (F190 h _ Y.o (by first | rfl | simp)).trans (hc225_h)
                    refine u_get B Z (C := RX12) (T := TX12) (N := 123) (ci := 12) hi_M_lists_X12 Y.o h195 rfl 90 (by decide +kernel) (List.mem_of_getElem? (i := 11) rfl) rfl dX12_lists_329 ?_
                    refine v_iload B dX12_lists_332 rfl ?_
                    refine v_iconst B (v := iI 2) dX12_lists_334 rfl ?_
                    refine v_iadd B (v := iI (z225_7 + 2)) dX12_lists_335 ((iI_add _ _).trans (congrArg iI (by omega))) ?_
                    refine v_iload_n B dX12_lists_336 rfl rfl ?_
                    refine v_iconst B (v := iI 4) dX12_lists_337 rfl ?_
                    refine u_icmp_ne B (tgt := 352) (by omega) (by omega) dX12_lists_338 (by decide +kernel) (fun c196 => ?_) (fun c196 => by omega)
                    refine v_aload_n B dX12_lists_352 rfl rfl ?_
                    refine v_iload_n B dX12_lists_353 rfl rfl ?_
                    refine v_iload B dX12_lists_354 rfl ?_
                    refine u_callVi B Z hz (n := 2) (As := [.int (iI d), .int (iI z44_11)]) (rest := [.int (iI (z225_7 + 2)), .ref (q 90)]) (c_M_endOf l D K Z _ _ _ _ h q Y d z44_11 ⟨by omega, by omega⟩ ⟨by omega, by omega⟩ σ186 (G189.t)) gd_M_lists_M_endOf_603 rfl rfl rfl (by decide +kernel) ⟨Nat.le_trans (by decide +kernel) hR.1, Nat.le_trans (by decide +kernel) hR.2⟩ Y.o (clsM G189.t) rfl rfl rfl rfl (Nat.le_of_ble_eq_true rfl) dX12_lists_356 ⟨Nat.zero_le _, Nat.zero_le _⟩ (fun v199 σ197 p198 => ?_)
                    obtain ⟨rfl, z200, e201, r202⟩ := p198
                    subst e201
                    refine v_i2l B (v := lI z200) dX12_lists_359 (lI_i (by omega)) ?_
                    refine v_lv [2, 3, 4, 5, 6, 7, 8, 9, 1, 10, 0, 11, 12, 13, 14] rfl ?_
                    have h203 := (F190 (q 85) _ (ym_85 Y) (by first | rfl | simp)).trans (h127)
                    exact J360 σ186 z225_7 z225_8 1 z225_12 z225_13 z225_14 z200 (z225_7 + 2) G189 F191 h195 ⟨by omega, by omega⟩ ⟨by omega, by omega⟩ ⟨by omega, by omega⟩ ⟨by omega, by omega⟩ ⟨by omega, by omega⟩ ⟨by omega, by omega⟩ ⟨by omega, by omega⟩ ⟨by omega, by omega⟩ ⟨by omega, by omega⟩ ⟨by omega, by omega⟩ ⟨by omega, by omega⟩ (⟨(At.mk h203 e130 (by omega) ⟨by omega, by omega⟩), (by omega)⟩)
              · refine v_iload B dX12_lists_257 rfl ?_
                refine v_iload B dX12_lists_259 rfl ?_
                refine v_iadd B (v := iI (z225_13 + z225_14)) dX12_lists_261 ((iI_add _ _).trans (congrArg iI (by omega))) ?_
                refine v_goto B (tgt := 267) dX12_lists_262 (by decide +kernel) ?_
                refine v_istore B (lv' := [(8, .int (iI (z225_13 + z225_14))), (10, .int (iI 1)), (0, .ref h), (1, .int (iI d)), (2, .int (iI x2)), (3, .int (iI x3)), (4, .int (iI x4)), (5, .int (iI x5)), (6, .int (iI z44_6)), (7, .int (iI z225_7)), (9, .int (iI z44_9)), (11, .int (iI z44_11)), (12, .int (iI z225_12)), (13, .int (iI z225_13)), (14, .int (iI z225_14)), (15, .int (iI z225_15))]) dX12_lists_267 (by decide +kernel) rfl ?_
                refine v_goto B (tgt := 275) dX12_lists_269 (by decide +kernel) ?_
                refine v_iload B dX12_lists_275 rfl ?_
                refine u_if_eq B (tgt := 298) (by omega) dX12_lists_277 (by decide +kernel) (fun c204 => by omega) (fun c204 => ?_)
                refine v_iload B dX12_lists_280 rfl ?_
                refine v_iload B dX12_lists_282 rfl ?_
                refine v_iadd B (v := iI (z225_7 + z225_13 + z225_14)) dX12_lists_284 ((iI_add _ _).trans (congrArg iI (by omega))) ?_
                refine v_aload_n B dX12_lists_285 rfl rfl ?_
                refine u_get B Z (C := RX12) (T := TX12) (N := 123) (ci := 12) hi_M_lists_X12 Y.o hc225_h rfl 104 (by decide +kernel) (List.mem_of_getElem? (i := 21) rfl) rfl dX12_lists_286 ?_
                refine v_iload_n B dX12_lists_289 rfl rfl ?_
                obtain ⟨f205, h206, e207⟩ := ga_104 G_225.t
                obtain ⟨z208, e209, r210⟩ := e207 (d : Int).toNat
                refine u_iald B Z (t0 := 0) (ym_104 Y) h206 rfl (by omega) e209 dX12_lists_290 ?_
                refine u_icmp_gt B (tgt := 298) (by omega) (by omega) dX12_lists_291 (by decide +kernel) (fun c211 => ?_) (fun c211 => ?_)
                · refine v_iconst B (v := iI 0) dX12_lists_298 rfl ?_
                  refine v_istore B (lv' := [(10, .int (iI 0)), (8, .int (iI (z225_13 + z225_14))), (0, .ref h), (1, .int (iI d)), (2, .int (iI x2)), (3, .int (iI x3)), (4, .int (iI x4)), (5, .int (iI x5)), (6, .int (iI z44_6)), (7, .int (iI z225_7)), (9, .int (iI z44_9)), (11, .int (iI z44_11)), (12, .int (iI z225_12)), (13, .int (iI z225_13)), (14, .int (iI z225_14)), (15, .int (iI z225_15))]) dX12_lists_299 (by decide +kernel) rfl ?_
                  refine v_iload B dX12_lists_301 rfl ?_
                  refine u_if_ne B (tgt := 309) (by omega) dX12_lists_303 (by decide +kernel) (fun c212 => by omega) (fun c212 => ?_)
                  refine v_goto B (tgt := 397) dX12_lists_306 (by decide +kernel) ?_
                  refine v_lv [2, 3, 4, 5, 6, 7, 8, 9, 1, 10, 0, 11] rfl ?_
                  exact J397 σ_225 z225_7 (z225_13 + z225_14) z44_9 0 G_225 F_225 hc225_h ⟨by omega, by omega⟩ ⟨by omega, by omega⟩ ⟨by omega, by omega⟩ ⟨by omega, by omega⟩ ⟨by omega, by omega⟩ ⟨by omega, by omega⟩ ⟨by omega, by omega⟩ ((At.mk h127 e130 (by omega) ⟨by omega, by omega⟩))
                · refine v_iconst B (v := iI 1) dX12_lists_294 rfl ?_
                  refine v_goto B (tgt := 299) dX12_lists_295 (by decide +kernel) ?_
                  refine v_istore B (lv' := [(10, .int (iI 1)), (8, .int (iI (z225_13 + z225_14))), (0, .ref h), (1, .int (iI d)), (2, .int (iI x2)), (3, .int (iI x3)), (4, .int (iI x4)), (5, .int (iI x5)), (6, .int (iI z44_6)), (7, .int (iI z225_7)), (9, .int (iI z44_9)), (11, .int (iI z44_11)), (12, .int (iI z225_12)), (13, .int (iI z225_13)), (14, .int (iI z225_14)), (15, .int (iI z225_15))]) dX12_lists_299 (by decide +kernel) rfl ?_
                  refine v_iload B dX12_lists_301 rfl ?_
                  refine u_if_ne B (tgt := 309) (by omega) dX12_lists_303 (by decide +kernel) (fun c213 => ?_) (fun c213 => by omega)
                  refine v_aload_n B dX12_lists_309 rfl rfl ?_
                  refine u_get B Z (C := RX12) (T := TX12) (N := 123) (ci := 12) hi_M_lists_X12 Y.o hc225_h rfl 90 (by decide +kernel) (List.mem_of_getElem? (i := 11) rfl) rfl dX12_lists_310 ?_
                  refine v_iload B dX12_lists_313 rfl ?_
                  refine v_iload B dX12_lists_315 rfl ?_
                  refine v_i2l B (v := lI z44_11) dX12_lists_317 (lI_i (by omega)) ?_
                  refine v_iconst B (v := iI 2) dX12_lists_318 rfl ?_
                  refine u_callSv B Z hz (n := 4) (As := [.ref (q 90), .int (iI z225_7), .long (lI z44_11), .int (iI 2)]) (rest := []) (c_M_numberP l D K Z _ _ _ _ h q Y 90 96 z225_7 z44_11 2 rfl ⟨by omega, by omega⟩ ⟨by omega, by omega⟩ ⟨by omega, by omega⟩ σ_225 G_225 (by omega)) gd_M_lists_M_numberP_432 rfl rfl rfl (by decide +kernel) ⟨Nat.le_trans (by decide +kernel) hR.1, Nat.le_trans (by decide +kernel) hR.2⟩ rfl rfl (Nat.le_of_ble_eq_true rfl) dX12_lists_319 ⟨Nat.zero_le _, Nat.zero_le _⟩ (fun σ214 p215 => ?_)
                  obtain ⟨G217, F218⟩ := p215
                  have F219 := F_225.call F218 (by first | rfl | simp)
                  refine v_iload_n B dX12_lists_322 rfl rfl ?_
                  refine v_bipush B (v := iI 8) dX12_lists_323 (by decide +kernel) ?_
                  refine u_icmp_eq B (tgt := 364) (by omega) (by omega) dX12_lists_325 (by decide +kernel) (fun c220 => ?_) (fun c220 => ?_)
                  · refine v_lv [2, 3, 4, 5, 6, 7, 8, 9, 1, 10, 0, 11, 12, 13, 14] rfl ?_
                    have h221 := (F218 (q 85) _ (ym_85 Y) (by first | rfl | simp)).trans (h127)
                    have h222 := (F218 h _ Y.o (by first | rfl | simp)).trans (hc225_h)
                    exact J364 σ214 z225_7 (z225_13 + z225_14) 1 z225_12 z225_13 z225_14 G217 F219 h222 ⟨by omega, by omega⟩ ⟨by omega, by omega⟩ ⟨by omega, by omega⟩ ⟨by omega, by omega⟩ ⟨by omega, by omega⟩ ⟨by omega, by omega⟩ ⟨by omega, by omega⟩ ⟨by omega, by omega⟩ ⟨by omega, by omega⟩ (⟨(At.mk h221 e130 (by omega) ⟨by omega, by omega⟩), (by omega)⟩)
                  · refine v_aload_n B dX12_lists_328 rfl rfl ?_
                    have h223 := (F218 h _ Y.o (by first | rfl | simp)).trans (hc225_h)
                    refine u_get B Z (C := RX12) (T := TX12) (N := 123) (ci := 12) hi_M_lists_X12 Y.o h223 rfl 90 (by decide +kernel) (List.mem_of_getElem? (i := 11) rfl) rfl dX12_lists_329 ?_
                    refine v_iload B dX12_lists_332 rfl ?_
                    refine v_iconst B (v := iI 2) dX12_lists_334 rfl ?_
                    refine v_iadd B (v := iI (z225_7 + 2)) dX12_lists_335 ((iI_add _ _).trans (congrArg iI (by omega))) ?_
                    refine v_iload_n B dX12_lists_336 rfl rfl ?_
                    refine v_iconst B (v := iI 4) dX12_lists_337 rfl ?_
                    refine u_icmp_ne B (tgt := 352) (by omega) (by omega) dX12_lists_338 (by decide +kernel) (fun c224 => ?_) (fun c224 => by omega)
                    refine v_aload_n B dX12_lists_352 rfl rfl ?_
                    refine v_iload_n B dX12_lists_353 rfl rfl ?_
                    refine v_iload B dX12_lists_354 rfl ?_
                    refine u_callVi B Z hz (n := 2) (As := [.int (iI d), .int (iI z44_11)]) (rest := [.int (iI (z225_7 + 2)), .ref (q 90)]) (c_M_endOf l D K Z _ _ _ _ h q Y d z44_11 ⟨by omega, by omega⟩ ⟨by omega, by omega⟩ σ214 (G217.t)) gd_M_lists_M_endOf_603 rfl rfl rfl (by decide +kernel) ⟨Nat.le_trans (by decide +kernel) hR.1, Nat.le_trans (by decide +kernel) hR.2⟩ Y.o (clsM G217.t) rfl rfl rfl rfl (Nat.le_of_ble_eq_true rfl) dX12_lists_356 ⟨Nat.zero_le _, Nat.zero_le _⟩ (fun v227 σ225 p226 => ?_)
                    obtain ⟨rfl, z228, e229, r230⟩ := p226
                    subst e229
                    refine v_i2l B (v := lI z228) dX12_lists_359 (lI_i (by omega)) ?_
                    refine v_lv [2, 3, 4, 5, 6, 7, 8, 9, 1, 10, 0, 11, 12, 13, 14] rfl ?_
                    have h231 := (F218 (q 85) _ (ym_85 Y) (by first | rfl | simp)).trans (h127)
                    exact J360 σ214 z225_7 (z225_13 + z225_14) 1 z225_12 z225_13 z225_14 z228 (z225_7 + 2) G217 F219 h223 ⟨by omega, by omega⟩ ⟨by omega, by omega⟩ ⟨by omega, by omega⟩ ⟨by omega, by omega⟩ ⟨by omega, by omega⟩ ⟨by omega, by omega⟩ ⟨by omega, by omega⟩ ⟨by omega, by omega⟩ ⟨by omega, by omega⟩ ⟨by omega, by omega⟩ ⟨by omega, by omega⟩ (⟨(At.mk h231 e130 (by omega) ⟨by omega, by omega⟩), (by omega)⟩)
      have J194 : ∀ (z194_7 : Int) (z194_8 : Int) (z194_12 : Int) (z194_13 : Int) (z194_14 : Int), (8 ≤ x2 ∧ x2 ≤ 16) → (1 ≤ x4 ∧ x4 ≤ 65535) → (1 ≤ z44_10 ∧ z44_10 ≤ 1) → (1 ≤ z44_11 ∧ z44_11 ≤ 20) → (0 ≤ z194_7 ∧ z194_7 ≤ 64) → (0 ≤ z194_8 ∧ z194_8 ≤ 44) → (0 ≤ z194_12 ∧ z194_12 ≤ 39) → (2 ≤ z194_13 ∧ z194_13 ≤ 4) → (0 ≤ z194_14 ∧ z194_14 ≤ 40) → (At σ_44 (q 85) (d : Int).toNat (0) (7) ∧ (x2 = 8 ∨ x2 = 16)) → V p l e R s m args below meth c 16 D A Q (0, 0) (fd dom σ_44) [(0, .ref h), (1, .int (iI d)), (2, .int (iI x2)), (3, .int (iI x3)), (4, .int (iI x4)), (5, .int (iI x5)), (6, .int (iI z44_6)), (7, .int (iI z194_7)), (8, .int (iI z194_8)), (9, .int (iI z44_9)), (11, .int (iI z44_11)), (12, .int (iI z194_12)), (13, .int (iI z194_13)), (14, .int (iI z194_14))] 194 [] := by
        intro z194_7 z194_8 z194_12 z194_13 z194_14 rv194_x2 rv194_x4 rv194_z44_10 rv194_z44_11 r194_7 r194_8 r194_12 r194_13 r194_14 i194
        obtain ⟨f232, h233, e234⟩ := ga_85 G_44.t
        obtain ⟨z235, e236, r237⟩ := e234 (d : Int).toNat
        have r238 := (i194.1).use h233 e236 (by omega)
        have r239 := i194.2
        refine v_aload_n B dX12_lists_194 rfl rfl ?_
        refine v_iload_n B dX12_lists_195 rfl rfl ?_
        refine v_iload B dX12_lists_196 rfl ?_
        refine v_iconst B (v := iI 1) dX12_lists_198 rfl ?_
        refine u_callVi B Z hz (n := 3) (As := [.int (iI d), .int (iI z44_11), .int (iI 1)]) (rest := []) (c_M_lacks l D K Z _ _ _ _ h q Y d z44_11 1 ⟨by omega, by omega⟩ ⟨by omega, by omega⟩ ⟨by omega, by omega⟩ σ_44 (G_44.t)) gd_M_lists_M_lacks_570 rfl rfl rfl (by decide +kernel) ⟨Nat.le_trans (by decide +kernel) hR.1, Nat.le_trans (by decide +kernel) hR.2⟩ Y.o (clsM G_44.t) rfl rfl rfl rfl (Nat.le_of_ble_eq_true rfl) dX12_lists_199 ⟨Nat.zero_le _, Nat.zero_le _⟩ (fun v242 σ240 p241 => ?_)
        obtain ⟨rfl, z243, e244, r245⟩ := p241
        subst e244
        refine v_istore B (lv' := [(15, .int (iI z243)), (0, .ref h), (1, .int (iI d)), (2, .int (iI x2)), (3, .int (iI x3)), (4, .int (iI x4)), (5, .int (iI x5)), (6, .int (iI z44_6)), (7, .int (iI z194_7)), (8, .int (iI z194_8)), (9, .int (iI z44_9)), (11, .int (iI z44_11)), (12, .int (iI z194_12)), (13, .int (iI z194_13)), (14, .int (iI z194_14))]) dX12_lists_202 (by decide +kernel) rfl ?_
        refine v_iload B dX12_lists_204 rfl ?_
        refine u_if_ne B (tgt := 225) (by omega) dX12_lists_206 (by decide +kernel) (fun c246 => ?_) (fun c246 => ?_)
        · refine v_lv [1, 2, 3, 4, 5, 6, 7, 8, 9, 10, 11, 12, 13, 14, 0] rfl ?_
          exact J225 σ_44 z194_7 z194_8 z194_12 z194_13 z194_14 z243 G_44 F_44 hc44_h ⟨by omega, by omega⟩ ⟨by omega, by omega⟩ ⟨by omega, by omega⟩ ⟨by omega, by omega⟩ ⟨by omega, by omega⟩ ⟨by omega, by omega⟩ ⟨by omega, by omega⟩ ⟨by omega, by omega⟩ ⟨by omega, by omega⟩ ⟨by omega, by omega⟩ ((At.mk h233 e236 (by omega) ⟨by omega, by omega⟩))
        · refine v_iload B dX12_lists_209 rfl ?_
          refine u_if_le B (tgt := 225) (by omega) dX12_lists_211 (by decide +kernel) (fun c247 => ?_) (fun c247 => ?_)
          · refine v_lv [1, 2, 3, 4, 5, 6, 7, 8, 9, 10, 11, 12, 13, 14, 0] rfl ?_
            exact J225 σ_44 z194_7 z194_8 z194_12 z194_13 z194_14 z243 G_44 F_44 hc44_h ⟨by omega, by omega⟩ ⟨by omega, by omega⟩ ⟨by omega, by omega⟩ ⟨by omega, by omega⟩ ⟨by omega, by omega⟩ ⟨by omega, by omega⟩ ⟨by omega, by omega⟩ ⟨by omega, by omega⟩ ⟨by omega, by omega⟩ ⟨by omega, by omega⟩ ((At.mk h233 e236 (by omega) ⟨by omega, by omega⟩))
          · refine v_aload_n B dX12_lists_214 rfl rfl ?_
            refine v_iload_n B dX12_lists_215 rfl rfl ?_
            refine v_iload_n B dX12_lists_216 rfl rfl ?_
            refine v_iload B dX12_lists_217 rfl ?_
            refine v_iload B dX12_lists_219 rfl ?_
            refine u_callVv B Z hz (n := 4) (As := [.int (iI d), .int (iI x2), .int (iI z44_11), .int (iI z243)]) (rest := []) (c_M_error l D K Z _ _ _ _ h q Y d x2 z44_11 z243 ⟨by omega, by omega⟩ ⟨by omega, by omega⟩ ⟨by omega, by omega⟩ ⟨by omega, by omega⟩ σ_44 G_44 (At.mk h233 e236 (by omega) ⟨by omega, by omega⟩)) gd_M_lists_M_error_564 rfl rfl rfl (by decide +kernel) ⟨Nat.le_trans (by decide +kernel) hR.1, Nat.le_trans (by decide +kernel) hR.2⟩ Y.o (clsM G_44.t) rfl rfl rfl rfl (Nat.le_of_ble_eq_true rfl) dX12_lists_221 ⟨Nat.zero_le _, Nat.zero_le _⟩ (fun σ248 p249 => ?_)
            obtain ⟨G251, F252⟩ := p249
            have F253 := F_44.call F252 (by first | rfl | simp)
            exact hend σ248 _ _ G251 F253 dX12_lists_224
      have J180 : ∀ (z180_7 : Int) (z180_8 : Int) (z180_12 : Int) (z180_13 : Int) (z180_s0 : Int), (1 ≤ x4 ∧ x4 ≤ 65535) → (1 ≤ z44_10 ∧ z44_10 ≤ 1) → (1 ≤ z44_11 ∧ z44_11 ≤ 20) → (0 ≤ z180_7 ∧ z180_7 ≤ 64) → (0 ≤ z180_8 ∧ z180_8 ≤ 44) → (0 ≤ z180_12 ∧ z180_12 ≤ 39) → (2 ≤ z180_13 ∧ z180_13 ≤ 4) → (0 ≤ z180_s0 ∧ z180_s0 ≤ 40) → (At σ_44 (q 85) (d : Int).toNat (0) (7) ∧ ((x2 = 8 ∨ x2 = 16) ∨ z180_s0 = 0)) → V p l e R s m args below meth c 16 D A Q (0, 0) (fd dom σ_44) [(0, .ref h), (1, .int (iI d)), (2, .int (iI x2)), (3, .int (iI x3)), (4, .int (iI x4)), (5, .int (iI x5)), (6, .int (iI z44_6)), (7, .int (iI z180_7)), (8, .int (iI z180_8)), (9, .int (iI z44_9)), (10, .int (iI z44_10)), (11, .int (iI z44_11)), (12, .int (iI z180_12)), (13, .int (iI z180_13))] 180 [.int (iI z180_s0)] := by
        intro z180_7 z180_8 z180_12 z180_13 z180_s0 rv180_x4 rv180_z44_10 rv180_z44_11 r180_7 r180_8 r180_12 r180_13 r180_s0 i180
        obtain ⟨f254, h255, e256⟩ := ga_85 G_44.t
        obtain ⟨z257, e258, r259⟩ := e256 (d : Int).toNat
        have r260 := (i180.1).use h255 e258 (by omega)
        have r261 := i180.2
        refine v_istore B (lv' := [(14, .int (iI z180_s0)), (0, .ref h), (1, .int (iI d)), (2, .int (iI x2)), (3, .int (iI x3)), (4, .int (iI x4)), (5, .int (iI x5)), (6, .int (iI z44_6)), (7, .int (iI z180_7)), (8, .int (iI z180_8)), (9, .int (iI z44_9)), (10, .int (iI z44_10)), (11, .int (iI z44_11)), (12, .int (iI z180_12)), (13, .int (iI z180_13))]) dX12_lists_180 (by decide +kernel) rfl ?_
        refine v_iload_n B dX12_lists_182 rfl rfl ?_
        refine v_bipush B (v := iI 8) dX12_lists_183 (by decide +kernel) ?_
        refine u_icmp_eq B (tgt := 194) (by omega) (by omega) dX12_lists_185 (by decide +kernel) (fun c262 => ?_) (fun c262 => ?_)
        · refine v_lv [1, 2, 3, 4, 5, 6, 7, 8, 9, 10, 12, 13, 14, 0] rfl ?_
          exact J194 z180_7 z180_8 z180_12 z180_13 z180_s0 ⟨by omega, by omega⟩ ⟨by omega, by omega⟩ ⟨by omega, by omega⟩ ⟨by omega, by omega⟩ ⟨by omega, by omega⟩ ⟨by omega, by omega⟩ ⟨by omega, by omega⟩ ⟨by omega, by omega⟩ ⟨by omega, by omega⟩ (⟨(At.mk h255 e258 (by omega) ⟨by omega, by omega⟩), (by omega)⟩)
        · refine v_iload_n B dX12_lists_188 rfl rfl ?_
          refine v_bipush B (v := iI 16) dX12_lists_189 (by decide +kernel) ?_
          refine u_icmp_ne B (tgt := 272) (by omega) (by omega) dX12_lists_191 (by decide +kernel) (fun c263 => ?_) (fun c263 => ?_)
          · refine v_iconst B (v := iI 4) dX12_lists_272 rfl ?_
            refine v_istore B (lv' := [(8, .int (iI 4)), (14, .int (iI z180_s0)), (0, .ref h), (1, .int (iI d)), (2, .int (iI x2)), (3, .int (iI x3)), (4, .int (iI x4)), (5, .int (iI x5)), (6, .int (iI z44_6)), (7, .int (iI z180_7)), (9, .int (iI z44_9)), (10, .int (iI z44_10)), (11, .int (iI z44_11)), (12, .int (iI z180_12)), (13, .int (iI z180_13))]) dX12_lists_273 (by decide +kernel) rfl ?_
            refine v_iload B dX12_lists_275 rfl ?_
            refine u_if_eq B (tgt := 298) (by omega) dX12_lists_277 (by decide +kernel) (fun c264 => by omega) (fun c264 => ?_)
            refine v_iload B dX12_lists_280 rfl ?_
            refine v_iload B dX12_lists_282 rfl ?_
            refine v_iadd B (v := iI (z180_7 + 4)) dX12_lists_284 ((iI_add _ _).trans (congrArg iI (by omega))) ?_
            refine v_aload_n B dX12_lists_285 rfl rfl ?_
            refine u_get B Z (C := RX12) (T := TX12) (N := 123) (ci := 12) hi_M_lists_X12 Y.o hc44_h rfl 104 (by decide +kernel) (List.mem_of_getElem? (i := 21) rfl) rfl dX12_lists_286 ?_
            refine v_iload_n B dX12_lists_289 rfl rfl ?_
            obtain ⟨f265, h266, e267⟩ := ga_104 G_44.t
            obtain ⟨z268, e269, r270⟩ := e267 (d : Int).toNat
            refine u_iald B Z (t0 := 0) (ym_104 Y) h266 rfl (by omega) e269 dX12_lists_290 ?_
            refine u_icmp_gt B (tgt := 298) (by omega) (by omega) dX12_lists_291 (by decide +kernel) (fun c271 => ?_) (fun c271 => ?_)
            · refine v_iconst B (v := iI 0) dX12_lists_298 rfl ?_
              refine v_istore B (lv' := [(10, .int (iI 0)), (8, .int (iI 4)), (14, .int (iI z180_s0)), (0, .ref h), (1, .int (iI d)), (2, .int (iI x2)), (3, .int (iI x3)), (4, .int (iI x4)), (5, .int (iI x5)), (6, .int (iI z44_6)), (7, .int (iI z180_7)), (9, .int (iI z44_9)), (11, .int (iI z44_11)), (12, .int (iI z180_12)), (13, .int (iI z180_13))]) dX12_lists_299 (by decide +kernel) rfl ?_
              refine v_iload B dX12_lists_301 rfl ?_
              refine u_if_ne B (tgt := 309) (by omega) dX12_lists_303 (by decide +kernel) (fun c272 => by omega) (fun c272 => ?_)
              refine v_goto B (tgt := 397) dX12_lists_306 (by decide +kernel) ?_
              refine v_lv [3, 4, 5, 6, 7, 8, 9, 10, 1, 11, 0, 12] rfl ?_
              exact J397 σ_44 z180_7 4 z44_9 0 G_44 F_44 hc44_h ⟨by omega, by omega⟩ ⟨by omega, by omega⟩ ⟨by omega, by omega⟩ ⟨by omega, by omega⟩ ⟨by omega, by omega⟩ ⟨by omega, by omega⟩ ⟨by omega, by omega⟩ ((At.mk h255 e258 (by omega) ⟨by omega, by omega⟩))
            · refine v_iconst B (v := iI 1) dX12_lists_294 rfl ?_
              refine v_goto B (tgt := 299) dX12_lists_295 (by decide +kernel) ?_
              refine v_istore B (lv' := [(10, .int (iI 1)), (8, .int (iI 4)), (14, .int (iI z180_s0)), (0, .ref h), (1, .int (iI d)), (2, .int (iI x2)), (3, .int (iI x3)), (4, .int (iI x4)), (5, .int (iI x5)), (6, .int (iI z44_6)), (7, .int (iI z180_7)), (9, .int (iI z44_9)), (11, .int (iI z44_11)), (12, .int (iI z180_12)), (13, .int (iI z180_13))]) dX12_lists_299 (by decide +kernel) rfl ?_
              refine v_iload B dX12_lists_301 rfl ?_
              refine u_if_ne B (tgt := 309) (by omega) dX12_lists_303 (by decide +kernel) (fun c273 => ?_) (fun c273 => by omega)
              refine v_aload_n B dX12_lists_309 rfl rfl ?_
              refine u_get B Z (C := RX12) (T := TX12) (N := 123) (ci := 12) hi_M_lists_X12 Y.o hc44_h rfl 90 (by decide +kernel) (List.mem_of_getElem? (i := 11) rfl) rfl dX12_lists_310 ?_
              refine v_iload B dX12_lists_313 rfl ?_
              refine v_iload B dX12_lists_315 rfl ?_
              refine v_i2l B (v := lI z44_11) dX12_lists_317 (lI_i (by omega)) ?_
              refine v_iconst B (v := iI 2) dX12_lists_318 rfl ?_
              refine u_callSv B Z hz (n := 4) (As := [.ref (q 90), .int (iI z180_7), .long (lI z44_11), .int (iI 2)]) (rest := []) (c_M_numberP l D K Z _ _ _ _ h q Y 90 96 z180_7 z44_11 2 rfl ⟨by omega, by omega⟩ ⟨by omega, by omega⟩ ⟨by omega, by omega⟩ σ_44 G_44 (by omega)) gd_M_lists_M_numberP_432 rfl rfl rfl (by decide +kernel) ⟨Nat.le_trans (by decide +kernel) hR.1, Nat.le_trans (by decide +kernel) hR.2⟩ rfl rfl (Nat.le_of_ble_eq_true rfl) dX12_lists_319 ⟨Nat.zero_le _, Nat.zero_le _⟩ (fun σ274 p275 => ?_)
              obtain ⟨G277, F278⟩ := p275
              have F279 := F_44.call F278 (by first | rfl | simp)
              refine v_iload_n B dX12_lists_322 rfl rfl ?_
              refine v_bipush B (v := iI 8) dX12_lists_323 (by decide +kernel) ?_
              refine u_icmp_eq B (tgt := 364) (by omega) (by omega) dX12_lists_325 (by decide +kernel) (fun c280 => ?_) (fun c280 => ?_)
              · refine v_lv [3, 4, 5, 6, 7, 8, 9, 10, 1, 11, 0, 12, 13, 14, 2] rfl ?_
                have h281 := (F278 (q 85) _ (ym_85 Y) (by first | rfl | simp)).trans (h255)
                have h282 := (F278 h _ Y.o (by first | rfl | simp)).trans (hc44_h)
                exact J364 σ274 z180_7 4 1 z180_12 z180_13 z180_s0 G277 F279 h282 ⟨by omega, by omega⟩ ⟨by omega, by omega⟩ ⟨by omega, by omega⟩ ⟨by omega, by omega⟩ ⟨by omega, by omega⟩ ⟨by omega, by omega⟩ ⟨by omega, by omega⟩ ⟨by omega, by omega⟩ ⟨by omega, by omega⟩ (⟨(At.mk h281 e258 (by omega) ⟨by omega, by omega⟩), (by omega)⟩)
              · refine v_aload_n B dX12_lists_328 rfl rfl ?_
                have h283 := (F278 h _ Y.o (by first | rfl | simp)).trans (hc44_h)
                refine u_get B Z (C := RX12) (T := TX12) (N := 123) (ci := 12) hi_M_lists_X12 Y.o h283 rfl 90 (by decide +kernel) (List.mem_of_getElem? (i := 11) rfl) rfl dX12_lists_329 ?_
                refine v_iload B dX12_lists_332 rfl ?_
                refine v_iconst B (v := iI 2) dX12_lists_334 rfl ?_
                refine v_iadd B (v := iI (z180_7 + 2)) dX12_lists_335 ((iI_add _ _).trans (congrArg iI (by omega))) ?_
                refine v_iload_n B dX12_lists_336 rfl rfl ?_
                refine v_iconst B (v := iI 4) dX12_lists_337 rfl ?_
                refine u_icmp_ne B (tgt := 352) (by omega) (by omega) dX12_lists_338 (by decide +kernel) (fun c284 => ?_) (fun c284 => ?_)
                · refine v_aload_n B dX12_lists_352 rfl rfl ?_
                  refine v_iload_n B dX12_lists_353 rfl rfl ?_
                  refine v_iload B dX12_lists_354 rfl ?_
                  refine u_callVi B Z hz (n := 2) (As := [.int (iI d), .int (iI z44_11)]) (rest := [.int (iI (z180_7 + 2)), .ref (q 90)]) (c_M_endOf l D K Z _ _ _ _ h q Y d z44_11 ⟨by omega, by omega⟩ ⟨by omega, by omega⟩ σ274 (G277.t)) gd_M_lists_M_endOf_603 rfl rfl rfl (by decide +kernel) ⟨Nat.le_trans (by decide +kernel) hR.1, Nat.le_trans (by decide +kernel) hR.2⟩ Y.o (clsM G277.t) rfl rfl rfl rfl (Nat.le_of_ble_eq_true rfl) dX12_lists_356 ⟨Nat.zero_le _, Nat.zero_le _⟩ (fun v287 σ285 p286 => ?_)
                  obtain ⟨rfl, z288, e289, r290⟩ := p286
                  subst e289
                  refine v_i2l B (v := lI z288) dX12_lists_359 (lI_i (by omega)) ?_
                  refine v_lv [3, 4, 5, 6, 7, 8, 9, 10, 1, 11, 0, 12, 13, 14, 2] rfl ?_
                  have h291 := (F278 (q 85) _ (ym_85 Y) (by first | rfl | simp)).trans (h255)
                  exact J360 σ274 z180_7 4 1 z180_12 z180_13 z180_s0 z288 (z180_7 + 2) G277 F279 h283 ⟨by omega, by omega⟩ ⟨by omega, by omega⟩ ⟨by omega, by omega⟩ ⟨by omega, by omega⟩ ⟨by omega, by omega⟩ ⟨by omega, by omega⟩ ⟨by omega, by omega⟩ ⟨by omega, by omega⟩ ⟨by omega, by omega⟩ ⟨by omega, by omega⟩ ⟨by omega, by omega⟩ (⟨(At.mk h291 e258 (by omega) ⟨by omega, by omega⟩), (by omega)⟩)
                · refine v_aload_n B dX12_lists_341 rfl rfl ?_
                  refine u_get B Z (C := RX12) (T := TX12) (N := 123) (ci := 12) hi_M_lists_X12 Y.o h283 rfl 101 (by decide +kernel) (List.mem_of_getElem? (i := 27) rfl) rfl dX12_lists_342 ?_
                  refine v_iload B dX12_lists_345 rfl ?_
                  obtain ⟨f292, h293, e294⟩ := ga_101 G277.t
                  obtain ⟨z295, e296, r297⟩ := e294 (z180_12 : Int).toNat
                  refine u_iald B Z (t0 := 0) (ym_101 Y) h293 rfl (by omega) e296 dX12_lists_347 ?_
                  refine v_i2l B (v := lI z295) dX12_lists_348 (lI_i (by omega)) ?_
                  refine v_goto B (tgt := 360) dX12_lists_349 (by decide +kernel) ?_
                  refine v_lv [3, 4, 5, 6, 7, 8, 9, 10, 1, 11, 0, 12, 13, 14, 2] rfl ?_
                  have h298 := (F278 (q 85) _ (ym_85 Y) (by first | rfl | simp)).trans (h255)
                  exact J360 σ274 z180_7 4 1 z180_12 z180_13 z180_s0 z295 (z180_7 + 2) G277 F279 h283 ⟨by omega, by omega⟩ ⟨by omega, by omega⟩ ⟨by omega, by omega⟩ ⟨by omega, by omega⟩ ⟨by omega, by omega⟩ ⟨by omega, by omega⟩ ⟨by omega, by omega⟩ ⟨by omega, by omega⟩ ⟨by omega, by omega⟩ ⟨by omega, by omega⟩ ⟨by omega, by omega⟩ (⟨(At.mk h298 e258 (by omega) ⟨by omega, by omega⟩), (by omega)⟩)
          · refine v_lv [1, 2, 3, 4, 5, 6, 7, 8, 9, 10, 12, 13, 14, 0] rfl ?_
            exact J194 z180_7 z180_8 z180_12 z180_13 z180_s0 ⟨by omega, by omega⟩ ⟨by omega, by omega⟩ ⟨by omega, by omega⟩ ⟨by omega, by omega⟩ ⟨by omega, by omega⟩ ⟨by omega, by omega⟩ ⟨by omega, by omega⟩ ⟨by omega, by omega⟩ ⟨by omega, by omega⟩ (⟨(At.mk h255 e258 (by omega) ⟨by omega, by omega⟩), (by omega)⟩)
      have J155 : ∀ (z155_7 : Int) (z155_8 : Int) (z155_12 : Int) (z155_13 : Int), (8 ≤ x2 ∧ x2 ≤ 16) → (1 ≤ x4 ∧ x4 ≤ 65535) → (1 ≤ z44_10 ∧ z44_10 ≤ 1) → (1 ≤ z44_11 ∧ z44_11 ≤ 20) → (0 ≤ z155_7 ∧ z155_7 ≤ 64) → (0 ≤ z155_8 ∧ z155_8 ≤ 44) → (0 ≤ z155_12 ∧ z155_12 ≤ 39) → (2 ≤ z155_13 ∧ z155_13 ≤ 4) → (At σ_44 (q 85) (d : Int).toNat (0) (7) ∧ (x2 = 8 ∨ x2 = 16)) → V p l e R s m args below meth c 16 D A Q (0, 0) (fd dom σ_44) [(0, .ref h), (1, .int (iI d)), (2, .int (iI x2)), (3, .int (iI x3)), (4, .int (iI x4)), (5, .int (iI x5)), (6, .int (iI z44_6)), (7, .int (iI z155_7)), (8, .int (iI z155_8)), (9, .int (iI z44_9)), (10, .int (iI z44_10)), (11, .int (iI z44_11)), (12, .int (iI z155_12)), (13, .int (iI z155_13))] 155 [] := by
        intro z155_7 z155_8 z155_12 z155_13 rv155_x2 rv155_x4 rv155_z44_10 rv155_z44_11 r155_7 r155_8 r155_12 r155_13 i155
        obtain ⟨f299, h300, e301⟩ := ga_85 G_44.t
        obtain ⟨z302, e303, r304⟩ := e301 (d : Int).toNat
        have r305 := (i155.1).use h300 e303 (by omega)
        have r306 := i155.2
        refine v_aload_n B dX12_lists_155 rfl rfl ?_
        refine u_get B Z (C := RX12) (T := TX12) (N := 123) (ci := 12) hi_M_lists_X12 Y.o hc44_h rfl 103 (by decide +kernel) (List.mem_of_getElem? (i := 38) rfl) rfl dX12_lists_156 ?_
        refine v_iload B dX12_lists_159 rfl ?_
        obtain ⟨f307, h308, e309⟩ := ga_103 G_44.t
        obtain ⟨z310, e311, r312⟩ := e309 (z155_12 : Int).toNat
        refine u_iald B Z (t0 := 0) (ym_103 Y) h308 rfl (by omega) e311 dX12_lists_161 ?_
        refine v_aload_n B dX12_lists_162 rfl rfl ?_
        refine u_get B Z (C := RX12) (T := TX12) (N := 123) (ci := 12) hi_M_lists_X12 Y.o hc44_h rfl 104 (by decide +kernel) (List.mem_of_getElem? (i := 21) rfl) rfl dX12_lists_163 ?_
        refine v_iload_n B dX12_lists_166 rfl rfl ?_
        obtain ⟨f313, h314, e315⟩ := ga_104 G_44.t
        obtain ⟨z316, e317, r318⟩ := e315 (d : Int).toNat
        refine u_iald B Z (t0 := 0) (ym_104 Y) h314 rfl (by omega) e317 dX12_lists_167 ?_
        refine v_iconst B (v := iI 2) dX12_lists_168 rfl ?_
        refine v_isub B (v := iI (z316 + (-2))) dX12_lists_169 ((iI_sub _ _).trans (congrArg iI (by omega))) ?_
        refine v_iload B dX12_lists_170 rfl ?_
        refine v_isub B (v := iI (z316 + (-1) * z155_13 + (-2))) dX12_lists_172 ((iI_sub _ _).trans (congrArg iI (by omega))) ?_
        obtain ⟨z319, e320, r321⟩ := iI_min (a := z310) (b := (z316 + (-1) * z155_13 + (-2))) (by omega) (by omega)
        refine v_mmin B (v := iI z319) (List.mem_of_getElem? (i := 39) rfl) (List.mem_of_getElem? (i := 40) rfl) (List.mem_of_getElem? (i := 41) rfl) (List.mem_of_getElem? (i := 42) rfl) (Nat.le_trans (by decide +kernel) hR.1) (Nat.le_trans (Nat.le_of_ble_eq_true rfl) hR.2) (Nat.zero_le _) (Nat.zero_le _) e320 dX12_lists_173 ?_
        refine v_goto B (tgt := 180) dX12_lists_176 (by decide +kernel) ?_
        exact J180 z155_7 z155_8 z155_12 z155_13 z319 ⟨by omega, by omega⟩ ⟨by omega, by omega⟩ ⟨by omega, by omega⟩ ⟨by omega, by omega⟩ ⟨by omega, by omega⟩ ⟨by omega, by omega⟩ ⟨by omega, by omega⟩ ⟨by omega, by omega⟩ (⟨(At.mk h300 e303 (by omega) ⟨by omega, by omega⟩), (by omega)⟩)
      have J141 : ∀ (z141_7 : Int) (z141_8 : Int) (z141_12 : Int) (z141_s0 : Int), (1 ≤ x4 ∧ x4 ≤ 65535) → (1 ≤ z44_10 ∧ z44_10 ≤ 1) → (1 ≤ z44_11 ∧ z44_11 ≤ 20) → (0 ≤ z141_7 ∧ z141_7 ≤ 64) → (0 ≤ z141_8 ∧ z141_8 ≤ 44) → (0 ≤ z141_12 ∧ z141_12 ≤ 39) → (2 ≤ z141_s0 ∧ z141_s0 ≤ 4) → (At σ_44 (q 85) (d : Int).toNat (0) (7)) → V p l e R s m args below meth c 16 D A Q (0, 0) (fd dom σ_44) [(0, .ref h), (1, .int (iI d)), (2, .int (iI x2)), (3, .int (iI x3)), (4, .int (iI x4)), (5, .int (iI x5)), (6, .int (iI z44_6)), (7, .int (iI z141_7)), (8, .int (iI z141_8)), (9, .int (iI z44_9)), (10, .int (iI z44_10)), (11, .int (iI z44_11)), (12, .int (iI z141_12))] 141 [.int (iI z141_s0)] := by
        intro z141_7 z141_8 z141_12 z141_s0 rv141_x4 rv141_z44_10 rv141_z44_11 r141_7 r141_8 r141_12 r141_s0 i141
        obtain ⟨f322, h323, e324⟩ := ga_85 G_44.t
        obtain ⟨z325, e326, r327⟩ := e324 (d : Int).toNat
        have r328 := (i141).use h323 e326 (by omega)
        refine v_istore B (lv' := [(13, .int (iI z141_s0)), (0, .ref h), (1, .int (iI d)), (2, .int (iI x2)), (3, .int (iI x3)), (4, .int (iI x4)), (5, .int (iI x5)), (6, .int (iI z44_6)), (7, .int (iI z141_7)), (8, .int (iI z141_8)), (9, .int (iI z44_9)), (10, .int (iI z44_10)), (11, .int (iI z44_11)), (12, .int (iI z141_12))]) dX12_lists_141 (by decide +kernel) rfl ?_
        refine v_iload_n B dX12_lists_143 rfl rfl ?_
        refine v_bipush B (v := iI 8) dX12_lists_144 (by decide +kernel) ?_
        refine u_icmp_eq B (tgt := 155) (by omega) (by omega) dX12_lists_146 (by decide +kernel) (fun c329 => ?_) (fun c329 => ?_)
        · refine v_lv [1, 2, 3, 4, 5, 6, 7, 8, 9, 10, 11, 12, 13, 0] rfl ?_
          exact J155 z141_7 z141_8 z141_12 z141_s0 ⟨by omega, by omega⟩ ⟨by omega, by omega⟩ ⟨by omega, by omega⟩ ⟨by omega, by omega⟩ ⟨by omega, by omega⟩ ⟨by omega, by omega⟩ ⟨by omega, by omega⟩ ⟨by omega, by omega⟩ (⟨(At.mk h323 e326 (by omega) ⟨by omega, by omega⟩), (by omega)⟩)
        · refine v_iload_n B dX12_lists_149 rfl rfl ?_
          refine v_bipush B (v := iI 16) dX12_lists_150 (by decide +kernel) ?_
          refine u_icmp_ne B (tgt := 179) (by omega) (by omega) dX12_lists_152 (by decide +kernel) (fun c330 => ?_) (fun c330 => ?_)
          · refine v_iconst B (v := iI 0) dX12_lists_179 rfl ?_
            refine v_lv [1, 2, 3, 4, 5, 6, 7, 8, 9, 10, 11, 12, 13, 0] rfl ?_
            exact J180 z141_7 z141_8 z141_12 z141_s0 0 ⟨by omega, by omega⟩ ⟨by omega, by omega⟩ ⟨by omega, by omega⟩ ⟨by omega, by omega⟩ ⟨by omega, by omega⟩ ⟨by omega, by omega⟩ ⟨by omega, by omega⟩ ⟨by omega, by omega⟩ (⟨(At.mk h323 e326 (by omega) ⟨by omega, by omega⟩), (by omega)⟩)
          · refine v_lv [1, 2, 3, 4, 5, 6, 7, 8, 9, 10, 11, 12, 13, 0] rfl ?_
            exact J155 z141_7 z141_8 z141_12 z141_s0 ⟨by omega, by omega⟩ ⟨by omega, by omega⟩ ⟨by omega, by omega⟩ ⟨by omega, by omega⟩ ⟨by omega, by omega⟩ ⟨by omega, by omega⟩ ⟨by omega, by omega⟩ ⟨by omega, by omega⟩ (⟨(At.mk h323 e326 (by omega) ⟨by omega, by omega⟩), (by omega)⟩)
      have J130 : ∀ (z130_7 : Int) (z130_8 : Int) (z130_12 : Int), (1 ≤ x4 ∧ x4 ≤ 65535) → (1 ≤ z44_10 ∧ z44_10 ≤ 1) → (1 ≤ z44_11 ∧ z44_11 ≤ 20) → (0 ≤ z130_7 ∧ z130_7 ≤ 64) → (0 ≤ z130_8 ∧ z130_8 ≤ 44) → (0 ≤ z130_12 ∧ z130_12 ≤ 39) → (At σ_44 (q 85) (d : Int).toNat (0) (7)) → V p l e R s m args below meth c 16 D A Q (0, 0) (fd dom σ_44) [(0, .ref h), (1, .int (iI d)), (2, .int (iI x2)), (3, .int (iI x3)), (4, .int (iI x4)), (5, .int (iI x5)), (6, .int (iI z44_6)), (7, .int (iI z130_7)), (8, .int (iI z130_8)), (9, .int (iI z44_9)), (10, .int (iI z44_10)), (11, .int (iI z44_11)), (12, .int (iI z130_12))] 130 [] := by
        intro z130_7 z130_8 z130_12 rv130_x4 rv130_z44_10 rv130_z44_11 r130_7 r130_8 r130_12 i130
        obtain ⟨f331, h332, e333⟩ := ga_85 G_44.t
        obtain ⟨z334, e335, r336⟩ := e333 (d : Int).toNat
        have r337 := (i130).use h332 e335 (by omega)
        refine v_iload_n B dX12_lists_130 rfl rfl ?_
        refine v_bipush B (v := iI 16) dX12_lists_131 (by decide +kernel) ?_
        refine u_icmp_ne B (tgt := 140) (by omega) (by omega) dX12_lists_133 (by decide +kernel) (fun c338 => ?_) (fun c338 => ?_)
        · refine v_iconst B (v := iI 2) dX12_lists_140 rfl ?_
          exact J141 z130_7 z130_8 z130_12 2 ⟨by omega, by omega⟩ ⟨by omega, by omega⟩ ⟨by omega, by omega⟩ ⟨by omega, by omega⟩ ⟨by omega, by omega⟩ ⟨by omega, by omega⟩ ⟨by omega, by omega⟩ ((At.mk h332 e335 (by omega) ⟨by omega, by omega⟩))
        · refine v_iconst B (v := iI 4) dX12_lists_136 rfl ?_
          refine v_goto B (tgt := 141) dX12_lists_137 (by decide +kernel) ?_
          exact J141 z130_7 z130_8 z130_12 4 ⟨by omega, by omega⟩ ⟨by omega, by omega⟩ ⟨by omega, by omega⟩ ⟨by omega, by omega⟩ ⟨by omega, by omega⟩ ⟨by omega, by omega⟩ ⟨by omega, by omega⟩ ((At.mk h332 e335 (by omega) ⟨by omega, by omega⟩))
      have J93 : ∀ (z93_7 : Int) (z93_8 : Int) (z93_12 : Int), (1 ≤ x4 ∧ x4 ≤ 65535) → (1 ≤ z44_10 ∧ z44_10 ≤ 1) → (1 ≤ z44_11 ∧ z44_11 ≤ 20) → (0 ≤ z93_7 ∧ z93_7 ≤ 64) → (0 ≤ z93_8 ∧ z93_8 ≤ 44) → (0 ≤ z93_12 ∧ z93_12 ≤ 39) → (At σ_44 (q 85) (d : Int).toNat (0) (7)) → V p l e R s m args below meth c 16 D A Q (0, 0) (fd dom σ_44) [(0, .ref h), (1, .int (iI d)), (2, .int (iI x2)), (3, .int (iI x3)), (4, .int (iI x4)), (5, .int (iI x5)), (6, .int (iI z44_6)), (7, .int (iI z93_7)), (8, .int (iI z93_8)), (9, .int (iI z44_9)), (10, .int (iI z44_10)), (11, .int (iI z44_11)), (12, .int (iI z93_12))] 93 [] := by
        intro z93_7 z93_8 z93_12 rv93_x4 rv93_z44_10 rv93_z44_11 r93_7 r93_8 r93_12 i93
        obtain ⟨f339, h340, e341⟩ := ga_85 G_44.t
        obtain ⟨z342, e343, r344⟩ := e341 (d : Int).toNat
        have r345 := (i93).use h340 e343 (by omega)
        refine v_iload_n B dX12_lists_93 rfl rfl ?_
        refine v_bipush B (v := iI 6) dX12_lists_94 (by decide +kernel) ?_
        refine u_icmp_ne B (tgt := 130) (by omega) (by omega) dX12_lists_96 (by decide +kernel) (fun c346 => ?_) (fun c346 => ?_)
        · exact J130 z93_7 z93_8 z93_12 ⟨by omega, by omega⟩ ⟨by omega, by omega⟩ ⟨by omega, by omega⟩ ⟨by omega, by omega⟩ ⟨by omega, by omega⟩ ⟨by omega, by omega⟩ ((At.mk h340 e343 (by omega) ⟨by omega, by omega⟩))
        · refine v_aload_n B dX12_lists_99 rfl rfl ?_
          refine v_iload_n B dX12_lists_100 rfl rfl ?_
          refine v_iload B dX12_lists_101 rfl ?_
          refine v_iconst B (v := iI 1) dX12_lists_103 rfl ?_
          refine u_callVi B Z hz (n := 3) (As := [.int (iI d), .int (iI z44_11), .int (iI 1)]) (rest := []) (c_M_lacks l D K Z _ _ _ _ h q Y d z44_11 1 ⟨by omega, by omega⟩ ⟨by omega, by omega⟩ ⟨by omega, by omega⟩ σ_44 (G_44.t)) gd_M_lists_M_lacks_570 rfl rfl rfl (by decide +kernel) ⟨Nat.le_trans (by decide +kernel) hR.1, Nat.le_trans (by decide +kernel) hR.2⟩ Y.o (clsM G_44.t) rfl rfl rfl rfl (Nat.le_of_ble_eq_true rfl) dX12_lists_104 ⟨Nat.zero_le _, Nat.zero_le _⟩ (fun v349 σ347 p348 => ?_)
          obtain ⟨rfl, z350, e351, r352⟩ := p348
          subst e351
          refine u_if_ne B (tgt := 397) (by omega) dX12_lists_107 (by decide +kernel) (fun c353 => ?_) (fun c353 => ?_)
          · refine v_lv [0, 1, 2, 3, 4, 5, 6, 7, 8, 9, 10, 11] rfl ?_
            exact J397 σ_44 z93_7 z93_8 z44_9 z44_10 G_44 F_44 hc44_h ⟨by omega, by omega⟩ ⟨by omega, by omega⟩ ⟨by omega, by omega⟩ ⟨by omega, by omega⟩ ⟨by omega, by omega⟩ ⟨by omega, by omega⟩ ⟨by omega, by omega⟩ ((At.mk h340 e343 (by omega) ⟨by omega, by omega⟩))
          · refine v_aload_n B dX12_lists_110 rfl rfl ?_
            refine v_iload_n B dX12_lists_111 rfl rfl ?_
            refine v_iload B dX12_lists_112 rfl ?_
            refine v_bipush B (v := iI 7) dX12_lists_114 (by decide +kernel) ?_
            refine v_iload B dX12_lists_116 rfl ?_
            refine v_bipush B (v := iI 7) dX12_lists_118 (by decide +kernel) ?_
            refine v_isub B (v := iI (x5 + (-7))) dX12_lists_120 ((iI_sub _ _).trans (congrArg iI (by omega))) ?_
            refine u_callVi B Z hz (n := 4) (As := [.int (iI d), .int (iI z44_11), .int (iI 7), .int (iI (x5 + (-7)))]) (rest := []) (c_M_isValue l D K Z _ _ _ _ h q Y d z44_11 7 (x5 + (-7)) ⟨by omega, by omega⟩ ⟨by omega, by omega⟩ ⟨by omega, by omega⟩ ⟨by omega, by omega⟩ σ_44 (G_44.t)) gd_M_lists_M_isValue_599 rfl rfl rfl (by decide +kernel) ⟨Nat.le_trans (by decide +kernel) hR.1, Nat.le_trans (by decide +kernel) hR.2⟩ Y.o (clsM G_44.t) rfl rfl rfl rfl (Nat.le_of_ble_eq_true rfl) dX12_lists_121 ⟨Nat.zero_le _, Nat.zero_le _⟩ (fun v356 σ354 p355 => ?_)
            obtain ⟨rfl, z357, e358, r359⟩ := p355
            subst e358
            refine u_if_ne B (tgt := 130) (by omega) dX12_lists_124 (by decide +kernel) (fun c360 => ?_) (fun c360 => ?_)
            · exact J130 z93_7 z93_8 z93_12 ⟨by omega, by omega⟩ ⟨by omega, by omega⟩ ⟨by omega, by omega⟩ ⟨by omega, by omega⟩ ⟨by omega, by omega⟩ ⟨by omega, by omega⟩ ((At.mk h340 e343 (by omega) ⟨by omega, by omega⟩))
            · refine v_goto B (tgt := 397) dX12_lists_127 (by decide +kernel) ?_
              refine v_lv [0, 1, 2, 3, 4, 5, 6, 7, 8, 9, 10, 11] rfl ?_
              exact J397 σ_44 z93_7 z93_8 z44_9 z44_10 G_44 F_44 hc44_h ⟨by omega, by omega⟩ ⟨by omega, by omega⟩ ⟨by omega, by omega⟩ ⟨by omega, by omega⟩ ⟨by omega, by omega⟩ ⟨by omega, by omega⟩ ⟨by omega, by omega⟩ ((At.mk h340 e343 (by omega) ⟨by omega, by omega⟩))
      obtain ⟨f361, h362, e363⟩ := ga_85 G_44.t
      obtain ⟨z364, e365, r366⟩ := e363 (d : Int).toNat
      have r367 := (i44).use h362 e365 (by omega)
      refine v_iload B dX12_lists_44 rfl ?_
      refine v_iload B dX12_lists_46 rfl ?_
      refine u_icmp_gt B (tgt := 403) (by omega) (by omega) dX12_lists_48 (by decide +kernel) (fun c368 => ?_) (fun c368 => ?_)
      · refine v_lv [0, 1, 2, 3, 7, 8, 9] rfl ?_
        exact J403 σ_44 z44_7 z44_8 z44_9 G_44 F_44 hc44_h ⟨by omega, by omega⟩ ⟨by omega, by omega⟩ ⟨by omega, by omega⟩ ((At.mk h362 e365 (by omega) ⟨by omega, by omega⟩))
      · refine v_iload B dX12_lists_51 rfl ?_
        refine v_aload_n B dX12_lists_53 rfl rfl ?_
        refine u_get B Z (C := RX12) (T := TX12) (N := 123) (ci := 12) hi_M_lists_X12 Y.o hc44_h rfl 100 (by decide +kernel) (List.mem_of_getElem? (i := 26) rfl) rfl dX12_lists_54 ?_
        refine v_iload_n B dX12_lists_57 rfl rfl ?_
        obtain ⟨f369, h370, e371⟩ := ga_100 G_44.t
        obtain ⟨z372, e373, r374⟩ := e371 (d : Int).toNat
        refine u_iald B Z (t0 := 0) (ym_100 Y) h370 rfl (by omega) e373 dX12_lists_58 ?_
        refine u_icmp_gt B (tgt := 403) (by omega) (by omega) dX12_lists_59 (by decide +kernel) (fun c375 => ?_) (fun c375 => ?_)
        · refine v_lv [0, 1, 2, 3, 7, 8, 9] rfl ?_
          exact J403 σ_44 z44_7 z44_8 z44_9 G_44 F_44 hc44_h ⟨by omega, by omega⟩ ⟨by omega, by omega⟩ ⟨by omega, by omega⟩ ((At.mk h362 e365 (by omega) ⟨by omega, by omega⟩))
        · refine v_iload B dX12_lists_62 rfl ?_
          refine u_if_eq B (tgt := 403) (by omega) dX12_lists_64 (by decide +kernel) (fun c376 => ?_) (fun c376 => ?_)
          · refine v_lv [0, 1, 2, 3, 7, 8, 9] rfl ?_
            exact J403 σ_44 z44_7 z44_8 z44_9 G_44 F_44 hc44_h ⟨by omega, by omega⟩ ⟨by omega, by omega⟩ ⟨by omega, by omega⟩ ((At.mk h362 e365 (by omega) ⟨by omega, by omega⟩))
          · refine v_aload_n B dX12_lists_67 rfl rfl ?_
            refine v_iload_n B dX12_lists_68 rfl rfl ?_
            refine v_iload B dX12_lists_69 rfl ?_
            refine u_callVi B Z hz (n := 2) (As := [.int (iI d), .int (iI z44_11)]) (rest := []) (c_M_row l D K Z _ _ _ _ h q Y d z44_11 ⟨by omega, by omega⟩ ⟨by omega, by omega⟩ σ_44 (G_44.t)) gd_M_lists_M_row_547 rfl rfl rfl (by decide +kernel) ⟨Nat.le_trans (by decide +kernel) hR.1, Nat.le_trans (by decide +kernel) hR.2⟩ Y.o (clsM G_44.t) rfl rfl rfl rfl (Nat.le_of_ble_eq_true rfl) dX12_lists_71 ⟨Nat.zero_le _, Nat.zero_le _⟩ (fun v379 σ377 p378 => ?_)
            obtain ⟨rfl, z380, e381, r382, po383⟩ := p378
            subst e381
            subst po383
            show V _ _ _ _ _ _ _ _ _ _ _ _ _ _ _ _ _ _ [.int (iI (20 * d + z44_11 + (-1)))]
            refine v_istore B (lv' := [(12, .int (iI (20 * d + z44_11 + (-1)))), (0, .ref h), (1, .int (iI d)), (2, .int (iI x2)), (3, .int (iI x3)), (4, .int (iI x4)), (5, .int (iI x5)), (6, .int (iI z44_6)), (7, .int (iI z44_7)), (8, .int (iI z44_8)), (9, .int (iI z44_9)), (10, .int (iI z44_10)), (11, .int (iI z44_11))]) dX12_lists_74 (by decide +kernel) rfl ?_
            refine v_iload_n B dX12_lists_76 rfl rfl ?_
            refine v_iconst B (v := iI 4) dX12_lists_77 rfl ?_
            refine u_icmp_eq B (tgt := 93) (by omega) (by omega) dX12_lists_78 (by decide +kernel) (fun c384 => ?_) (fun c384 => ?_)
            · refine v_lv [1, 2, 3, 4, 5, 6, 7, 8, 9, 10, 11, 12, 0] rfl ?_
              exact J93 z44_7 z44_8 (20 * d + z44_11 + (-1)) ⟨by omega, by omega⟩ ⟨by omega, by omega⟩ ⟨by omega, by omega⟩ ⟨by omega, by omega⟩ ⟨by omega, by omega⟩ ⟨by omega, by omega⟩ ((At.mk h362 e365 (by omega) ⟨by omega, by omega⟩))
            · refine v_aload_n B dX12_lists_81 rfl rfl ?_
              refine u_get B Z (C := RX12) (T := TX12) (N := 123) (ci := 12) hi_M_lists_X12 Y.o hc44_h rfl 101 (by decide +kernel) (List.mem_of_getElem? (i := 27) rfl) rfl dX12_lists_82 ?_
              refine v_iload B dX12_lists_85 rfl ?_
              obtain ⟨f385, h386, e387⟩ := ga_101 G_44.t
              obtain ⟨z388, e389, r390⟩ := e387 ((20 * d + z44_11 + (-1)) : Int).toNat
              refine u_iald B Z (t0 := 0) (ym_101 Y) h386 rfl (by omega) e389 dX12_lists_87 ?_
              refine v_iload B dX12_lists_88 rfl ?_
              refine u_icmp_ne B (tgt := 397) (by omega) (by omega) dX12_lists_90 (by decide +kernel) (fun c391 => ?_) (fun c391 => ?_)
              · refine v_lv [1, 2, 3, 4, 5, 6, 7, 8, 9, 10, 11, 12] rfl ?_
                exact J397 σ_44 z44_7 z44_8 z44_9 z44_10 G_44 F_44 hc44_h ⟨by omega, by omega⟩ ⟨by omega, by omega⟩ ⟨by omega, by omega⟩ ⟨by omega, by omega⟩ ⟨by omega, by omega⟩ ⟨by omega, by omega⟩ ⟨by omega, by omega⟩ ((At.mk h362 e365 (by omega) ⟨by omega, by omega⟩))
              · refine v_lv [1, 2, 3, 4, 5, 6, 7, 8, 9, 10, 11, 12, 0] rfl ?_
                exact J93 z44_7 z44_8 (20 * d + z44_11 + (-1)) ⟨by omega, by omega⟩ ⟨by omega, by omega⟩ ⟨by omega, by omega⟩ ⟨by omega, by omega⟩ ⟨by omega, by omega⟩ ⟨by omega, by omega⟩ ((At.mk h362 e365 (by omega) ⟨by omega, by omega⟩))
  have J30 : ∀ (z30_6 : Int) (z30_s0 : Int), (0 ≤ z30_6 ∧ z30_6 ≤ 65535) → (1 ≤ z30_s0 ∧ z30_s0 ≤ 2) → (At σ0 (q 85) (d : Int).toNat (0) (7)) → V p l e R s m args below meth c 16 D A Q (0, 0) (fd dom σ0) [(0, .ref h), (1, .int (iI d)), (2, .int (iI x2)), (3, .int (iI x3)), (4, .int (iI x4)), (5, .int (iI x5)), (6, .int (iI z30_6))] 30 [.int (iI z30_s0)] := by
    intro z30_6 z30_s0 r30_6 r30_s0 i30
    have r392 := (i30).use h13 e16 (by omega)
    refine v_istore B (lv' := [(7, .int (iI z30_s0)), (0, .ref h), (1, .int (iI d)), (2, .int (iI x2)), (3, .int (iI x3)), (4, .int (iI x4)), (5, .int (iI x5)), (6, .int (iI z30_6))]) dX12_lists_30 (by decide +kernel) rfl ?_
    refine v_iconst B (v := iI 0) dX12_lists_32 rfl ?_
    refine v_istore B (lv' := [(8, .int (iI 0)), (7, .int (iI z30_s0)), (0, .ref h), (1, .int (iI d)), (2, .int (iI x2)), (3, .int (iI x3)), (4, .int (iI x4)), (5, .int (iI x5)), (6, .int (iI z30_6))]) dX12_lists_33 (by decide +kernel) rfl ?_
    refine v_iconst B (v := iI 0) dX12_lists_35 rfl ?_
    refine v_istore B (lv' := [(9, .int (iI 0)), (8, .int (iI 0)), (7, .int (iI z30_s0)), (0, .ref h), (1, .int (iI d)), (2, .int (iI x2)), (3, .int (iI x3)), (4, .int (iI x4)), (5, .int (iI x5)), (6, .int (iI z30_6))]) dX12_lists_36 (by decide +kernel) rfl ?_
    refine v_iconst B (v := iI 1) dX12_lists_38 rfl ?_
    refine v_istore B (lv' := [(10, .int (iI 1)), (9, .int (iI 0)), (8, .int (iI 0)), (7, .int (iI z30_s0)), (0, .ref h), (1, .int (iI d)), (2, .int (iI x2)), (3, .int (iI x3)), (4, .int (iI x4)), (5, .int (iI x5)), (6, .int (iI z30_6))]) dX12_lists_39 (by decide +kernel) rfl ?_
    refine v_iload_n B dX12_lists_41 rfl rfl ?_
    refine v_istore B (lv' := [(11, .int (iI x3)), (10, .int (iI 1)), (9, .int (iI 0)), (8, .int (iI 0)), (7, .int (iI z30_s0)), (0, .ref h), (1, .int (iI d)), (2, .int (iI x2)), (3, .int (iI x3)), (4, .int (iI x4)), (5, .int (iI x5)), (6, .int (iI z30_6))]) dX12_lists_42 (by decide +kernel) rfl ?_
    refine v_lv [5, 6, 7, 8, 9, 10, 11, 4, 3, 2, 1, 0] rfl ?_
    exact J44 _ σ0 z30_6 z30_s0 0 0 1 x3 (Nat.le_refl _) G0 F0 h6 ⟨by omega, by omega⟩ ⟨by omega, by omega⟩ ⟨by omega, by omega⟩ ⟨by omega, by omega⟩ ⟨by omega, by omega⟩ ⟨by omega, by omega⟩ ((At.mk h13 e16 (by omega) ⟨by omega, by omega⟩))
  have J17 : ∀ (z17_s0 : Int), (0 ≤ z17_s0 ∧ z17_s0 ≤ 65535) → (At σ0 (q 85) (d : Int).toNat (0) (7)) → V p l e R s m args below meth c 16 D A Q (0, 0) (fd dom σ0) [(0, .ref h), (1, .int (iI d)), (2, .int (iI x2)), (3, .int (iI x3)), (4, .int (iI x4)), (5, .int (iI x5))] 17 [.int (iI z17_s0)] := by
    intro z17_s0 r17_s0 i17
    have r393 := (i17).use h13 e16 (by omega)
    refine v_istore B (lv' := [(6, .int (iI z17_s0)), (0, .ref h), (1, .int (iI d)), (2, .int (iI x2)), (3, .int (iI x3)), (4, .int (iI x4)), (5, .int (iI x5))]) dX12_lists_17 (by decide +kernel) rfl ?_
    refine v_iload_n B dX12_lists_19 rfl rfl ?_
    refine v_bipush B (v := iI 6) dX12_lists_20 (by decide +kernel) ?_
    refine u_icmp_ne B (tgt := 29) (by omega) (by omega) dX12_lists_22 (by decide +kernel) (fun c394 => ?_) (fun c394 => ?_)
    · refine v_iconst B (v := iI 2) dX12_lists_29 rfl ?_
      refine v_lv [1, 2, 3, 4, 5, 6, 0] rfl ?_
      exact J30 z17_s0 2 ⟨by omega, by omega⟩ ⟨by omega, by omega⟩ ((At.mk h13 e16 (by omega) ⟨by omega, by omega⟩))
    · refine v_iconst B (v := iI 1) dX12_lists_25 rfl ?_
      refine v_goto B (tgt := 30) dX12_lists_26 (by decide +kernel) ?_
      refine v_lv [1, 2, 3, 4, 5, 6, 0] rfl ?_
      exact J30 z17_s0 1 ⟨by omega, by omega⟩ ⟨by omega, by omega⟩ ((At.mk h13 e16 (by omega) ⟨by omega, by omega⟩))
  refine v_iload_n B dX12_lists_0 rfl rfl ?_
  refine v_iconst B (v := iI 4) dX12_lists_1 rfl ?_
  refine u_icmp_ne B (tgt := 9) (by omega) (by omega) dX12_lists_2 (by decide +kernel) (fun c395 => ?_) (fun c395 => ?_)
  · refine v_aload_n B dX12_lists_9 rfl rfl ?_
    refine u_get B Z (C := RX12) (T := TX12) (N := 123) (ci := 12) hi_M_lists_X12 Y.o h6 rfl 91 (by decide +kernel) (List.mem_of_getElem? (i := 47) rfl) rfl dX12_lists_10 ?_
    refine v_iconst B (v := iI 5) dX12_lists_13 rfl ?_
    refine u_callSi B Z hz (n := 2) (As := [.ref (q 91), .int (iI 5)]) (rest := []) (c_M_two l D K Z _ _ _ _ h q Y 91 96 5 rfl ⟨by omega, by omega⟩ σ0 (G0.t) (by omega)) gd_M_lists_M_two_489 rfl rfl rfl (by decide +kernel) ⟨Nat.le_trans (by decide +kernel) hR.1, Nat.le_trans (by decide +kernel) hR.2⟩ rfl rfl (Nat.le_of_ble_eq_true rfl) dX12_lists_14 ⟨Nat.zero_le _, Nat.zero_le _⟩ (fun v398 σ396 p397 => ?_)
    obtain ⟨rfl, z399, e400, r401⟩ := p397
    subst e400
    exact J17 z399 ⟨by omega, by omega⟩ ((At.mk h13 e16 (by omega) ⟨by omega, by omega⟩))
  · refine v_iconst B (v := iI 0) dX12_lists_5 rfl ?_
    refine v_goto B (tgt := 17) dX12_lists_6 (by decide +kernel) ?_
    exact J17 0 ⟨by omega, by omega⟩ ((At.mk h13 e16 (by omega) ⟨by omega, by omega⟩))
set_option maxRecDepth 100000 in
theorem c_M_lists (l : Launch) (D : va_G) (K : Nat → ClassId) {τ : Nat → Option Ty} {dom : List Nat} (Z : Sk τ dom) (zb zL : Nat) (zx : Nat → Int32) (zs : Nat → Nat) (h : Nat) (q : Nat → Nat) (Y : MS τ h q) (d : Int) (x2 : Int) (x3 : Int) (x4 : Int) (x5 : Int) (r_d : 0 ≤ d ∧ d ≤ 1) (r_x2 : 0 ≤ x2 ∧ x2 ≤ 255) (r_x3 : 0 ≤ x3 ∧ x3 ≤ 65535) (r_x4 : 0 ≤ x4 ∧ x4 ≤ 65535) (r_x5 : -4 ≤ x5 ∧ x5 ≤ 64) (σ0 : Nat → va_E) (G0 : GM K h q σ0) (hM : At σ0 (q 85) (d : Int).toNat (0) (7)) (h1 : 1 ≤ x3) : MZ l yX12_lists wp_M_lists ({ frames := 3, cells := 0, slots := 0, locals := 73 }) D (tysA K) [.ref h, .int (iI d), .int (iI x2), .int (iI x3), .int (iI x4), .int (iI x5)] (fd dom σ0) zb zL zx zs (Qv D (fun σ' => GM K h q σ' ∧ Fr τ [(190, 0), (182, 0), (184, 0), (185, 0)] σ0 σ') (fun σ' => fd dom σ')) 0 0 := by
  refine mz_of (cc := cX12_lists) (maxL := 16) (ret := none) (by decide +kernel) rfl (Nat.le_of_ble_eq_true rfl) ?_
  intro p e s m below meth c A B hr hlk _ hz
  exact b_M_lists ⟨Nat.le_refl _, Nat.le_refl _⟩ B Z hz h q Y d x2 x3 x4 x5 r_d r_x2 r_x3 r_x4 r_x5 σ0 G0 hM h1 (fun σ' lv pc G F hd => v_vret B hr hlk σ' ⟨G, F⟩ rfl (Nat.le_refl _) (Nat.le_refl _) hd)
