def wp_Low_findX : List Cond := .code yX11_find cX11_find 2 (some (.object "LowEnergy$Device")) :: (([.fieldLink RX11 9 "LowEnergy" "devices" "[LLowEnergy$Device;"] : List Cond) ++ (wsX110 ++ ([])))
theorem hi_Low_findX_X11 : ∀ x ∈ u_ws RX11 TX11 5, x ∈ wp_Low_findX := fun _ h => List.mem_cons_of_mem _ (List.mem_append_right _ (List.mem_append_left _ h))
set_option maxHeartbeats 4000000 in
set_option maxRecDepth 100000 in
theorem b_Low_findX {p : Program} {l : Launch} {e : Env} {R : Room} {s : State} {m : MethodId} {args : Array Value} {below : List Frame} {meth : Method} {c : Code} {D : va_G} {K : Nat → ClassId} {A : Nat → Prop} {Q : State → Prop} {τ : Nat → Option Ty} {dom : List Nat} {zb zL : Nat} {zx : Nat → Int32} {zs : Nat → Nat} (hR : 0 ≤ R.frames ∧ 0 ≤ R.locals) (B : Bx p s m args c cX11_find 2 RX11 wp_Low_findX D (tysA K) A) (Z : Sk τ dom) (hz : ZL zb zL zx zs A s s.heap) (h : Nat) (x1 : Int) (t_h : τ h = some (41, 0, 0)) (r_x1 : -2147483648 ≤ x1 ∧ x1 ≤ 2147483647) (σ0 : Nat → va_E) (G0 : Good K τ σ0) (hend : ∀ (r : Option Nat) (lv : List (Nat × Value)) (pc : Nat), ((r = none ∧ (¬ (0 ≤ x1 ∧ x1 ≤ 1))) ∨ (∃ a, r = some a ∧ τ a = some (33, 0, 0) ∧ (0 ≤ x1 ∧ x1 ≤ 1))) → decode cX11_find pc = .ok (.areturn, 1) → V p l e R s m args below meth c 2 D A Q (0, 0) (fd dom σ0) lv pc [va_rf r]) : V p l e R s m args below meth c 2 D A Q (0, 0) (fd dom σ0) [(0, .ref h), (1, .int (iI x1))] 0 [] := by
  have F0 : Fr τ [] σ0 σ0 := Fr.rf
  have J9 : (0 ≤ x1 ∧ x1 ≤ 1) → V p l e R s m args below meth c 2 D A Q (0, 0) (fd dom σ0) [(0, .ref h), (1, .int (iI x1))] 9 [] := by
    intro r9_1
    refine v_aload_n B dX11_find_9 rfl rfl ?_
    obtain ⟨a1, a2, a3, a4, z5, h6, t7, t8, t9, t10, r11⟩ : okLow τ (σ0 h) := G0 h _ t_h
    refine u_get B Z (C := RX11) (T := TX11) (N := 5) (ci := 11) hi_Low_findX_X11 t_h h6 rfl 0 (by decide +kernel) (List.mem_of_getElem? (i := 1) rfl) rfl dX11_find_10 ?_
    refine v_iload_n B dX11_find_13 rfl rfl ?_
    obtain ⟨f12, h13, e14⟩ : okDV K τ 2 (σ0 a1) := G0 a1 _ t7
    obtain ⟨a15, e16, t17⟩ := e14 (x1 : Int).toNat (by omega)
    refine u_aald B Z (t0 := 5) (v := .ref a15) t7 h13 rfl (by omega) (by rw [e16]; rfl) dX11_find_14 ?_
    refine v_goto B (tgt := 19) dX11_find_15 (by decide +kernel) ?_
    exact hend (some a15) _ _ (Or.inr ⟨_, rfl, t17, by omega⟩) dX11_find_19
  refine v_iload_n B dX11_find_0 rfl rfl ?_
  refine u_if_eq B (tgt := 9) (by omega) dX11_find_1 (by decide +kernel) (fun c18 => ?_) (fun c18 => ?_)
  · exact J9 ⟨by omega, by omega⟩
  · refine v_iload_n B dX11_find_4 rfl rfl ?_
    refine v_iconst B (v := iI 1) dX11_find_5 rfl ?_
    refine u_icmp_ne B (tgt := 18) (by omega) (by omega) dX11_find_6 (by decide +kernel) (fun c19 => ?_) (fun c19 => ?_)
    · refine v_null B dX11_find_18 ?_
      exact hend none _ _ (Or.inl ⟨rfl, by omega⟩) dX11_find_19
    · exact J9 ⟨by omega, by omega⟩
set_option maxRecDepth 100000 in
theorem c_Low_findX (l : Launch) (D : va_G) (K : Nat → ClassId) {τ : Nat → Option Ty} {dom : List Nat} (Z : Sk τ dom) (zb zL : Nat) (zx : Nat → Int32) (zs : Nat → Nat) (h : Nat) (x1 : Int) (t_h : τ h = some (41, 0, 0)) (r_x1 : -2147483648 ≤ x1 ∧ x1 ≤ 2147483647) (σ0 : Nat → va_E) (G0 : Good K τ σ0) : MZ l yX11_find wp_Low_findX ({ frames := 0, cells := 0, slots := 0, locals := 0 }) D (tysA K) [.ref h, .int (iI x1)] (fd dom σ0) zb zL zx zs (Qq D (fun r σ' => σ0 = σ' ∧ ((r = none ∧ (¬ (0 ≤ x1 ∧ x1 ≤ 1))) ∨ (∃ a, r = some a ∧ τ a = some (33, 0, 0) ∧ (0 ≤ x1 ∧ x1 ≤ 1)))) (fun σ' => fd dom σ')) 0 0 := by
  refine mz_of (cc := cX11_find) (maxL := 2) (ret := (some (.object "LowEnergy$Device"))) (by decide +kernel) rfl (Nat.le_of_ble_eq_true rfl) ?_
  intro p e s m below meth c A B hr hlk _ hz
  exact b_Low_findX ⟨Nat.le_refl _, Nat.le_refl _⟩ B Z hz h x1 t_h r_x1 σ0 G0 (fun r lv pc hQ hd => v_aret B r hr hlk σ0 ⟨rfl, hQ⟩ rfl (Nat.le_refl _) (Nat.le_refl _) hd)

def wp_Low_seedX : List Cond := .code yX11_seed cX11_seed 4 (some .boolean) :: (([.methodLink RX11 52 yX11_find, .instanceMethod yX11_find, .selects RX11 yX11_find yX11_find, .initialized RX11, .code yX11_find cX11_find 2 (some (.object "LowEnergy$Device")), .fieldLink RX11 9 "LowEnergy" "devices" "[LLowEnergy$Device;"] : List Cond) ++ (wsX110 ++ (wsX30 ++ ([]))))
theorem hi_Low_seedX_X11 : ∀ x ∈ u_ws RX11 TX11 5, x ∈ wp_Low_seedX := fun _ h => List.mem_cons_of_mem _ (List.mem_append_right _ (List.mem_append_left _ h))
theorem hi_Low_seedX_X3 : ∀ x ∈ u_ws RX3 TX3 19, x ∈ wp_Low_seedX := fun _ h => List.mem_cons_of_mem _ (List.mem_append_right _ (List.mem_append_right _ (List.mem_append_left _ h)))
set_option maxRecDepth 100000 in
theorem gd_Low_seedX_Low_findX_52 : GoodIn wp_Low_seedX (wsV RX11 52 RX11 yX11_find wp_Low_findX) := goodIn_app (goodIn_r _ [1, 2, 3, 4] rfl rfl) (goodIn_ca (goodIn_r _ [5, 6] rfl rfl) (goodIn_app (goodIn_cls hi_Low_seedX_X11 gw_X11) (goodIn_nil)))
set_option maxHeartbeats 4000000 in
set_option maxRecDepth 100000 in
theorem b_Low_seedX {p : Program} {l : Launch} {e : Env} {R : Room} {s : State} {m : MethodId} {args : Array Value} {below : List Frame} {meth : Method} {c : Code} {D : va_G} {K : Nat → ClassId} {A : Nat → Prop} {Q : State → Prop} {τ : Nat → Option Ty} {dom : List Nat} {zb zL : Nat} {zx : Nat → Int32} {zs : Nat → Nat} (hR : 1 ≤ R.frames ∧ 21 ≤ R.locals) (B : Bx p s m args c cX11_seed 4 RX11 wp_Low_seedX D (tysA K) A) (Z : Sk τ dom) (hz : ZL zb zL zx zs A s s.heap) (h : Nat) (x1 : Int) (x2 : Int) (t_h : τ h = some (41, 0, 0)) (r_x1 : -2147483648 ≤ x1 ∧ x1 ≤ 2147483647) (r_x2 : -2147483648 ≤ x2 ∧ x2 ≤ 2147483647) (σ0 : Nat → va_E) (G0 : Good K τ σ0) (hend : ∀ (σ' : Nat → va_E) (z : Int) (lv : List (Nat × Value)) (pc : Nat), Good K τ σ' → Fr τ [(33, 0)] σ0 σ' → (0 ≤ z ∧ z ≤ 1) → ((z = 1 ∧ (0 ≤ x1 ∧ x1 ≤ 1)) ∨ (z = 0 ∧ ¬ (0 ≤ x1 ∧ x1 ≤ 1))) → decode cX11_seed pc = .ok (.ireturn, 1) → V p l e R s m args below meth c 4 D A Q (0, 0) (fd dom σ') lv pc [.int (iI z)]) : V p l e R s m args below meth c 4 D A Q (0, 0) (fd dom σ0) [(0, .ref h), (1, .int (iI x1)), (2, .int (iI x2))] 0 [] := by
  have F0 : Fr τ [(33, 0)] σ0 σ0 := Fr.rf
  refine v_aload_n B dX11_seed_0 rfl rfl ?_
  refine v_iload_n B dX11_seed_1 rfl rfl ?_
  refine u_callVq B Z hz (n := 1) (As := [.int (iI x1)]) (rest := []) (c_Low_findX l D K Z _ _ _ _ h x1 t_h ⟨by omega, by omega⟩ σ0 G0) gd_Low_seedX_Low_findX_52 rfl rfl rfl (by decide +kernel) ⟨Nat.le_trans (by decide +kernel) hR.1, Nat.le_trans (by decide +kernel) hR.2⟩ t_h (cls_Low G0 t_h) rfl rfl rfl rfl (Nat.le_of_ble_eq_true rfl) dX11_seed_2 ⟨Nat.zero_le _, Nat.zero_le _⟩ (fun v3 σ1 p2 => ?_)
  obtain ⟨rfl, q7⟩ := p2
  rcases q7 with ⟨rfl, hq10⟩ | ⟨a8, rfl, t9, hq11⟩
  · show V _ _ _ _ _ _ _ _ _ _ _ _ _ _ _ _ _ _ [.null]
    refine v_astore_nN B (lv' := [(3, .null), (0, .ref h), (1, .int (iI x1)), (2, .int (iI x2))]) dX11_seed_5 rfl (by decide +kernel) rfl ?_
    refine v_aload_nN B dX11_seed_6 rfl rfl ?_
    refine v_ifnonnullN B dX11_seed_7 ?_
    refine v_iconst B (v := iI 0) dX11_seed_10 rfl ?_
    exact hend σ0 0 _ _ G0 F0 ⟨by omega, by omega⟩ (by omega) dX11_seed_11
  · show V _ _ _ _ _ _ _ _ _ _ _ _ _ _ _ _ _ _ [.ref a8]
    refine v_astore_n B (lv' := [(3, .ref a8), (0, .ref h), (1, .int (iI x1)), (2, .int (iI x2))]) dX11_seed_5 rfl (by decide +kernel) rfl ?_
    refine v_aload_n B dX11_seed_6 rfl rfl ?_
    refine v_ifnonnull B (tgt := 12) dX11_seed_7 (by decide +kernel) ?_
    refine v_aload_n B dX11_seed_12 rfl rfl ?_
    refine v_iload_n B dX11_seed_13 rfl rfl ?_
    obtain ⟨z12, yy13, z14, z15, z16, z17, a18, z19, yy20, a21, yy22, a23, a24, a25, a26, a27, a28, a29, a30, h31, r32, r33, r34, r35, r36, r37, t38, r39, r40, t41, r42, t43, t44, t45, t46, t47, t48, t49, t50⟩ : okDevice τ (σ0 a8) := G0 a8 _ t9
    refine u_putN B Z (C := RX3) (T := TX3) (N := 19) (ci := 3) hi_Low_seedX_X3 t9 h31 rfl 3 (by decide +kernel) tyX3 tyX3_ok nmX3 (List.mem_of_getElem? (i := 64) rfl) rfl (ty := .int) (tyX3_ok 3 (by decide +kernel)) rfl rfl (Nat.le_of_ble_eq_true rfl) (fs' := [.int (iI z12), .long (lI yy13), .int (iI z14), .int (iI x2), .int (iI z16), .int (iI z17), .ref a18, .int (iI z19), .long (lI yy20), .ref a21, .long (lI yy22), .ref a23, .ref a24, .ref a25, .ref a26, .ref a27, .ref a28, .ref a29, .ref a30]) rfl dX11_seed_14 (fun σ51 h52 n53 => ?_)
    have G54 := G0.put t9 (⟨z12, yy13, z14, x2, z16, z17, a18, z19, yy20, a21, yy22, a23, a24, a25, a26, a27, a28, a29, a30, h52, ⟨by omega, by omega⟩, ⟨by omega, by omega⟩, ⟨by omega, by omega⟩, ⟨by omega, by omega⟩, ⟨by omega, by omega⟩, ⟨by omega, by omega⟩, t38, ⟨by omega, by omega⟩, ⟨by omega, by omega⟩, t41, ⟨by omega, by omega⟩, t43, t44, t45, t46, t47, t48, t49, t50⟩ : Ok K τ (33, 0, 0) (σ51 a8)) n53
    have F55 := F0.put t9 (by simp) n53
    refine v_iconst B (v := iI 1) dX11_seed_17 rfl ?_
    exact hend σ51 1 _ _ G54 F55 ⟨by omega, by omega⟩ (by omega) dX11_seed_18
set_option maxRecDepth 100000 in
theorem c_Low_seedX (l : Launch) (D : va_G) (K : Nat → ClassId) {τ : Nat → Option Ty} {dom : List Nat} (Z : Sk τ dom) (zb zL : Nat) (zx : Nat → Int32) (zs : Nat → Nat) (h : Nat) (x1 : Int) (x2 : Int) (t_h : τ h = some (41, 0, 0)) (r_x1 : -2147483648 ≤ x1 ∧ x1 ≤ 2147483647) (r_x2 : -2147483648 ≤ x2 ∧ x2 ≤ 2147483647) (σ0 : Nat → va_E) (G0 : Good K τ σ0) : MZ l yX11_seed wp_Low_seedX ({ frames := 1, cells := 0, slots := 0, locals := 21 }) D (tysA K) [.ref h, .int (iI x1), .int (iI x2)] (fd dom σ0) zb zL zx zs (Qi D (fun r σ' => Good K τ σ' ∧ Fr τ [(33, 0)] σ0 σ' ∧ ∃ z : Int, r = iI z ∧ (0 ≤ z ∧ z ≤ 1) ∧ ((z = 1 ∧ (0 ≤ x1 ∧ x1 ≤ 1)) ∨ (z = 0 ∧ ¬ (0 ≤ x1 ∧ x1 ≤ 1)))) (fun σ' => fd dom σ')) 0 0 := by
  refine mz_of (cc := cX11_seed) (maxL := 4) (ret := (some .boolean)) (by decide +kernel) rfl (Nat.le_of_ble_eq_true rfl) ?_
  intro p e s m below meth c A B hr hlk _ hz
  exact b_Low_seedX ⟨Nat.le_refl _, Nat.le_refl _⟩ B Z hz h x1 x2 t_h r_x1 r_x2 σ0 G0 (fun σ' z lv pc G F hZ hP hd => v_zret B hr hlk (nar01 (by omega)) σ' ⟨G, F, z, rfl, hZ, hP⟩ rfl (Nat.le_refl _) (Nat.le_refl _) hd)

def wp_Air_loseNextX : List Cond := .code yX0_loseNext cX0_loseNext 3 (some .boolean) :: (([.fieldLink RX0 29 "LowEnergy$Air" "losses" "[I"] : List Cond) ++ (wsX00 ++ ([])))
theorem hi_Air_loseNextX_X0 : ∀ x ∈ u_ws RX0 TX0 10, x ∈ wp_Air_loseNextX := fun _ h => List.mem_cons_of_mem _ (List.mem_append_right _ (List.mem_append_left _ h))
set_option maxHeartbeats 4000000 in
set_option maxRecDepth 100000 in
theorem b_Air_loseNextX {p : Program} {l : Launch} {e : Env} {R : Room} {s : State} {m : MethodId} {args : Array Value} {below : List Frame} {meth : Method} {c : Code} {D : va_G} {K : Nat → ClassId} {A : Nat → Prop} {Q : State → Prop} {τ : Nat → Option Ty} {dom : List Nat} {zb zL : Nat} {zx : Nat → Int32} {zs : Nat → Nat} (hR : 0 ≤ R.frames ∧ 0 ≤ R.locals) (B : Bx p s m args c cX0_loseNext 3 RX0 wp_Air_loseNextX D (tysA K) A) (Z : Sk τ dom) (hz : ZL zb zL zx zs A s s.heap) (h : Nat) (x1 : Int) (x2 : Int) (t_h : τ h = some (30, 0, 0)) (r_x1 : -2147483648 ≤ x1 ∧ x1 ≤ 2147483647) (r_x2 : -2147483648 ≤ x2 ∧ x2 ≤ 2147483647) (σ0 : Nat → va_E) (G0 : Good K τ σ0) (hend : ∀ (σ' : Nat → va_E) (z : Int) (lv : List (Nat × Value)) (pc : Nat), Good K τ σ' → Fr τ [(3, 25)] σ0 σ' → (0 ≤ z ∧ z ≤ 1) → ((z = 1 ∧ ((0 ≤ x1 ∧ x1 ≤ 1) ∧ (0 ≤ x2 ∧ x2 ≤ 100))) ∨ (z = 0 ∧ ¬ ((0 ≤ x1 ∧ x1 ≤ 1) ∧ (0 ≤ x2 ∧ x2 ≤ 100)))) → decode cX0_loseNext pc = .ok (.ireturn, 1) → V p l e R s m args below meth c 3 D A Q (0, 0) (fd dom σ') lv pc [.int (iI z)]) : V p l e R s m args below meth c 3 D A Q (0, 0) (fd dom σ0) [(0, .ref h), (1, .int (iI x1)), (2, .int (iI x2))] 0 [] := by
  have F0 : Fr τ [(3, 25)] σ0 σ0 := Fr.rf
  refine v_iload_n B dX0_loseNext_0 rfl rfl ?_
  refine u_if_lt B (tgt := 19) (by omega) dX0_loseNext_1 (by decide +kernel) (fun c1 => ?_) (fun c1 => ?_)
  · refine v_iconst B (v := iI 0) dX0_loseNext_19 rfl ?_
    exact hend σ0 0 _ _ G0 F0 ⟨by omega, by omega⟩ (by omega) dX0_loseNext_20
  · refine v_iload_n B dX0_loseNext_4 rfl rfl ?_
    refine v_iconst B (v := iI 1) dX0_loseNext_5 rfl ?_
    refine u_icmp_gt B (tgt := 19) (by omega) (by omega) dX0_loseNext_6 (by decide +kernel) (fun c2 => ?_) (fun c2 => ?_)
    · refine v_iconst B (v := iI 0) dX0_loseNext_19 rfl ?_
      exact hend σ0 0 _ _ G0 F0 ⟨by omega, by omega⟩ (by omega) dX0_loseNext_20
    · refine v_iload_n B dX0_loseNext_9 rfl rfl ?_
      refine u_if_lt B (tgt := 19) (by omega) dX0_loseNext_10 (by decide +kernel) (fun c3 => ?_) (fun c3 => ?_)
      · refine v_iconst B (v := iI 0) dX0_loseNext_19 rfl ?_
        exact hend σ0 0 _ _ G0 F0 ⟨by omega, by omega⟩ (by omega) dX0_loseNext_20
      · refine v_iload_n B dX0_loseNext_13 rfl rfl ?_
        refine v_bipush B (v := iI 100) dX0_loseNext_14 (by decide +kernel) ?_
        refine u_icmp_le B (tgt := 21) (by omega) (by omega) dX0_loseNext_16 (by decide +kernel) (fun c4 => ?_) (fun c4 => ?_)
        · refine v_aload_n B dX0_loseNext_21 rfl rfl ?_
          obtain ⟨a5, a6, a7, a8, a9, a10, a11, z12, z13, z14, h15, t16, t17, t18, t19, t20, t21, t22, r23, r24, r25⟩ : okAir τ (σ0 h) := G0 h _ t_h
          refine u_get B Z (C := RX0) (T := TX0) (N := 10) (ci := 0) hi_Air_loseNextX_X0 t_h h15 rfl 4 (by decide +kernel) (List.mem_of_getElem? (i := 1) rfl) rfl dX0_loseNext_22 ?_
          refine v_iload_n B dX0_loseNext_25 rfl rfl ?_
          refine v_iload_n B dX0_loseNext_26 rfl rfl ?_
          obtain ⟨f26, h27, r28⟩ : okP K 2 (σ0 a9) := G0 a9 _ t20
          refine u_iast B Z (t0 := 0) t20 h27 rfl (by omega) dX0_loseNext_27 (fun σ29 h30 n31 => ?_)
          have G32 := G0.put t20 (⟨_, h30, r28⟩ : Ok K τ (3, 25, 2) (σ29 a9)) n31
          have F33 := F0.put t20 (by simp) n31
          have h34 := (n31 h (ne_ty t_h t20 (by simp))).trans h15
          refine v_iconst B (v := iI 1) dX0_loseNext_28 rfl ?_
          exact hend σ29 1 _ _ G32 F33 ⟨by omega, by omega⟩ (by omega) dX0_loseNext_29
        · refine v_iconst B (v := iI 0) dX0_loseNext_19 rfl ?_
          exact hend σ0 0 _ _ G0 F0 ⟨by omega, by omega⟩ (by omega) dX0_loseNext_20
set_option maxRecDepth 100000 in
theorem c_Air_loseNextX (l : Launch) (D : va_G) (K : Nat → ClassId) {τ : Nat → Option Ty} {dom : List Nat} (Z : Sk τ dom) (zb zL : Nat) (zx : Nat → Int32) (zs : Nat → Nat) (h : Nat) (x1 : Int) (x2 : Int) (t_h : τ h = some (30, 0, 0)) (r_x1 : -2147483648 ≤ x1 ∧ x1 ≤ 2147483647) (r_x2 : -2147483648 ≤ x2 ∧ x2 ≤ 2147483647) (σ0 : Nat → va_E) (G0 : Good K τ σ0) : MZ l yX0_loseNext wp_Air_loseNextX ({ frames := 0, cells := 0, slots := 0, locals := 0 }) D (tysA K) [.ref h, .int (iI x1), .int (iI x2)] (fd dom σ0) zb zL zx zs (Qi D (fun r σ' => Good K τ σ' ∧ Fr τ [(3, 25)] σ0 σ' ∧ ∃ z : Int, r = iI z ∧ (0 ≤ z ∧ z ≤ 1) ∧ ((z = 1 ∧ ((0 ≤ x1 ∧ x1 ≤ 1) ∧ (0 ≤ x2 ∧ x2 ≤ 100))) ∨ (z = 0 ∧ ¬ ((0 ≤ x1 ∧ x1 ≤ 1) ∧ (0 ≤ x2 ∧ x2 ≤ 100))))) (fun σ' => fd dom σ')) 0 0 := by
  refine mz_of (cc := cX0_loseNext) (maxL := 3) (ret := (some .boolean)) (by decide +kernel) rfl (Nat.le_of_ble_eq_true rfl) ?_
  intro p e s m below meth c A B hr hlk _ hz
  exact b_Air_loseNextX ⟨Nat.le_refl _, Nat.le_refl _⟩ B Z hz h x1 x2 t_h r_x1 r_x2 σ0 G0 (fun σ' z lv pc G F hZ hP hd => v_zret B hr hlk (nar01 (by omega)) σ' ⟨G, F, z, rfl, hZ, hP⟩ rfl (Nat.le_refl _) (Nat.le_refl _) hd)

def wp_Low_loseX : List Cond := .code yX11_lose cX11_lose 3 (some .boolean) :: (([.methodLink RX11 52 yX11_find, .instanceMethod yX11_find, .selects RX11 yX11_find yX11_find, .initialized RX11, .code yX11_find cX11_find 2 (some (.object "LowEnergy$Device")), .fieldLink RX11 9 "LowEnergy" "devices" "[LLowEnergy$Device;", .fieldLink RX11 18 "LowEnergy" "sky" "LLowEnergy$Air;", .methodLink RX11 107 yX0_loseNext, .instanceMethod yX0_loseNext, .selects RX0 yX0_loseNext yX0_loseNext, .initialized RX0, .code yX0_loseNext cX0_loseNext 3 (some .boolean), .fieldLink RX0 29 "LowEnergy$Air" "losses" "[I"] : List Cond) ++ (wsX110 ++ (wsX00 ++ ([]))))
theorem hi_Low_loseX_X11 : ∀ x ∈ u_ws RX11 TX11 5, x ∈ wp_Low_loseX := fun _ h => List.mem_cons_of_mem _ (List.mem_append_right _ (List.mem_append_left _ h))
theorem hi_Low_loseX_X0 : ∀ x ∈ u_ws RX0 TX0 10, x ∈ wp_Low_loseX := fun _ h => List.mem_cons_of_mem _ (List.mem_append_right _ (List.mem_append_right _ (List.mem_append_left _ h)))
set_option maxRecDepth 100000 in
theorem gd_Low_loseX_Low_findX_52 : GoodIn wp_Low_loseX (wsV RX11 52 RX11 yX11_find wp_Low_findX) := goodIn_app (goodIn_r _ [1, 2, 3, 4] rfl rfl) (goodIn_ca (goodIn_r _ [5, 6] rfl rfl) (goodIn_app (goodIn_cls hi_Low_loseX_X11 gw_X11) (goodIn_nil)))
set_option maxRecDepth 100000 in
theorem gd_Low_loseX_Air_loseNextX_107 : GoodIn wp_Low_loseX (wsV RX11 107 RX0 yX0_loseNext wp_Air_loseNextX) := goodIn_app (goodIn_r _ [8, 9, 10, 11] rfl rfl) (goodIn_ca (goodIn_r _ [12, 13] rfl rfl) (goodIn_app (goodIn_cls hi_Low_loseX_X0 gw_X0) (goodIn_nil)))
set_option maxHeartbeats 4000000 in
set_option maxRecDepth 100000 in
theorem b_Low_loseX {p : Program} {l : Launch} {e : Env} {R : Room} {s : State} {m : MethodId} {args : Array Value} {below : List Frame} {meth : Method} {c : Code} {D : va_G} {K : Nat → ClassId} {A : Nat → Prop} {Q : State → Prop} {τ : Nat → Option Ty} {dom : List Nat} {zb zL : Nat} {zx : Nat → Int32} {zs : Nat → Nat} (hR : 1 ≤ R.frames ∧ 22 ≤ R.locals) (B : Bx p s m args c cX11_lose 3 RX11 wp_Low_loseX D (tysA K) A) (Z : Sk τ dom) (hz : ZL zb zL zx zs A s s.heap) (h : Nat) (x1 : Int) (x2 : Int) (t_h : τ h = some (41, 0, 0)) (r_x1 : -2147483648 ≤ x1 ∧ x1 ≤ 2147483647) (r_x2 : -2147483648 ≤ x2 ∧ x2 ≤ 2147483647) (σ0 : Nat → va_E) (G0 : Good K τ σ0) (hend : ∀ (σ' : Nat → va_E) (z : Int) (lv : List (Nat × Value)) (pc : Nat), Good K τ σ' → Fr τ [(3, 25)] σ0 σ' → (0 ≤ z ∧ z ≤ 1) → ((z = 1 ∧ ((0 ≤ x1 ∧ x1 ≤ 1) ∧ (0 ≤ x2 ∧ x2 ≤ 100))) ∨ (z = 0 ∧ ¬ ((0 ≤ x1 ∧ x1 ≤ 1) ∧ (0 ≤ x2 ∧ x2 ≤ 100)))) → decode cX11_lose pc = .ok (.ireturn, 1) → V p l e R s m args below meth c 3 D A Q (0, 0) (fd dom σ') lv pc [.int (iI z)]) : V p l e R s m args below meth c 3 D A Q (0, 0) (fd dom σ0) [(0, .ref h), (1, .int (iI x1)), (2, .int (iI x2))] 0 [] := by
  have F0 : Fr τ [(3, 25)] σ0 σ0 := Fr.rf
  refine v_aload_n B dX11_lose_0 rfl rfl ?_
  refine v_iload_n B dX11_lose_1 rfl rfl ?_
  refine u_callVq B Z hz (n := 1) (As := [.int (iI x1)]) (rest := []) (c_Low_findX l D K Z _ _ _ _ h x1 t_h ⟨by omega, by omega⟩ σ0 G0) gd_Low_loseX_Low_findX_52 rfl rfl rfl (by decide +kernel) ⟨Nat.le_trans (by decide +kernel) hR.1, Nat.le_trans (by decide +kernel) hR.2⟩ t_h (cls_Low G0 t_h) rfl rfl rfl rfl (Nat.le_of_ble_eq_true rfl) dX11_lose_2 ⟨Nat.zero_le _, Nat.zero_le _⟩ (fun v3 σ1 p2 => ?_)
  obtain ⟨rfl, q7⟩ := p2
  rcases q7 with ⟨rfl, hq10⟩ | ⟨a8, rfl, t9, hq11⟩
  · show V _ _ _ _ _ _ _ _ _ _ _ _ _ _ _ _ _ _ [.null]
    refine v_ifnullN B (tgt := 24) dX11_lose_5 (by decide +kernel) ?_
    refine v_iconst B (v := iI 0) dX11_lose_24 rfl ?_
    exact hend σ0 0 _ _ G0 F0 ⟨by omega, by omega⟩ (by omega) dX11_lose_25
  · show V _ _ _ _ _ _ _ _ _ _ _ _ _ _ _ _ _ _ [.ref a8]
    refine v_ifnull B dX11_lose_5 ?_
    refine v_aload_n B dX11_lose_8 rfl rfl ?_
    obtain ⟨a12, a13, a14, a15, z16, h17, t18, t19, t20, t21, r22⟩ : okLow τ (σ0 h) := G0 h _ t_h
    refine u_get B Z (C := RX11) (T := TX11) (N := 5) (ci := 11) hi_Low_loseX_X11 t_h h17 rfl 1 (by decide +kernel) (List.mem_of_getElem? (i := 7) rfl) rfl dX11_lose_9 ?_
    refine v_iload_n B dX11_lose_12 rfl rfl ?_
    refine v_iload_n B dX11_lose_13 rfl rfl ?_
    refine u_callVi B Z hz (n := 2) (As := [.int (iI x1), .int (iI x2)]) (rest := []) (c_Air_loseNextX l D K Z _ _ _ _ a13 x1 x2 t19 ⟨by omega, by omega⟩ ⟨by omega, by omega⟩ σ0 G0) gd_Low_loseX_Air_loseNextX_107 rfl rfl rfl (by decide +kernel) ⟨Nat.le_trans (by decide +kernel) hR.1, Nat.le_trans (by decide +kernel) hR.2⟩ t19 (cls_Air G0 t19) rfl rfl rfl rfl (Nat.le_of_ble_eq_true rfl) dX11_lose_14 ⟨Nat.zero_le _, Nat.zero_le _⟩ (fun v25 σ23 p24 => ?_)
    obtain ⟨G26, F27, z29, e30, r31⟩ := p24
    subst e30
    have F28 := F0.call F27 (by first | rfl | simp)
    have h32 := (F27 h _ t_h (by first | rfl | simp)).trans h17
    refine u_if_eq B (tgt := 24) (by omega) dX11_lose_17 (by decide +kernel) (fun c33 => ?_) (fun c33 => ?_)
    · refine v_iconst B (v := iI 0) dX11_lose_24 rfl ?_
      exact hend σ23 0 _ _ G26 F28 ⟨by omega, by omega⟩ (by omega) dX11_lose_25
    · refine v_iconst B (v := iI 1) dX11_lose_20 rfl ?_
      refine v_goto B (tgt := 25) dX11_lose_21 (by decide +kernel) ?_
      exact hend σ23 1 _ _ G26 F28 ⟨by omega, by omega⟩ (by omega) dX11_lose_25
set_option maxRecDepth 100000 in
theorem c_Low_loseX (l : Launch) (D : va_G) (K : Nat → ClassId) {τ : Nat → Option Ty} {dom : List Nat} (Z : Sk τ dom) (zb zL : Nat) (zx : Nat → Int32) (zs : Nat → Nat) (h : Nat) (x1 : Int) (x2 : Int) (t_h : τ h = some (41, 0, 0)) (r_x1 : -2147483648 ≤ x1 ∧ x1 ≤ 2147483647) (r_x2 : -2147483648 ≤ x2 ∧ x2 ≤ 2147483647) (σ0 : Nat → va_E) (G0 : Good K τ σ0) : MZ l yX11_lose wp_Low_loseX ({ frames := 1, cells := 0, slots := 0, locals := 22 }) D (tysA K) [.ref h, .int (iI x1), .int (iI x2)] (fd dom σ0) zb zL zx zs (Qi D (fun r σ' => Good K τ σ' ∧ Fr τ [(3, 25)] σ0 σ' ∧ ∃ z : Int, r = iI z ∧ (0 ≤ z ∧ z ≤ 1) ∧ ((z = 1 ∧ ((0 ≤ x1 ∧ x1 ≤ 1) ∧ (0 ≤ x2 ∧ x2 ≤ 100))) ∨ (z = 0 ∧ ¬ ((0 ≤ x1 ∧ x1 ≤ 1) ∧ (0 ≤ x2 ∧ x2 ≤ 100))))) (fun σ' => fd dom σ')) 0 0 := by
  refine mz_of (cc := cX11_lose) (maxL := 3) (ret := (some .boolean)) (by decide +kernel) rfl (Nat.le_of_ble_eq_true rfl) ?_
  intro p e s m below meth c A B hr hlk _ hz
  exact b_Low_loseX ⟨Nat.le_refl _, Nat.le_refl _⟩ B Z hz h x1 x2 t_h r_x1 r_x2 σ0 G0 (fun σ' z lv pc G F hZ hP hd => v_zret B hr hlk (nar01 (by omega)) σ' ⟨G, F, z, rfl, hZ, hP⟩ rfl (Nat.le_refl _) (Nat.le_refl _) hd)

def wp_Low_allowX : List Cond := .code yX11_allow cX11_allow 4 (some .boolean) :: (([.methodLink RX11 52 yX11_find, .instanceMethod yX11_find, .selects RX11 yX11_find yX11_find, .initialized RX11, .code yX11_find cX11_find 2 (some (.object "LowEnergy$Device")), .fieldLink RX11 9 "LowEnergy" "devices" "[LLowEnergy$Device;", .constant RX11 110 (999999)] : List Cond) ++ (wsX110 ++ (wsX30 ++ (wsX80 ++ ([])))))
theorem hi_Low_allowX_X11 : ∀ x ∈ u_ws RX11 TX11 5, x ∈ wp_Low_allowX := fun _ h => List.mem_cons_of_mem _ (List.mem_append_right _ (List.mem_append_left _ h))
theorem hi_Low_allowX_X3 : ∀ x ∈ u_ws RX3 TX3 19, x ∈ wp_Low_allowX := fun _ h => List.mem_cons_of_mem _ (List.mem_append_right _ (List.mem_append_right _ (List.mem_append_left _ h)))
theorem hi_Low_allowX_X8 : ∀ x ∈ u_ws RX8 TX8 8, x ∈ wp_Low_allowX := fun _ h => List.mem_cons_of_mem _ (List.mem_append_right _ (List.mem_append_right _ (List.mem_append_right _ (List.mem_append_left _ h))))
set_option maxRecDepth 100000 in
theorem gd_Low_allowX_Low_findX_52 : GoodIn wp_Low_allowX (wsV RX11 52 RX11 yX11_find wp_Low_findX) := goodIn_app (goodIn_r _ [1, 2, 3, 4] rfl rfl) (goodIn_ca (goodIn_r _ [5, 6] rfl rfl) (goodIn_app (goodIn_cls hi_Low_allowX_X11 gw_X11) (goodIn_nil)))
set_option maxHeartbeats 4000000 in
set_option maxRecDepth 100000 in
theorem b_Low_allowX {p : Program} {l : Launch} {e : Env} {R : Room} {s : State} {m : MethodId} {args : Array Value} {below : List Frame} {meth : Method} {c : Code} {D : va_G} {K : Nat → ClassId} {A : Nat → Prop} {Q : State → Prop} {τ : Nat → Option Ty} {dom : List Nat} {zb zL : Nat} {zx : Nat → Int32} {zs : Nat → Nat} (hR : 1 ≤ R.frames ∧ 21 ≤ R.locals) (B : Bx p s m args c cX11_allow 4 RX11 wp_Low_allowX D (tysA K) A) (Z : Sk τ dom) (hz : ZL zb zL zx zs A s s.heap) (h : Nat) (x1 : Int) (x2 : Int) (t_h : τ h = some (41, 0, 0)) (r_x1 : -2147483648 ≤ x1 ∧ x1 ≤ 2147483647) (r_x2 : -2147483648 ≤ x2 ∧ x2 ≤ 2147483647) (σ0 : Nat → va_E) (G0 : Good K τ σ0) (hend : ∀ (σ' : Nat → va_E) (z : Int) (lv : List (Nat × Value)) (pc : Nat), Good K τ σ' → Fr τ [(38, 0)] σ0 σ' → (0 ≤ z ∧ z ≤ 1) → ((z = 1 ∧ ((0 ≤ x1 ∧ x1 ≤ 1) ∧ (x2 = -1 ∨ (0 ≤ x2 ∧ x2 ≤ 999999)))) ∨ (z = 0 ∧ ¬ ((0 ≤ x1 ∧ x1 ≤ 1) ∧ (x2 = -1 ∨ (0 ≤ x2 ∧ x2 ≤ 999999))))) → decode cX11_allow pc = .ok (.ireturn, 1) → V p l e R s m args below meth c 4 D A Q (0, 0) (fd dom σ') lv pc [.int (iI z)]) : V p l e R s m args below meth c 4 D A Q (0, 0) (fd dom σ0) [(0, .ref h), (1, .int (iI x1)), (2, .int (iI x2))] 0 [] := by
  have F0 : Fr τ [(38, 0)] σ0 σ0 := Fr.rf
  refine v_aload_n B dX11_allow_0 rfl rfl ?_
  refine v_iload_n B dX11_allow_1 rfl rfl ?_
  refine u_callVq B Z hz (n := 1) (As := [.int (iI x1)]) (rest := []) (c_Low_findX l D K Z _ _ _ _ h x1 t_h ⟨by omega, by omega⟩ σ0 G0) gd_Low_allowX_Low_findX_52 rfl rfl rfl (by decide +kernel) ⟨Nat.le_trans (by decide +kernel) hR.1, Nat.le_trans (by decide +kernel) hR.2⟩ t_h (cls_Low G0 t_h) rfl rfl rfl rfl (Nat.le_of_ble_eq_true rfl) dX11_allow_2 ⟨Nat.zero_le _, Nat.zero_le _⟩ (fun v3 σ1 p2 => ?_)
  obtain ⟨rfl, q7⟩ := p2
  rcases q7 with ⟨rfl, hq10⟩ | ⟨a8, rfl, t9, hq11⟩
  · show V _ _ _ _ _ _ _ _ _ _ _ _ _ _ _ _ _ _ [.null]
    refine v_astore_nN B (lv' := [(3, .null), (0, .ref h), (1, .int (iI x1)), (2, .int (iI x2))]) dX11_allow_5 rfl (by decide +kernel) rfl ?_
    refine v_aload_nN B dX11_allow_6 rfl rfl ?_
    refine v_ifnullN B (tgt := 21) dX11_allow_7 (by decide +kernel) ?_
    refine v_iconst B (v := iI 0) dX11_allow_21 rfl ?_
    exact hend σ0 0 _ _ G0 F0 ⟨by omega, by omega⟩ (by omega) dX11_allow_22
  · show V _ _ _ _ _ _ _ _ _ _ _ _ _ _ _ _ _ _ [.ref a8]
    refine v_astore_n B (lv' := [(3, .ref a8), (0, .ref h), (1, .int (iI x1)), (2, .int (iI x2))]) dX11_allow_5 rfl (by decide +kernel) rfl ?_
    refine v_aload_n B dX11_allow_6 rfl rfl ?_
    refine v_ifnull B dX11_allow_7 ?_
    refine v_iload_n B dX11_allow_10 rfl rfl ?_
    refine v_iconst B (v := iI (-1)) dX11_allow_11 rfl ?_
    refine u_icmp_lt B (tgt := 21) (by omega) (by omega) dX11_allow_12 (by decide +kernel) (fun c12 => ?_) (fun c12 => ?_)
    · refine v_iconst B (v := iI 0) dX11_allow_21 rfl ?_
      exact hend σ0 0 _ _ G0 F0 ⟨by omega, by omega⟩ (by omega) dX11_allow_22
    · refine v_iload_n B dX11_allow_15 rfl rfl ?_
      refine v_ldc B (v := iI 999999) (u_ci (List.mem_of_getElem? (i := 7) rfl) (by decide +kernel)) dX11_allow_16 ?_
      refine u_icmp_le B (tgt := 23) (by omega) (by omega) dX11_allow_18 (by decide +kernel) (fun c13 => ?_) (fun c13 => ?_)
      · refine v_aload_n B dX11_allow_23 rfl rfl ?_
        obtain ⟨z14, yy15, z16, z17, z18, z19, a20, z21, yy22, a23, yy24, a25, a26, a27, a28, a29, a30, a31, a32, h33, r34, r35, r36, r37, r38, r39, t40, r41, r42, t43, r44, t45, t46, t47, t48, t49, t50, t51, t52⟩ : okDevice τ (σ0 a8) := G0 a8 _ t9
        refine u_getN B Z (C := RX3) (T := TX3) (N := 19) (ci := 3) hi_Low_allowX_X3 t9 h33 rfl 14 (by decide +kernel) (List.mem_of_getElem? (i := 0) rfl) rfl dX11_allow_24 ?_
        refine v_iload_n B dX11_allow_27 rfl rfl ?_
        obtain ⟨a53, z54, z55, a56, a57, a58, a59, a60, h61, t62, r63, r64, t65, t66, t67, t68, t69⟩ : okPairing τ (σ0 a28) := G0 a28 _ t48
        refine u_putN B Z (C := RX8) (T := TX8) (N := 8) (ci := 8) hi_Low_allowX_X8 t48 h61 rfl 1 (by decide +kernel) tyX8 tyX8_ok nmX8 (List.mem_of_getElem? (i := 1) rfl) rfl (ty := .int) (tyX8_ok 1 (by decide +kernel)) rfl rfl (Nat.le_of_ble_eq_true rfl) (fs' := [.ref a53, .int (iI x2), .int (iI z55), .ref a56, .ref a57, .ref a58, .ref a59, .ref a60]) rfl dX11_allow_28 (fun σ70 h71 n72 => ?_)
        have G73 := G0.put t48 (⟨a53, x2, z55, a56, a57, a58, a59, a60, h71, t62, ⟨by omega, by omega⟩, ⟨by omega, by omega⟩, t65, t66, t67, t68, t69⟩ : Ok K τ (38, 0, 0) (σ70 a28)) n72
        have F74 := F0.put t48 (by simp) n72
        have h75 := (n72 a8 (ne_ty t9 t48 (by simp))).trans h33
        refine v_iconst B (v := iI 1) dX11_allow_31 rfl ?_
        exact hend σ70 1 _ _ G73 F74 ⟨by omega, by omega⟩ (by omega) dX11_allow_32
      · refine v_iconst B (v := iI 0) dX11_allow_21 rfl ?_
        exact hend σ0 0 _ _ G0 F0 ⟨by omega, by omega⟩ (by omega) dX11_allow_22
set_option maxRecDepth 100000 in
theorem c_Low_allowX (l : Launch) (D : va_G) (K : Nat → ClassId) {τ : Nat → Option Ty} {dom : List Nat} (Z : Sk τ dom) (zb zL : Nat) (zx : Nat → Int32) (zs : Nat → Nat) (h : Nat) (x1 : Int) (x2 : Int) (t_h : τ h = some (41, 0, 0)) (r_x1 : -2147483648 ≤ x1 ∧ x1 ≤ 2147483647) (r_x2 : -2147483648 ≤ x2 ∧ x2 ≤ 2147483647) (σ0 : Nat → va_E) (G0 : Good K τ σ0) : MZ l yX11_allow wp_Low_allowX ({ frames := 1, cells := 0, slots := 0, locals := 21 }) D (tysA K) [.ref h, .int (iI x1), .int (iI x2)] (fd dom σ0) zb zL zx zs (Qi D (fun r σ' => Good K τ σ' ∧ Fr τ [(38, 0)] σ0 σ' ∧ ∃ z : Int, r = iI z ∧ (0 ≤ z ∧ z ≤ 1) ∧ ((z = 1 ∧ ((0 ≤ x1 ∧ x1 ≤ 1) ∧ (x2 = -1 ∨ (0 ≤ x2 ∧ x2 ≤ 999999)))) ∨ (z = 0 ∧ ¬ ((0 ≤ x1 ∧ x1 ≤ 1) ∧ (x2 = -1 ∨ (0 ≤ x2 ∧ x2 ≤ 999999)))))) (fun σ' => fd dom σ')) 0 0 := by
  refine mz_of (cc := cX11_allow) (maxL := 4) (ret := (some .boolean)) (by decide +kernel) rfl (Nat.le_of_ble_eq_true rfl) ?_
  intro p e s m below meth c A B hr hlk _ hz
  exact b_Low_allowX ⟨Nat.le_refl _, Nat.le_refl _⟩ B Z hz h x1 x2 t_h r_x1 r_x2 σ0 G0 (fun σ' z lv pc G F hZ hP hd => v_zret B hr hlk (nar01 (by omega)) σ' ⟨G, F, z, rfl, hZ, hP⟩ rfl (Nat.le_refl _) (Nat.le_refl _) hd)

def wp_Low_featuresX : List Cond := .code yX11_features cX11_features 5 (some .boolean) :: (([.methodLink RX11 52 yX11_find, .instanceMethod yX11_find, .selects RX11 yX11_find yX11_find, .initialized RX11, .code yX11_find cX11_find 2 (some (.object "LowEnergy$Device")), .fieldLink RX11 9 "LowEnergy" "devices" "[LLowEnergy$Device;"] : List Cond) ++ (wsX110 ++ (wsX30 ++ ([]))))
theorem hi_Low_featuresX_X11 : ∀ x ∈ u_ws RX11 TX11 5, x ∈ wp_Low_featuresX := fun _ h => List.mem_cons_of_mem _ (List.mem_append_right _ (List.mem_append_left _ h))
theorem hi_Low_featuresX_X3 : ∀ x ∈ u_ws RX3 TX3 19, x ∈ wp_Low_featuresX := fun _ h => List.mem_cons_of_mem _ (List.mem_append_right _ (List.mem_append_right _ (List.mem_append_left _ h)))
set_option maxRecDepth 100000 in
theorem gd_Low_featuresX_Low_findX_52 : GoodIn wp_Low_featuresX (wsV RX11 52 RX11 yX11_find wp_Low_findX) := goodIn_app (goodIn_r _ [1, 2, 3, 4] rfl rfl) (goodIn_ca (goodIn_r _ [5, 6] rfl rfl) (goodIn_app (goodIn_cls hi_Low_featuresX_X11 gw_X11) (goodIn_nil)))
set_option maxHeartbeats 4000000 in
set_option maxRecDepth 100000 in
theorem b_Low_featuresX {p : Program} {l : Launch} {e : Env} {R : Room} {s : State} {m : MethodId} {args : Array Value} {below : List Frame} {meth : Method} {c : Code} {D : va_G} {K : Nat → ClassId} {A : Nat → Prop} {Q : State → Prop} {τ : Nat → Option Ty} {dom : List Nat} {zb zL : Nat} {zx : Nat → Int32} {zs : Nat → Nat} (hR : 1 ≤ R.frames ∧ 21 ≤ R.locals) (B : Bx p s m args c cX11_features 5 RX11 wp_Low_featuresX D (tysA K) A) (Z : Sk τ dom) (hz : ZL zb zL zx zs A s s.heap) (h : Nat) (x1 : Int) (y2 : Int) (t_h : τ h = some (41, 0, 0)) (r_x1 : -2147483648 ≤ x1 ∧ x1 ≤ 2147483647) (r_y2 : InL y2) (σ0 : Nat → va_E) (G0 : Good K τ σ0) (hend : ∀ (σ' : Nat → va_E) (z : Int) (lv : List (Nat × Value)) (pc : Nat), Good K τ σ' → Fr τ [(33, 0)] σ0 σ' → (0 ≤ z ∧ z ≤ 1) → ((z = 1 ∧ (0 ≤ x1 ∧ x1 ≤ 1)) ∨ (z = 0 ∧ ¬ (0 ≤ x1 ∧ x1 ≤ 1))) → decode cX11_features pc = .ok (.ireturn, 1) → V p l e R s m args below meth c 5 D A Q (0, 0) (fd dom σ') lv pc [.int (iI z)]) : V p l e R s m args below meth c 5 D A Q (0, 0) (fd dom σ0) [(0, .ref h), (1, .int (iI x1)), (2, .long (lI y2))] 0 [] := by
  have F0 : Fr τ [(33, 0)] σ0 σ0 := Fr.rf
  refine v_aload_n B dX11_features_0 rfl rfl ?_
  refine v_iload_n B dX11_features_1 rfl rfl ?_
  refine u_callVq B Z hz (n := 1) (As := [.int (iI x1)]) (rest := []) (c_Low_findX l D K Z _ _ _ _ h x1 t_h ⟨by omega, by omega⟩ σ0 G0) gd_Low_featuresX_Low_findX_52 rfl rfl rfl (by decide +kernel) ⟨Nat.le_trans (by decide +kernel) hR.1, Nat.le_trans (by decide +kernel) hR.2⟩ t_h (cls_Low G0 t_h) rfl rfl rfl rfl (Nat.le_of_ble_eq_true rfl) dX11_features_2 ⟨Nat.zero_le _, Nat.zero_le _⟩ (fun v3 σ1 p2 => ?_)
  obtain ⟨rfl, q7⟩ := p2
  rcases q7 with ⟨rfl, hq10⟩ | ⟨a8, rfl, t9, hq11⟩
  · show V _ _ _ _ _ _ _ _ _ _ _ _ _ _ _ _ _ _ [.null]
    refine v_astoreN B (lv' := [(4, .null), (0, .ref h), (1, .int (iI x1)), (2, .long (lI y2))]) dX11_features_5 (by decide +kernel) rfl ?_
    refine v_aloadN B dX11_features_7 rfl ?_
    refine v_ifnonnullN B dX11_features_9 ?_
    refine v_iconst B (v := iI 0) dX11_features_12 rfl ?_
    exact hend σ0 0 _ _ G0 F0 ⟨by omega, by omega⟩ (by omega) dX11_features_13
  · show V _ _ _ _ _ _ _ _ _ _ _ _ _ _ _ _ _ _ [.ref a8]
    refine v_astore B (lv' := [(4, .ref a8), (0, .ref h), (1, .int (iI x1)), (2, .long (lI y2))]) dX11_features_5 (by decide +kernel) rfl ?_
    refine v_aload B dX11_features_7 rfl ?_
    refine v_ifnonnull B (tgt := 14) dX11_features_9 (by decide +kernel) ?_
    refine v_aload B dX11_features_14 rfl ?_
    refine v_lload_n B dX11_features_16 rfl rfl ?_
    obtain ⟨z12, yy13, z14, z15, z16, z17, a18, z19, yy20, a21, yy22, a23, a24, a25, a26, a27, a28, a29, a30, h31, r32, r33, r34, r35, r36, r37, t38, r39, r40, t41, r42, t43, t44, t45, t46, t47, t48, t49, t50⟩ : okDevice τ (σ0 a8) := G0 a8 _ t9
    refine u_putN B Z (C := RX3) (T := TX3) (N := 19) (ci := 3) hi_Low_featuresX_X3 t9 h31 rfl 10 (by decide +kernel) tyX3 tyX3_ok nmX3 (List.mem_of_getElem? (i := 2) rfl) rfl (ty := .long) (tyX3_ok 10 (by decide +kernel)) rfl rfl (Nat.le_of_ble_eq_true rfl) (fs' := [.int (iI z12), .long (lI yy13), .int (iI z14), .int (iI z15), .int (iI z16), .int (iI z17), .ref a18, .int (iI z19), .long (lI yy20), .ref a21, .long (lI y2), .ref a23, .ref a24, .ref a25, .ref a26, .ref a27, .ref a28, .ref a29, .ref a30]) rfl dX11_features_17 (fun σ51 h52 n53 => ?_)
    have G54 := G0.put t9 (⟨z12, yy13, z14, z15, z16, z17, a18, z19, yy20, a21, y2, a23, a24, a25, a26, a27, a28, a29, a30, h52, ⟨by omega, by omega⟩, ⟨by omega, by omega⟩, ⟨by omega, by omega⟩, ⟨by omega, by omega⟩, ⟨by omega, by omega⟩, ⟨by omega, by omega⟩, t38, ⟨by omega, by omega⟩, ⟨by omega, by omega⟩, t41, ⟨by omega, by omega⟩, t43, t44, t45, t46, t47, t48, t49, t50⟩ : Ok K τ (33, 0, 0) (σ51 a8)) n53
    have F55 := F0.put t9 (by simp) n53
    refine v_iconst B (v := iI 1) dX11_features_20 rfl ?_
    exact hend σ51 1 _ _ G54 F55 ⟨by omega, by omega⟩ (by omega) dX11_features_21
set_option maxRecDepth 100000 in
theorem c_Low_featuresX (l : Launch) (D : va_G) (K : Nat → ClassId) {τ : Nat → Option Ty} {dom : List Nat} (Z : Sk τ dom) (zb zL : Nat) (zx : Nat → Int32) (zs : Nat → Nat) (h : Nat) (x1 : Int) (y2 : Int) (t_h : τ h = some (41, 0, 0)) (r_x1 : -2147483648 ≤ x1 ∧ x1 ≤ 2147483647) (r_y2 : InL y2) (σ0 : Nat → va_E) (G0 : Good K τ σ0) : MZ l yX11_features wp_Low_featuresX ({ frames := 1, cells := 0, slots := 0, locals := 21 }) D (tysA K) [.ref h, .int (iI x1), .long (lI y2)] (fd dom σ0) zb zL zx zs (Qi D (fun r σ' => Good K τ σ' ∧ Fr τ [(33, 0)] σ0 σ' ∧ ∃ z : Int, r = iI z ∧ (0 ≤ z ∧ z ≤ 1) ∧ ((z = 1 ∧ (0 ≤ x1 ∧ x1 ≤ 1)) ∨ (z = 0 ∧ ¬ (0 ≤ x1 ∧ x1 ≤ 1)))) (fun σ' => fd dom σ')) 0 0 := by
  refine mz_of (cc := cX11_features) (maxL := 5) (ret := (some .boolean)) (by decide +kernel) rfl (Nat.le_of_ble_eq_true rfl) ?_
  intro p e s m below meth c A B hr hlk _ hz
  exact b_Low_featuresX ⟨Nat.le_refl _, Nat.le_refl _⟩ B Z hz h x1 y2 t_h r_x1 r_y2 σ0 G0 (fun σ' z lv pc G F hZ hP hd => v_zret B hr hlk (nar01 (by omega)) σ' ⟨G, F, z, rfl, hZ, hP⟩ rfl (Nat.le_refl _) (Nat.le_refl _) hd)

def wp_Low_mtuX : List Cond := .code yX11_mtu cX11_mtu 4 (some .boolean) :: (([.methodLink RX11 52 yX11_find, .instanceMethod yX11_find, .selects RX11 yX11_find yX11_find, .initialized RX11, .code yX11_find cX11_find 2 (some (.object "LowEnergy$Device")), .fieldLink RX11 9 "LowEnergy" "devices" "[LLowEnergy$Device;"] : List Cond) ++ (wsX110 ++ (wsX30 ++ (wsX100 ++ ([])))))
theorem hi_Low_mtuX_X11 : ∀ x ∈ u_ws RX11 TX11 5, x ∈ wp_Low_mtuX := fun _ h => List.mem_cons_of_mem _ (List.mem_append_right _ (List.mem_append_left _ h))
theorem hi_Low_mtuX_X3 : ∀ x ∈ u_ws RX3 TX3 19, x ∈ wp_Low_mtuX := fun _ h => List.mem_cons_of_mem _ (List.mem_append_right _ (List.mem_append_right _ (List.mem_append_left _ h)))
theorem hi_Low_mtuX_X10 : ∀ x ∈ u_ws RX10 TX10 10, x ∈ wp_Low_mtuX := fun _ h => List.mem_cons_of_mem _ (List.mem_append_right _ (List.mem_append_right _ (List.mem_append_right _ (List.mem_append_left _ h))))
set_option maxRecDepth 100000 in
theorem gd_Low_mtuX_Low_findX_52 : GoodIn wp_Low_mtuX (wsV RX11 52 RX11 yX11_find wp_Low_findX) := goodIn_app (goodIn_r _ [1, 2, 3, 4] rfl rfl) (goodIn_ca (goodIn_r _ [5, 6] rfl rfl) (goodIn_app (goodIn_cls hi_Low_mtuX_X11 gw_X11) (goodIn_nil)))
set_option maxHeartbeats 4000000 in
set_option maxRecDepth 100000 in
theorem b_Low_mtuX {p : Program} {l : Launch} {e : Env} {R : Room} {s : State} {m : MethodId} {args : Array Value} {below : List Frame} {meth : Method} {c : Code} {D : va_G} {K : Nat → ClassId} {A : Nat → Prop} {Q : State → Prop} {τ : Nat → Option Ty} {dom : List Nat} {zb zL : Nat} {zx : Nat → Int32} {zs : Nat → Nat} (hR : 1 ≤ R.frames ∧ 21 ≤ R.locals) (B : Bx p s m args c cX11_mtu 4 RX11 wp_Low_mtuX D (tysA K) A) (Z : Sk τ dom) (hz : ZL zb zL zx zs A s s.heap) (h : Nat) (x1 : Int) (x2 : Int) (t_h : τ h = some (41, 0, 0)) (r_x1 : -2147483648 ≤ x1 ∧ x1 ≤ 2147483647) (r_x2 : -2147483648 ≤ x2 ∧ x2 ≤ 2147483647) (σ0 : Nat → va_E) (G0 : Good K τ σ0) (hend : ∀ (σ' : Nat → va_E) (z : Int) (lv : List (Nat × Value)) (pc : Nat), Good K τ σ' → Fr τ [(40, 0)] σ0 σ' → (0 ≤ z ∧ z ≤ 1) → ((z = 1 ∧ ((0 ≤ x1 ∧ x1 ≤ 1) ∧ (23 ≤ x2 ∧ x2 ≤ 64))) ∨ (z = 0 ∧ ¬ ((0 ≤ x1 ∧ x1 ≤ 1) ∧ (23 ≤ x2 ∧ x2 ≤ 64)))) → decode cX11_mtu pc = .ok (.ireturn, 1) → V p l e R s m args below meth c 4 D A Q (0, 0) (fd dom σ') lv pc [.int (iI z)]) : V p l e R s m args below meth c 4 D A Q (0, 0) (fd dom σ0) [(0, .ref h), (1, .int (iI x1)), (2, .int (iI x2))] 0 [] := by
  have F0 : Fr τ [(40, 0)] σ0 σ0 := Fr.rf
  refine v_aload_n B dX11_mtu_0 rfl rfl ?_
  refine v_iload_n B dX11_mtu_1 rfl rfl ?_
  refine u_callVq B Z hz (n := 1) (As := [.int (iI x1)]) (rest := []) (c_Low_findX l D K Z _ _ _ _ h x1 t_h ⟨by omega, by omega⟩ σ0 G0) gd_Low_mtuX_Low_findX_52 rfl rfl rfl (by decide +kernel) ⟨Nat.le_trans (by decide +kernel) hR.1, Nat.le_trans (by decide +kernel) hR.2⟩ t_h (cls_Low G0 t_h) rfl rfl rfl rfl (Nat.le_of_ble_eq_true rfl) dX11_mtu_2 ⟨Nat.zero_le _, Nat.zero_le _⟩ (fun v3 σ1 p2 => ?_)
  obtain ⟨rfl, q7⟩ := p2
  rcases q7 with ⟨rfl, hq10⟩ | ⟨a8, rfl, t9, hq11⟩
  · show V _ _ _ _ _ _ _ _ _ _ _ _ _ _ _ _ _ _ [.null]
    refine v_astore_nN B (lv' := [(3, .null), (0, .ref h), (1, .int (iI x1)), (2, .int (iI x2))]) dX11_mtu_5 rfl (by decide +kernel) rfl ?_
    refine v_aload_nN B dX11_mtu_6 rfl rfl ?_
    refine v_ifnullN B (tgt := 22) dX11_mtu_7 (by decide +kernel) ?_
    refine v_iconst B (v := iI 0) dX11_mtu_22 rfl ?_
    exact hend σ0 0 _ _ G0 F0 ⟨by omega, by omega⟩ (by omega) dX11_mtu_23
  · show V _ _ _ _ _ _ _ _ _ _ _ _ _ _ _ _ _ _ [.ref a8]
    refine v_astore_n B (lv' := [(3, .ref a8), (0, .ref h), (1, .int (iI x1)), (2, .int (iI x2))]) dX11_mtu_5 rfl (by decide +kernel) rfl ?_
    refine v_aload_n B dX11_mtu_6 rfl rfl ?_
    refine v_ifnull B dX11_mtu_7 ?_
    refine v_iload_n B dX11_mtu_10 rfl rfl ?_
    refine v_bipush B (v := iI 23) dX11_mtu_11 (by decide +kernel) ?_
    refine u_icmp_lt B (tgt := 22) (by omega) (by omega) dX11_mtu_13 (by decide +kernel) (fun c12 => ?_) (fun c12 => ?_)
    · refine v_iconst B (v := iI 0) dX11_mtu_22 rfl ?_
      exact hend σ0 0 _ _ G0 F0 ⟨by omega, by omega⟩ (by omega) dX11_mtu_23
    · refine v_iload_n B dX11_mtu_16 rfl rfl ?_
      refine v_bipush B (v := iI 64) dX11_mtu_17 (by decide +kernel) ?_
      refine u_icmp_le B (tgt := 24) (by omega) (by omega) dX11_mtu_19 (by decide +kernel) (fun c13 => ?_) (fun c13 => ?_)
      · refine v_aload_n B dX11_mtu_24 rfl rfl ?_
        obtain ⟨z14, yy15, z16, z17, z18, z19, a20, z21, yy22, a23, yy24, a25, a26, a27, a28, a29, a30, a31, a32, h33, r34, r35, r36, r37, r38, r39, t40, r41, r42, t43, r44, t45, t46, t47, t48, t49, t50, t51, t52⟩ : okDevice τ (σ0 a8) := G0 a8 _ t9
        refine u_getN B Z (C := RX3) (T := TX3) (N := 19) (ci := 3) hi_Low_mtuX_X3 t9 h33 rfl 15 (by decide +kernel) (List.mem_of_getElem? (i := 3) rfl) rfl dX11_mtu_25 ?_
        refine v_iload_n B dX11_mtu_28 rfl rfl ?_
        obtain ⟨a53, a54, a55, z56, z57, z58, a59, z60, z61, a62, h63, t64, t65, t66, r67, r68, r69, t70, r71, r72, t73⟩ : okServer τ (σ0 a29) := G0 a29 _ t49
        refine u_putN B Z (C := RX10) (T := TX10) (N := 10) (ci := 10) hi_Low_mtuX_X10 t49 h63 rfl 4 (by decide +kernel) tyX10 tyX10_ok nmX10 (List.mem_of_getElem? (i := 4) rfl) rfl (ty := .int) (tyX10_ok 4 (by decide +kernel)) rfl rfl (Nat.le_of_ble_eq_true rfl) (fs' := [.ref a53, .ref a54, .ref a55, .int (iI z56), .int (iI x2), .int (iI z58), .ref a59, .int (iI z60), .int (iI z61), .ref a62]) rfl dX11_mtu_29 (fun σ74 h75 n76 => ?_)
        have G77 := G0.put t49 (⟨a53, a54, a55, z56, x2, z58, a59, z60, z61, a62, h75, t64, t65, t66, ⟨by omega, by omega⟩, ⟨by omega, by omega⟩, ⟨by omega, by omega⟩, t70, ⟨by omega, by omega⟩, ⟨by omega, by omega⟩, t73⟩ : Ok K τ (40, 0, 0) (σ74 a29)) n76
        have F78 := F0.put t49 (by simp) n76
        have h79 := (n76 a8 (ne_ty t9 t49 (by simp))).trans h33
        refine v_iconst B (v := iI 1) dX11_mtu_32 rfl ?_
        exact hend σ74 1 _ _ G77 F78 ⟨by omega, by omega⟩ (by omega) dX11_mtu_33
      · refine v_iconst B (v := iI 0) dX11_mtu_22 rfl ?_
        exact hend σ0 0 _ _ G0 F0 ⟨by omega, by omega⟩ (by omega) dX11_mtu_23
set_option maxRecDepth 100000 in
theorem c_Low_mtuX (l : Launch) (D : va_G) (K : Nat → ClassId) {τ : Nat → Option Ty} {dom : List Nat} (Z : Sk τ dom) (zb zL : Nat) (zx : Nat → Int32) (zs : Nat → Nat) (h : Nat) (x1 : Int) (x2 : Int) (t_h : τ h = some (41, 0, 0)) (r_x1 : -2147483648 ≤ x1 ∧ x1 ≤ 2147483647) (r_x2 : -2147483648 ≤ x2 ∧ x2 ≤ 2147483647) (σ0 : Nat → va_E) (G0 : Good K τ σ0) : MZ l yX11_mtu wp_Low_mtuX ({ frames := 1, cells := 0, slots := 0, locals := 21 }) D (tysA K) [.ref h, .int (iI x1), .int (iI x2)] (fd dom σ0) zb zL zx zs (Qi D (fun r σ' => Good K τ σ' ∧ Fr τ [(40, 0)] σ0 σ' ∧ ∃ z : Int, r = iI z ∧ (0 ≤ z ∧ z ≤ 1) ∧ ((z = 1 ∧ ((0 ≤ x1 ∧ x1 ≤ 1) ∧ (23 ≤ x2 ∧ x2 ≤ 64))) ∨ (z = 0 ∧ ¬ ((0 ≤ x1 ∧ x1 ≤ 1) ∧ (23 ≤ x2 ∧ x2 ≤ 64))))) (fun σ' => fd dom σ')) 0 0 := by
  refine mz_of (cc := cX11_mtu) (maxL := 4) (ret := (some .boolean)) (by decide +kernel) rfl (Nat.le_of_ble_eq_true rfl) ?_
  intro p e s m below meth c A B hr hlk _ hz
  exact b_Low_mtuX ⟨Nat.le_refl _, Nat.le_refl _⟩ B Z hz h x1 x2 t_h r_x1 r_x2 σ0 G0 (fun σ' z lv pc G F hZ hP hd => v_zret B hr hlk (nar01 (by omega)) σ' ⟨G, F, z, rfl, hZ, hP⟩ rfl (Nat.le_refl _) (Nat.le_refl _) hd)

def wp_Low_tickY : List Cond := .code yX11_tick cX11_tick 7 (some .int) :: (([.methodLink RX11 413 yX11_sendPacket, .instanceMethod yX11_sendPacket, .selects RX11 yX11_sendPacket yX11_sendPacket, .initialized RX11, .code yX11_sendPacket cX11_sendPacket 5 none, .fieldLink RX11 18 "LowEnergy" "sky" "LLowEnergy$Air;", .methodLink RX11 435 yX0_transmit, .instanceMethod yX0_transmit, .selects RX0 yX0_transmit yX0_transmit, .initialized RX0, .code yX0_transmit cX0_transmit 8 none, .fieldLink RX0 78 "LowEnergy$Air" "latestIsLost" "Z", .fieldLink RX0 29 "LowEnergy$Air" "losses" "[I", .fieldLink RX0 42 "LowEnergy$Air" "count" "I", .fieldLink RX0 13 "LowEnergy$Air" "packets" "[LLowEnergy$Row;", .methodLink RX0 53 yX9_clear, .instanceMethod yX9_clear, .selects RX9 yX9_clear yX9_clear, .initialized RX9, .code yX9_clear cX9_clear 1 none, .fieldLink RX9 21 "LowEnergy$Row" "size" "I", .methodLink RX0 56 yX9_putNumber, .instanceMethod yX9_putNumber, .selects RX9 yX9_putNumber yX9_putNumber, .code yX9_putNumber cX9_putNumber 5 none, .fieldLink RX9 15 "LowEnergy$Row" "bytes" "[I", .constantLong RX9 25 (255), .methodLink RX0 60 yX9_put, .instanceMethod yX9_put, .selects RX9 yX9_put yX9_put, .code yX9_put cX9_put 2 none, .methodLink RX0 63 yX9_putPart, .instanceMethod yX9_putPart, .selects RX9 yX9_putPart yX9_putPart, .code yX9_putPart cX9_putPart 6 none, .methodLink RX9 9 Lib.Math.max.name, .static Lib.Math.max.name, .initialized "java/lang/Math", .code Lib.Math.max.name Lib.Math.max.code 2 (some .int), .methodLink RX0 67 yX0_crcInOrder, .static yX0_crcInOrder, .code yX0_crcInOrder cX0_crcInOrder 7 (some .int), .constant RX0 100 (16777215), .methodLink RX0 71 yX0_whiten, .static yX0_whiten, .code yX0_whiten cX0_whiten 7 none, .methodLink RX0 75 yX0_disturb, .instanceMethod yX0_disturb, .selects RX0 yX0_disturb yX0_disturb, .code yX0_disturb cX0_disturb 5 none, .fieldLink RX0 26 "LowEnergy$Air" "noiseCounts" "[I", .fieldLink RX0 23 "LowEnergy$Air" "noises" "[[I", .methodLink RX0 82 yX9_turn, .instanceMethod yX9_turn, .selects RX9 yX9_turn yX9_turn, .code yX9_turn cX9_turn 3 none, .fieldLink RX0 17 "LowEnergy$Air" "channels" "[I", .methodLink RX11 512 yX5_seal, .instanceMethod yX5_seal, .selects RX5 yX5_seal yX5_seal, .initialized RX5, .code yX5_seal cX5_seal 6 none, .fieldLink RX5 51 "LowEnergy$Guard" "sent" "I", .fieldLink RX5 22 "LowEnergy$Guard" "mac" "[I", .fieldLink RX5 25 "LowEnergy$Guard" "pad" "[I", .methodLink RX5 61 yX9_put, .fieldLink RX5 28 "LowEnergy$Guard" "cipher" "LLowEnergy$Cipher;", .fieldLink RX5 16 "LowEnergy$Guard" "session" "[I", .methodLink RX5 71 yX1_loadKey, .instanceMethod yX1_loadKey, .selects RX1 yX1_loadKey yX1_loadKey, .initialized RX1, .code yX1_loadKey cX1_loadKey 6 none, .fieldLink RX1 9 "LowEnergy$Cipher" "roundKeys" "[I", .fieldLink RX1 16 "LowEnergy$Cipher" "SBOX" "[I", .methodLink RX5 83 yX5_findMac, .instanceMethod yX5_findMac, .selects RX5 yX5_findMac yX5_findMac, .code yX5_findMac cX5_findMac 8 none, .methodLink RX5 77 yX1_encipher, .instanceMethod yX1_encipher, .selects RX1 yX1_encipher yX1_encipher, .code yX1_encipher cX1_encipher 7 none, .fieldLink RX1 13 "LowEnergy$Cipher" "moved" "[I", .methodLink RX5 67 yX9_at, .instanceMethod yX9_at, .selects RX9 yX9_at yX9_at, .code yX9_at cX9_at 2 (some .int), .methodLink RX5 94 yX5_fillNonce, .instanceMethod yX5_fillNonce, .selects RX5 yX5_fillNonce yX5_fillNonce, .code yX5_fillNonce cX5_fillNonce 8 none, .fieldLink RX5 19 "LowEnergy$Guard" "iv" "[I", .constantLong RX5 102 (255), .methodLink RX5 87 yX5_whitenBySession, .instanceMethod yX5_whitenBySession, .selects RX5 yX5_whitenBySession yX5_whitenBySession, .code yX5_whitenBySession cX5_whitenBySession 7 none, .methodLink RX5 98 yX9_turn, .methodLink RX11 502 yX6_giveReason, .instanceMethod yX6_giveReason, .selects RX6 yX6_giveReason yX6_giveReason, .initialized RX6, .code yX6_giveReason cX6_giveReason 2 none, .fieldLink RX6 15 "LowEnergy$Link" "reason" "I", .methodLink RX11 505 yX7_pickNext, .instanceMethod yX7_pickNext, .selects RX7 yX7_pickNext yX7_pickNext, .initialized RX7, .code yX7_pickNext cX7_pickNext 2 none, .fieldLink RX7 65 "LowEnergy$Mail" "sort" "I", .methodLink RX7 36 yX7_dropCurrent, .instanceMethod yX7_dropCurrent, .selects RX7 yX7_dropCurrent yX7_dropCurrent, .code yX7_dropCurrent cX7_dropCurrent 1 none, .fieldLink RX7 14 "LowEnergy$Mail" "current" "LLowEnergy$Row;", .methodLink RX7 62 yX9_clear, .fieldLink RX7 68 "LowEnergy$Mail" "currentOp" "I", .fieldLink RX7 43 "LowEnergy$Mail" "controlCount" "I", .fieldLink RX7 53 "LowEnergy$Mail" "messageCount" "I", .fieldLink RX7 24 "LowEnergy$Mail" "messages" "[LLowEnergy$Row;", .fieldLink RX7 50 "LowEnergy$Mail" "messageHead" "I", .methodLink RX7 103 yX7_pickPiece, .instanceMethod yX7_pickPiece, .selects RX7 yX7_pickPiece yX7_pickPiece, .code yX7_pickPiece cX7_pickPiece 2 none, .fieldLink RX7 56 "LowEnergy$Mail" "placed" "I", .methodLink RX7 91 yX9_putPart, .fieldLink RX7 20 "LowEnergy$Mail" "controls" "[LLowEnergy$Row;", .fieldLink RX7 39 "LowEnergy$Mail" "controlHead" "I", .methodLink RX7 95 yX9_become, .instanceMethod yX9_become, .selects RX9 yX9_become yX9_become, .code yX9_become cX9_become 2 none, .methodLink RX9 27 yX9_putPart, .methodLink RX7 99 yX9_at, .methodLink RX11 405 yX11_bringsLetter, .instanceMethod yX11_bringsLetter, .selects RX11 yX11_bringsLetter yX11_bringsLetter, .code yX11_bringsLetter cX11_bringsLetter 4 (some .boolean), .methodLink RX11 533 yX7_gather, .instanceMethod yX7_gather, .selects RX7 yX7_gather yX7_gather, .code yX7_gather cX7_gather 4 (some .boolean), .fieldLink RX7 59 "LowEnergy$Mail" "begun" "Z", .fieldLink RX7 27 "LowEnergy$Mail" "gathered" "LLowEnergy$Row;", .methodLink RX7 106 yX9_two, .instanceMethod yX9_two, .selects RX9 yX9_two yX9_two, .code yX9_two cX9_two 2 (some .int), .fieldLink RX7 109 "LowEnergy$Mail" "letterChannel" "I", .fieldLink RX7 30 "LowEnergy$Mail" "letter" "LLowEnergy$Row;", .methodLink RX7 84 yX7_isFull, .instanceMethod yX7_isFull, .selects RX7 yX7_isFull yX7_isFull, .code yX7_isFull cX7_isFull 1 (some .boolean), .methodLink RX11 529 yX11_obey, .static yX11_obey, .code yX11_obey cX11_obey 4 none, .methodLink RX11 157 yX7_newControl, .instanceMethod yX7_newControl, .selects RX7 yX7_newControl yX7_newControl, .code yX7_newControl cX7_newControl 3 (some (.object "LowEnergy$Row")), .methodLink RX7 71 yX9_put, .fieldLink RX7 33 "LowEnergy$Mail" "spare" "LLowEnergy$Row;", .methodLink RX11 164 yX9_put, .methodLink RX11 565 yX11_isForRole, .static yX11_isForRole, .code yX11_isForRole cX11_isForRole 2 (some .boolean), .methodLink RX11 573 yX11_obeyCipherControl, .static yX11_obeyCipherControl, .code yX11_obeyCipherControl cX11_obeyCipherControl 4 none, .methodLink RX11 582 yX4_note, .instanceMethod yX4_note, .selects RX4 yX4_note yX4_note, .initialized RX4, .code yX4_note cX4_note 6 none, .fieldLink RX4 29 "LowEnergy$Diary" "count" "I", .fieldLink RX4 36 "LowEnergy$Diary" "head" "I", .fieldLink RX4 11 "LowEnergy$Diary" "kinds" "[I", .fieldLink RX4 17 "LowEnergy$Diary" "numbers" "[[I", .fieldLink RX4 22 "LowEnergy$Diary" "rows" "[LLowEnergy$Row;", .methodLink RX4 39 yX9_clear, .fieldLink RX4 33 "LowEnergy$Diary" "lost" "I", .methodLink RX11 590 yX11_answerSessionRequest, .static yX11_answerSessionRequest, .code yX11_answerSessionRequest cX11_answerSessionRequest 2 none, .methodLink RX11 593 yX5_takeSessionParts, .instanceMethod yX5_takeSessionParts, .selects RX5 yX5_takeSessionParts yX5_takeSessionParts, .code yX5_takeSessionParts cX5_takeSessionParts 4 none, .fieldLink RX5 13 "LowEnergy$Guard" "diversifier" "[I", .methodLink RX11 208 yX3_drawInto, .instanceMethod yX3_drawInto, .selects RX3 yX3_drawInto yX3_drawInto, .initialized RX3, .code yX3_drawInto cX3_drawInto 5 none, .methodLink RX3 89 yX3_draw, .instanceMethod yX3_draw, .selects RX3 yX3_draw yX3_draw, .code yX3_draw cX3_draw 1 (some .int), .fieldLink RX3 69 "LowEnergy$Device" "x" "I", .constant RX3 88 (1103515245), .methodLink RX11 215 yX5_putSessionParts, .instanceMethod yX5_putSessionParts, .selects RX5 yX5_putSessionParts yX5_putSessionParts, .code yX5_putSessionParts cX5_putSessionParts 4 none, .methodLink RX11 596 yX5_makeSession, .instanceMethod yX5_makeSession, .selects RX5 yX5_makeSession yX5_makeSession, .code yX5_makeSession cX5_makeSession 2 none, .fieldLink RX5 7 "LowEnergy$Guard" "key" "[I", .fieldLink RX5 32 "LowEnergy$Guard" "hasSession" "Z", .methodLink RX11 599 yX5_beginSending, .instanceMethod yX5_beginSending, .selects RX5 yX5_beginSending yX5_beginSending, .code yX5_beginSending cX5_beginSending 1 none, .fieldLink RX5 45 "LowEnergy$Guard" "sends" "Z", .methodLink RX11 602 yX5_beginComing, .instanceMethod yX5_beginComing, .selects RX5 yX5_beginComing yX5_beginComing, .code yX5_beginComing cX5_beginComing 1 none, .fieldLink RX5 48 "LowEnergy$Guard" "comes" "Z", .fieldLink RX5 55 "LowEnergy$Guard" "opened" "I", .methodLink RX11 291 yX9_at, .methodLink RX11 569 yX11_obeyLinkControl, .static yX11_obeyLinkControl, .code yX11_obeyLinkControl cX11_obeyLinkControl 3 none, .methodLink RX11 449 yX9_numberAt, .instanceMethod yX9_numberAt, .selects RX9 yX9_numberAt yX9_numberAt, .code yX9_numberAt cX9_numberAt 7 (some .long), .methodLink RX11 576 yX9_two, .methodLink RX11 579 yX6_hearMap, .instanceMethod yX6_hearMap, .selects RX6 yX6_hearMap yX6_hearMap, .code yX6_hearMap cX6_hearMap 5 none, .methodLink RX6 76 yX6_giveReason, .fieldLink RX6 54 "LowEnergy$Link" "event" "I", .constant RX6 75 (65535), .methodLink RX6 21 yX6_isProperMap, .static yX6_isProperMap, .code yX6_isProperMap cX6_isProperMap 2 (some .boolean), .methodLink RX6 25 yJ13_bitCount_95d88, .static yJ13_bitCount_95d88, .initialized RJ13, .code yJ13_bitCount_95d88 cJ13_bitCount_95d88 2 (some .int), .constantLong RJ13 314 (6148914691236517205), .constantLong RJ13 316 (3689348814741910323), .constantLong RJ13 318 (1085102592571150095), .fieldLink RX6 50 "LowEnergy$Link" "mapWaits" "Z", .methodLink RX6 80 yX6_awaitMap, .instanceMethod yX6_awaitMap, .selects RX6 yX6_awaitMap yX6_awaitMap, .code yX6_awaitMap cX6_awaitMap 4 none, .fieldLink RX6 69 "LowEnergy$Link" "nextMap" "J", .fieldLink RX6 72 "LowEnergy$Link" "instant" "I", .methodLink RX11 160 yX9_putNumber, .methodLink RX11 586 yX4_noteBytes, .instanceMethod yX4_noteBytes, .selects RX4 yX4_noteBytes yX4_noteBytes, .code yX4_noteBytes cX4_noteBytes 8 none, .methodLink RX4 42 yX4_note, .methodLink RX4 46 yX9_putPart, .methodLink RX11 154 yX7_addVersion, .instanceMethod yX7_addVersion, .selects RX7 yX7_addVersion yX7_addVersion, .code yX7_addVersion cX7_addVersion 2 none, .methodLink RX7 74 yX7_newControl, .methodLink RX7 78 yX9_putNumber, .constantLong RX7 82 (258), .fieldLink RX7 46 "LowEnergy$Mail" "versionSent" "Z", .methodLink RX11 562 yX11_controlSize, .static yX11_controlSize, .code yX11_controlSize cX11_controlSize 1 (some .int), .methodLink RX11 525 yX5_open, .instanceMethod yX5_open, .selects RX5 yX5_open yX5_open, .code yX5_open cX5_open 6 (some .boolean), .methodLink RX5 91 yX9_cut, .instanceMethod yX9_cut, .selects RX9 yX9_cut yX9_cut, .code yX9_cut cX9_cut 2 none, .methodLink RX11 457 yX0_isHeard, .instanceMethod yX0_isHeard, .selects RX0 yX0_isHeard yX0_isHeard, .code yX0_isHeard cX0_isHeard 4 (some .boolean), .methodLink RX0 86 yX9_numberAt, .methodLink RX11 460 yX0_isGood, .instanceMethod yX0_isGood, .selects RX0 yX0_isGood yX0_isGood, .code yX0_isGood cX0_isGood 5 (some .boolean), .fieldLink RX0 35 "LowEnergy$Air" "plain" "LLowEnergy$Row;", .methodLink RX0 90 yX9_become, .methodLink RX0 49 yX9_at, .fieldLink RX0 94 "LowEnergy$Air" "first" "I", .fieldLink RX0 39 "LowEnergy$Air" "payload" "LLowEnergy$Row;", .fieldLink RX11 65 "LowEnergy" "now" "I", .methodLink RX11 519 yX11_isNew, .instanceMethod yX11_isNew, .selects RX11 yX11_isNew yX11_isNew, .code yX11_isNew cX11_isNew 3 (some .boolean), .methodLink RX11 537 yX3_currentIsAcknowledged, .instanceMethod yX3_currentIsAcknowledged, .selects RX3 yX3_currentIsAcknowledged yX3_currentIsAcknowledged, .code yX3_currentIsAcknowledged cX3_currentIsAcknowledged 2 none, .fieldLink RX3 33 "LowEnergy$Device" "mail" "LLowEnergy$Mail;", .methodLink RX3 164 yX7_dropCurrent, .fieldLink RX3 77 "LowEnergy$Device" "guard" "LLowEnergy$Guard;", .methodLink RX3 170 yX5_beginComing, .fieldLink RX3 26 "LowEnergy$Device" "link" "LLowEnergy$Link;", .methodLink RX3 167 yX6_giveReason, .methodLink RX11 409 yX11_answer, .static yX11_answer, .code yX11_answer cX11_answer 4 none, .methodLink RX11 232 yX7_post, .instanceMethod yX7_post, .selects RX7 yX7_post yX7_post, .code yX7_post cX7_post 4 none, .methodLink RX11 554 yX10_hearNotice, .instanceMethod yX10_hearNotice, .selects RX10 yX10_hearNotice yX10_hearNotice, .initialized RX10, .code yX10_hearNotice cX10_hearNotice 5 none, .methodLink RX10 76 yX9_two, .methodLink RX10 79 yX4_noteBytes, .methodLink RX10 83 yX9_put, .methodLink RX10 63 yX9_at, .fieldLink RX10 28 "LowEnergy$Server" "linkMtu" "I", .fieldLink RX10 43 "LowEnergy$Server" "waitsForConfirmation" "Z", .methodLink RX10 70 yX4_note, .methodLink RX11 558 yX10_serve, .instanceMethod yX10_serve, .selects RX10 yX10_serve yX10_serve, .code yX10_serve cX10_serve 5 none, .methodLink RX10 105 yX10_agreeOnMtu, .instanceMethod yX10_agreeOnMtu, .selects RX10 yX10_agreeOnMtu yX10_agreeOnMtu, .code yX10_agreeOnMtu cX10_agreeOnMtu 2 none, .fieldLink RX10 24 "LowEnergy$Server" "ownMtu" "I", .methodLink RX10 47 Lib.Math.min.name, .static Lib.Math.min.name, .code Lib.Math.min.name Lib.Math.min.code 2 (some .int), .methodLink RX10 53 Lib.Math.max.name, .methodLink RX10 108 yX9_putNumber, .methodLink RX10 112 yX10_answerRead, .instanceMethod yX10_answerRead, .selects RX10 yX10_answerRead yX10_answerRead, .code yX10_answerRead cX10_answerRead 9 none, .methodLink RX10 97 yX10_refuse, .static yX10_refuse, .code yX10_refuse cX10_refuse 4 none, .methodLink RX10 133 yX9_putPart, .methodLink RX10 137 yX10_faultOfRead, .instanceMethod yX10_faultOfRead, .selects RX10 yX10_faultOfRead yX10_faultOfRead, .code yX10_faultOfRead cX10_faultOfRead 4 (some .int), .fieldLink RX10 56 "LowEnergy$Server" "count" "I", .fieldLink RX10 15 "LowEnergy$Server" "rights" "[I", .methodLink RX10 126 yX10_valueOf, .instanceMethod yX10_valueOf, .selects RX10 yX10_valueOf yX10_valueOf, .code yX10_valueOf cX10_valueOf 2 (some (.object "LowEnergy$Row")), .fieldLink RX10 20 "LowEnergy$Server" "values" "[LLowEnergy$Row;", .methodLink RX10 116 yX10_answerWrite, .instanceMethod yX10_answerWrite, .selects RX10 yX10_answerWrite yX10_answerWrite, .code yX10_answerWrite cX10_answerWrite 6 none, .methodLink RX10 86 yX10_faultOfWrite, .instanceMethod yX10_faultOfWrite, .selects RX10 yX10_faultOfWrite yX10_faultOfWrite, .code yX10_faultOfWrite cX10_faultOfWrite 5 (some .int), .fieldLink RX10 40 "LowEnergy$Server" "partCount" "I", .fieldLink RX10 31 "LowEnergy$Server" "parts" "[LLowEnergy$Row;", .methodLink RX10 130 yX9_clear, .methodLink RX10 90 yX10_overwrite, .instanceMethod yX10_overwrite, .selects RX10 yX10_overwrite yX10_overwrite, .code yX10_overwrite cX10_overwrite 3 none, .methodLink RX10 119 yX10_answerExecute, .instanceMethod yX10_answerExecute, .selects RX10 yX10_answerExecute yX10_answerExecute, .code yX10_answerExecute cX10_answerExecute 6 none, .methodLink RX10 145 yX10_writePart, .instanceMethod yX10_writePart, .selects RX10 yX10_writePart yX10_writePart, .code yX10_writePart cX10_writePart 5 none, .methodLink RX10 148 yX9_write, .instanceMethod yX9_write, .selects RX9 yX9_write yX9_write, .code yX9_write cX9_write 3 none, .methodLink RX9 31 yX9_put, .methodLink RX10 141 yX10_faultOfPart, .instanceMethod yX10_faultOfPart, .selects RX10 yX10_faultOfPart yX10_faultOfPart, .code yX10_faultOfPart cX10_faultOfPart 5 (some .int), .fieldLink RX10 34 "LowEnergy$Server" "sizes" "[I", .methodLink RX10 123 yX10_answerSearch, .instanceMethod yX10_answerSearch, .selects RX10 yX10_answerSearch yX10_answerSearch, .code yX10_answerSearch cX10_answerSearch 8 none, .methodLink RX10 163 yX10_listRows, .instanceMethod yX10_listRows, .selects RX10 yX10_listRows yX10_listRows, .code yX10_listRows cX10_listRows 13 none, .methodLink RX10 170 yX10_endOf, .instanceMethod yX10_endOf, .selects RX10 yX10_endOf yX10_endOf, .code yX10_endOf cX10_endOf 3 (some .int), .fieldLink RX10 11 "LowEnergy$Server" "types" "[I", .methodLink RX10 152 yX10_isGroup, .static yX10_isGroup, .code yX10_isGroup cX10_isGroup 1 (some .boolean), .methodLink RX10 159 yX10_listEqual, .instanceMethod yX10_listEqual, .selects RX10 yX10_listEqual yX10_listEqual, .code yX10_listEqual cX10_listEqual 7 none, .methodLink RX10 166 yX9_isTailOf, .instanceMethod yX9_isTailOf, .selects RX9 yX9_isTailOf yX9_isTailOf, .code yX9_isTailOf cX9_isTailOf 4 (some .boolean), .methodLink RX10 155 yX10_listTypes, .instanceMethod yX10_listTypes, .selects RX10 yX10_listTypes yX10_listTypes, .code yX10_listTypes cX10_listTypes 5 none, .methodLink RX10 93 yX10_isRequest, .static yX10_isRequest, .code yX10_isRequest cX10_isRequest 1 (some .boolean), .methodLink RX10 101 yX10_hasItsSize, .static yX10_hasItsSize, .code yX10_hasItsSize cX10_hasItsSize 2 (some .boolean), .methodLink RX11 78 yX9_clear, .methodLink RX11 550 yX2_goOn, .instanceMethod yX2_goOn, .selects RX2 yX2_goOn yX2_goOn, .initialized RX2, .code yX2_goOn cX2_goOn 6 none, .fieldLink RX2 9 "LowEnergy$Client" "kind" "I", .methodLink RX2 70 yX9_at, .fieldLink RX2 30 "LowEnergy$Client" "askedOp" "I", .methodLink RX2 88 yX2_isWhole, .static yX2_isWhole, .code yX2_isWhole cX2_isWhole 2 (some .boolean), .methodLink RX2 119 yX2_areRows, .static yX2_areRows, .code yX2_areRows cX2_areRows 2 (some .boolean), .methodLink RX2 92 yX9_two, .methodLink RX2 95 yX10_agreeOnMtu, .methodLink RX2 98 yX2_finish, .instanceMethod yX2_finish, .selects RX2 yX2_finish yX2_finish, .code yX2_finish cX2_finish 2 none, .methodLink RX2 110 yX4_note, .methodLink RX2 102 yX2_hearValue, .instanceMethod yX2_hearValue, .selects RX2 yX2_hearValue yX2_hearValue, .code yX2_hearValue cX2_hearValue 5 none, .fieldLink RX2 20 "LowEnergy$Client" "bytes" "LLowEnergy$Row;", .methodLink RX2 66 yX9_putPart, .fieldLink RX2 24 "LowEnergy$Client" "a" "I", .methodLink RX2 123 yX4_noteBytes, .methodLink RX2 106 yX2_ask, .instanceMethod yX2_ask, .selects RX2 yX2_ask yX2_ask, .code yX2_ask cX2_ask 4 none, .methodLink RX2 40 yX9_put, .methodLink RX2 48 yX9_putNumber, .methodLink RX2 52 yX2_putRange, .instanceMethod yX2_putRange, .selects RX2 yX2_putRange yX2_putRange, .code yX2_putRange cX2_putRange 5 none, .methodLink RX2 74 yX2_lastHandle, .instanceMethod yX2_lastHandle, .selects RX2 yX2_lastHandle yX2_lastHandle, .code yX2_lastHandle cX2_lastHandle 1 (some .int), .fieldLink RX2 27 "LowEnergy$Client" "b" "I", .constant RX2 39 (65535), .methodLink RX2 62 yX2_askToWrite, .instanceMethod yX2_askToWrite, .selects RX2 yX2_askToWrite yX2_askToWrite, .code yX2_askToWrite cX2_askToWrite 3 none, .fieldLink RX2 33 "LowEnergy$Client" "done" "I", .methodLink RX2 78 Lib.Math.min.name, .methodLink RX2 116 yX2_hearRows, .instanceMethod yX2_hearRows, .selects RX2 yX2_hearRows yX2_hearRows, .code yX2_hearRows cX2_hearRows 12 none, .methodLink RX2 84 yX2_hearError, .instanceMethod yX2_hearError, .selects RX2 yX2_hearError yX2_hearError, .code yX2_hearError cX2_hearError 4 none, .methodLink RX11 546 yX8_hear, .instanceMethod yX8_hear, .selects RX8 yX8_hear yX8_hear, .initialized RX8, .code yX8_hear cX8_hear 5 none, .methodLink RX8 55 yX9_at, .methodLink RX8 64 yX8_hearRequest, .instanceMethod yX8_hearRequest, .selects RX8 yX8_hearRequest yX8_hearRequest, .code yX8_hearRequest cX8_hearRequest 4 none, .fieldLink RX8 9 "LowEnergy$Pairing" "passkey" "I", .methodLink RX8 39 yX8_keepOffer, .instanceMethod yX8_keepOffer, .selects RX8 yX8_keepOffer yX8_keepOffer, .code yX8_keepOffer cX8_keepOffer 4 none, .fieldLink RX8 19 "LowEnergy$Pairing" "bothMessages" "[I", .methodLink RX8 43 yX8_useKey, .instanceMethod yX8_useKey, .selects RX8 yX8_useKey yX8_useKey, .code yX8_useKey cX8_useKey 3 none, .fieldLink RX8 15 "LowEnergy$Pairing" "temporaryKey" "[I", .methodLink RX8 35 yX8_putOffer, .static yX8_putOffer, .code yX8_putOffer cX8_putOffer 2 none, .methodLink RX8 96 yX9_put, .fieldLink RX8 47 "LowEnergy$Pairing" "step" "I", .methodLink RX8 88 yX8_fail, .instanceMethod yX8_fail, .selects RX8 yX8_fail yX8_fail, .code yX8_fail cX8_fail 4 none, .methodLink RX8 82 yX4_note, .methodLink RX8 68 yX8_drawAndConfirm, .instanceMethod yX8_drawAndConfirm, .selects RX8 yX8_drawAndConfirm yX8_drawAndConfirm, .code yX8_drawAndConfirm cX8_drawAndConfirm 4 none, .methodLink RX8 103 yX8_confirm, .instanceMethod yX8_confirm, .selects RX8 yX8_confirm yX8_confirm, .code yX8_confirm cX8_confirm 8 none, .fieldLink RX8 31 "LowEnergy$Pairing" "cipher" "LLowEnergy$Cipher;", .fieldLink RX8 28 "LowEnergy$Pairing" "made" "[I", .methodLink RX8 107 yX1_encipher, .constantLong RX8 141 (255), .methodLink RX8 138 yX1_loadKey, .methodLink RX8 99 yX9_putBytes, .instanceMethod yX9_putBytes, .selects RX9 yX9_putBytes yX9_putBytes, .code yX9_putBytes cX9_putBytes 3 none, .fieldLink RX8 22 "LowEnergy$Pairing" "random" "[I", .methodLink RX8 121 yX3_drawInto, .methodLink RX8 72 yX8_hearConfirm, .instanceMethod yX8_hearConfirm, .selects RX8 yX8_hearConfirm yX8_hearConfirm, .code yX8_hearConfirm cX8_hearConfirm 4 none, .fieldLink RX8 25 "LowEnergy$Pairing" "kept" "[I", .methodLink RX8 92 yX9_copyTo, .instanceMethod yX9_copyTo, .selects RX9 yX9_copyTo yX9_copyTo, .code yX9_copyTo cX9_copyTo 5 none, .methodLink RX8 75 yX8_hearRandom, .instanceMethod yX8_hearRandom, .selects RX8 yX8_hearRandom yX8_hearRandom, .code yX8_hearRandom cX8_hearRandom 7 none, .methodLink RX8 116 yX5_keepKey, .instanceMethod yX5_keepKey, .selects RX5 yX5_keepKey yX5_keepKey, .code yX5_keepKey cX5_keepKey 3 none, .fieldLink RX5 58 "LowEnergy$Guard" "hasKey" "Z", .fieldLink RX11 9 "LowEnergy" "devices" "[LLowEnergy$Device;", .methodLink RX11 416 yX11_endEvents, .instanceMethod yX11_endEvents, .selects RX11 yX11_endEvents yX11_endEvents, .code yX11_endEvents cX11_endEvents 2 none, .methodLink RX11 483 yX3_hasEventAt, .instanceMethod yX3_hasEventAt, .selects RX3 yX3_hasEventAt yX3_hasEventAt, .code yX3_hasEventAt cX3_hasEventAt 2 (some .boolean), .methodLink RX3 96 yX3_inLink, .instanceMethod yX3_inLink, .selects RX3 yX3_inLink yX3_inLink, .code yX3_inLink cX3_inLink 1 (some .boolean), .fieldLink RX3 93 "LowEnergy$Device" "state" "I", .methodLink RX11 490 yX6_pass, .instanceMethod yX6_pass, .selects RX6 yX6_pass yX6_pass, .code yX6_pass cX6_pass 1 none, .fieldLink RX6 44 "LowEnergy$Link" "anchor" "I", .fieldLink RX6 31 "LowEnergy$Link" "interval" "I", .methodLink RX11 419 yX11_endLinks, .instanceMethod yX11_endLinks, .selects RX11 yX11_endLinks yX11_endLinks, .code yX11_endLinks cX11_endLinks 4 none, .methodLink RX11 496 yX3_disconnect, .instanceMethod yX3_disconnect, .selects RX3 yX3_disconnect yX3_disconnect, .code yX3_disconnect cX3_disconnect 2 none, .methodLink RX3 184 yX6_reset, .instanceMethod yX6_reset, .selects RX6 yX6_reset yX6_reset, .code yX6_reset cX6_reset 1 none, .fieldLink RX6 57 "LowEnergy$Link" "u" "I", .fieldLink RX6 9 "LowEnergy$Link" "channel" "I", .fieldLink RX6 60 "LowEnergy$Link" "heardGood" "Z", .fieldLink RX6 63 "LowEnergy$Link" "sn" "I", .fieldLink RX6 66 "LowEnergy$Link" "nesn" "I", .fieldLink RX6 18 "LowEnergy$Link" "laterReason" "I", .methodLink RX3 187 yX7_reset, .instanceMethod yX7_reset, .selects RX7 yX7_reset yX7_reset, .code yX7_reset cX7_reset 1 none, .methodLink RX3 188 yX5_reset, .instanceMethod yX5_reset, .selects RX5 yX5_reset yX5_reset, .code yX5_reset cX5_reset 1 none, .fieldLink RX5 36 "LowEnergy$Guard" "asked" "Z", .fieldLink RX5 39 "LowEnergy$Guard" "held" "Z", .fieldLink RX5 42 "LowEnergy$Guard" "secure" "Z", .fieldLink RX3 84 "LowEnergy$Device" "pairing" "LLowEnergy$Pairing;", .fieldLink RX3 40 "LowEnergy$Device" "server" "LLowEnergy$Server;", .methodLink RX3 192 yX10_leaveLink, .instanceMethod yX10_leaveLink, .selects RX10 yX10_leaveLink yX10_leaveLink, .code yX10_leaveLink cX10_leaveLink 1 none, .fieldLink RX3 47 "LowEnergy$Device" "client" "LLowEnergy$Client;", .fieldLink RX3 54 "LowEnergy$Device" "diary" "LLowEnergy$Diary;", .methodLink RX3 157 yX4_note, .methodLink RX11 99 yX3_inLink, .methodLink RX11 493 yX6_reasonToEnd, .instanceMethod yX6_reasonToEnd, .selects RX6 yX6_reasonToEnd yX6_reasonToEnd, .code yX6_reasonToEnd cX6_reasonToEnd 3 (some .int), .fieldLink RX6 47 "LowEnergy$Link" "heardAt" "I", .fieldLink RX6 34 "LowEnergy$Link" "timeout" "I", .methodLink RX11 401 yX11_reaches, .instanceMethod yX11_reaches, .selects RX11 yX11_reaches yX11_reaches, .code yX11_reaches cX11_reaches 3 (some .boolean), .methodLink RX11 393 yX0_clear, .instanceMethod yX0_clear, .selects RX0 yX0_clear yX0_clear, .code yX0_clear cX0_clear 1 none, .methodLink RX11 394 yX11_spread, .instanceMethod yX11_spread, .selects RX11 yX11_spread yX11_spread, .code yX11_spread cX11_spread 4 none, .fieldLink RX11 31 "LowEnergy" "outgoing" "LLowEnergy$Row;", .methodLink RX11 426 yX9_putPart, .constant RX11 433 (-1903575338), .constant RX11 434 (5592405), .methodLink RX11 439 yX11_advertisementArrives, .instanceMethod yX11_advertisementArrives, .selects RX11 yX11_advertisementArrives yX11_advertisementArrives, .code yX11_advertisementArrives cX11_advertisementArrives 3 (some .boolean), .methodLink RX11 453 yX11_initiate, .instanceMethod yX11_initiate, .selects RX11 yX11_initiate yX11_initiate, .code yX11_initiate cX11_initiate 5 none, .methodLink RX11 466 yX3_drawNumber, .instanceMethod yX3_drawNumber, .selects RX3 yX3_drawNumber yX3_drawNumber, .code yX3_drawNumber cX3_drawNumber 4 (some .int), .methodLink RX11 475 yX3_enterLink, .instanceMethod yX3_enterLink, .selects RX3 yX3_enterLink yX3_enterLink, .code yX3_enterLink cX3_enterLink 3 none, .methodLink RX3 154 yX6_begin, .instanceMethod yX6_begin, .selects RX6 yX6_begin yX6_begin, .code yX6_begin cX6_begin 2 none, .methodLink RX11 479 yX3_accepts, .instanceMethod yX3_accepts, .selects RX3 yX3_accepts yX3_accepts, .code yX3_accepts cX3_accepts 7 (some .boolean), .methodLink RX3 113 yX9_numberAt, .fieldLink RX3 65 "LowEnergy$Device" "address" "J", .methodLink RX3 130 yX9_two, .methodLink RX3 134 yX9_at, .methodLink RX3 137 yX6_isProper, .static yX6_isProper, .code yX6_isProper cX6_isProper 5 (some .boolean), .methodLink RX3 150 yX6_arrange, .instanceMethod yX6_arrange, .selects RX6 yX6_arrange yX6_arrange, .code yX6_arrange cX6_arrange 6 none, .fieldLink RX6 37 "LowEnergy$Link" "hop" "I", .fieldLink RX6 40 "LowEnergy$Link" "map" "J", .methodLink RX11 446 yX3_report, .instanceMethod yX3_report, .selects RX3 yX3_report yX3_report, .code yX3_report cX3_report 2 none, .fieldLink RX3 110 "LowEnergy$Device" "reports" "I", .fieldLink RX3 117 "LowEnergy$Device" "reportAddress" "J", .fieldLink RX3 20 "LowEnergy$Device" "reportData" "LLowEnergy$Row;", .methodLink RX3 120 yX9_clear, .methodLink RX3 126 yX9_putPart, .methodLink RX11 423 yX3_draw, .methodLink RX11 398 yX11_beginEvents, .instanceMethod yX11_beginEvents, .selects RX11 yX11_beginEvents yX11_beginEvents, .code yX11_beginEvents cX11_beginEvents 2 none, .methodLink RX11 487 yX6_hopOn, .instanceMethod yX6_hopOn, .selects RX6 yX6_hopOn yX6_hopOn, .code yX6_hopOn cX6_hopOn 1 none, .methodLink RX6 84 yX6_channelFor, .static yX6_channelFor, .code yX6_channelFor cX6_channelFor 6 (some .int), .classLink RX11 388 tIA, .initialized tIA] : List Cond) ++ (wsX70 ++ (wsX60 ++ (wsX110 ++ (wsX30 ++ (wsX00 ++ (wsX90 ++ (wsX50 ++ (wsX10 ++ (wsX40 ++ (wsX100 ++ (wsX20 ++ (wsX80 ++ (wsE00 ++ ([])))))))))))))))
theorem hi_Low_tickY_X7 : ∀ x ∈ u_ws RX7 TX7 16, x ∈ wp_Low_tickY := fun _ h => List.mem_cons_of_mem _ (List.mem_append_right _ (List.mem_append_left _ h))
theorem hi_Low_tickY_X6 : ∀ x ∈ u_ws RX6 TX6 20, x ∈ wp_Low_tickY := fun _ h => List.mem_cons_of_mem _ (List.mem_append_right _ (List.mem_append_right _ (List.mem_append_left _ h)))
theorem hi_Low_tickY_X11 : ∀ x ∈ u_ws RX11 TX11 5, x ∈ wp_Low_tickY := fun _ h => List.mem_cons_of_mem _ (List.mem_append_right _ (List.mem_append_right _ (List.mem_append_right _ (List.mem_append_left _ h))))
theorem hi_Low_tickY_X3 : ∀ x ∈ u_ws RX3 TX3 19, x ∈ wp_Low_tickY := fun _ h => List.mem_cons_of_mem _ (List.mem_append_right _ (List.mem_append_right _ (List.mem_append_right _ (List.mem_append_right _ (List.mem_append_left _ h)))))
theorem hi_Low_tickY_X0 : ∀ x ∈ u_ws RX0 TX0 10, x ∈ wp_Low_tickY := fun _ h => List.mem_cons_of_mem _ (List.mem_append_right _ (List.mem_append_right _ (List.mem_append_right _ (List.mem_append_right _ (List.mem_append_right _ (List.mem_append_left _ h))))))
theorem hi_Low_tickY_X9 : ∀ x ∈ u_ws RX9 TX9 2, x ∈ wp_Low_tickY := fun _ h => List.mem_cons_of_mem _ (List.mem_append_right _ (List.mem_append_right _ (List.mem_append_right _ (List.mem_append_right _ (List.mem_append_right _ (List.mem_append_right _ (List.mem_append_left _ h)))))))
theorem hi_Low_tickY_X5 : ∀ x ∈ u_ws RX5 TX5 16, x ∈ wp_Low_tickY := fun _ h => List.mem_cons_of_mem _ (List.mem_append_right _ (List.mem_append_right _ (List.mem_append_right _ (List.mem_append_right _ (List.mem_append_right _ (List.mem_append_right _ (List.mem_append_right _ (List.mem_append_left _ h))))))))
theorem hi_Low_tickY_X1 : ∀ x ∈ u_ws RX1 TX1 2, x ∈ wp_Low_tickY := fun _ h => List.mem_cons_of_mem _ (List.mem_append_right _ (List.mem_append_right _ (List.mem_append_right _ (List.mem_append_right _ (List.mem_append_right _ (List.mem_append_right _ (List.mem_append_right _ (List.mem_append_right _ (List.mem_append_left _ h)))))))))
theorem hi_Low_tickY_X4 : ∀ x ∈ u_ws RX4 TX4 6, x ∈ wp_Low_tickY := fun _ h => List.mem_cons_of_mem _ (List.mem_append_right _ (List.mem_append_right _ (List.mem_append_right _ (List.mem_append_right _ (List.mem_append_right _ (List.mem_append_right _ (List.mem_append_right _ (List.mem_append_right _ (List.mem_append_right _ (List.mem_append_left _ h))))))))))
theorem hi_Low_tickY_X10 : ∀ x ∈ u_ws RX10 TX10 10, x ∈ wp_Low_tickY := fun _ h => List.mem_cons_of_mem _ (List.mem_append_right _ (List.mem_append_right _ (List.mem_append_right _ (List.mem_append_right _ (List.mem_append_right _ (List.mem_append_right _ (List.mem_append_right _ (List.mem_append_right _ (List.mem_append_right _ (List.mem_append_right _ (List.mem_append_left _ h)))))))))))
theorem hi_Low_tickY_X2 : ∀ x ∈ u_ws RX2 TX2 6, x ∈ wp_Low_tickY := fun _ h => List.mem_cons_of_mem _ (List.mem_append_right _ (List.mem_append_right _ (List.mem_append_right _ (List.mem_append_right _ (List.mem_append_right _ (List.mem_append_right _ (List.mem_append_right _ (List.mem_append_right _ (List.mem_append_right _ (List.mem_append_right _ (List.mem_append_right _ (List.mem_append_left _ h))))))))))))
theorem hi_Low_tickY_X8 : ∀ x ∈ u_ws RX8 TX8 8, x ∈ wp_Low_tickY := fun _ h => List.mem_cons_of_mem _ (List.mem_append_right _ (List.mem_append_right _ (List.mem_append_right _ (List.mem_append_right _ (List.mem_append_right _ (List.mem_append_right _ (List.mem_append_right _ (List.mem_append_right _ (List.mem_append_right _ (List.mem_append_right _ (List.mem_append_right _ (List.mem_append_right _ (List.mem_append_left _ h)))))))))))))
theorem hi_Low_tickY_E0 : ∀ x ∈ wsE00, x ∈ wp_Low_tickY := fun _ h => List.mem_cons_of_mem _ (List.mem_append_right _ (List.mem_append_right _ (List.mem_append_right _ (List.mem_append_right _ (List.mem_append_right _ (List.mem_append_right _ (List.mem_append_right _ (List.mem_append_right _ (List.mem_append_right _ (List.mem_append_right _ (List.mem_append_right _ (List.mem_append_right _ (List.mem_append_right _ (List.mem_append_left _ h))))))))))))))
set_option maxRecDepth 100000 in
theorem gd_Low_tickY_Low_sendPacket_413 : GoodIn wp_Low_tickY (wsV RX11 413 RX11 yX11_sendPacket wp_Low_sendPacket) := goodIn_app (goodIn_r _ [1, 2, 3, 4] rfl rfl) (goodIn_ca (goodIn_r _ [5, 6, 7, 8, 9, 10, 11, 12, 13, 14, 15, 16, 17, 18, 19, 20, 21, 22, 23, 24, 25, 26, 27, 28, 29, 30, 31, 32, 33, 34, 35, 36, 37, 38, 39, 40, 41, 42, 43, 44, 45, 46, 47, 48, 49, 50, 51, 52, 53, 54, 55, 56, 57, 58, 59, 60, 61, 62, 63, 64, 65, 66, 67, 68, 69, 70, 71, 72, 73, 74, 75, 76, 77, 78, 79, 80, 81, 82, 83, 84, 85, 86, 87, 88, 89, 90, 91, 92, 93, 94, 95, 96, 97, 98, 99, 100, 101, 102, 103, 104, 105, 106, 107, 108, 109, 110, 111, 112, 113, 114, 115, 116, 117, 118, 119, 120, 121, 122, 123, 124, 125, 126, 127, 128, 129, 130, 131, 132, 133, 134, 135, 136] rfl rfl) (goodIn_app (goodIn_cls hi_Low_tickY_X7 gw_X7) (goodIn_app (goodIn_cls hi_Low_tickY_X6 gw_X6) (goodIn_app (goodIn_cls hi_Low_tickY_X11 gw_X11) (goodIn_app (goodIn_cls hi_Low_tickY_X3 gw_X3) (goodIn_app (goodIn_cls hi_Low_tickY_X0 gw_X0) (goodIn_app (goodIn_cls hi_Low_tickY_X9 gw_X9) (goodIn_app (goodIn_cls hi_Low_tickY_X5 gw_X5) (goodIn_app (goodIn_cls hi_Low_tickY_X1 gw_X1) (goodIn_nil))))))))))
set_option maxRecDepth 100000 in
theorem gd_Low_tickY_Low_bringsLetter_405 : GoodIn wp_Low_tickY (wsV RX11 405 RX11 yX11_bringsLetter wp_Low_bringsLetter) := goodIn_app (goodIn_r _ [137, 138, 139, 4] rfl rfl) (goodIn_ca (goodIn_r _ [140, 6, 141, 142, 143, 109, 144, 145, 146, 147, 148, 149, 19, 150, 21, 26, 128, 33, 34, 35, 36, 37, 38, 39, 151, 152, 117, 17, 18, 20, 153, 154, 155, 156, 120, 157, 158, 4, 159, 160, 161, 162, 163, 164, 29, 30, 31, 165, 119, 129, 130, 166, 167, 168, 169, 170, 171, 172, 173, 174, 175, 176, 177, 178, 179, 180, 181, 182, 183, 184, 185, 186, 187, 188, 189, 190, 61, 191, 85, 86, 87, 88, 93, 192, 193, 194, 195, 196, 197, 198, 199, 200, 201, 202, 203, 204, 205, 206, 207, 66, 208, 209, 210, 211, 67, 212, 69, 70, 71, 72, 73, 74, 75, 68, 80, 81, 82, 83, 84, 213, 214, 215, 216, 217, 218, 63, 219, 220, 221, 222, 223, 224, 225, 226, 227, 228, 229, 230, 231, 232, 233, 234, 235, 236, 103, 237, 238, 101, 102, 104, 105, 239, 240, 241, 242, 243, 244, 245, 246, 247, 248, 249, 250, 251, 252, 253, 254, 255, 256, 257, 258, 23, 24, 25, 27, 259, 260, 261, 262, 263, 264, 265, 266, 267, 268, 269, 270, 271, 272, 273, 274, 275, 276, 277, 278, 279, 280, 281, 282, 283, 64, 65, 95, 96, 97, 98, 99, 54, 55, 56, 89, 90, 91, 92, 94, 76, 77, 78, 79, 100, 284, 285, 286, 10, 287, 14, 15, 12, 57, 288, 289, 290, 291, 292, 293, 294, 132, 133, 134, 135, 44, 45, 46, 295, 296, 297, 16, 32, 40, 41, 42, 43, 298, 299, 300, 301, 302, 303, 304, 305, 306, 307, 308, 113, 114, 115, 116, 111, 118, 309, 310, 311, 312] rfl rfl) (goodIn_app (goodIn_cls hi_Low_tickY_X11 gw_X11) (goodIn_app (goodIn_cls hi_Low_tickY_X0 gw_X0) (goodIn_app (goodIn_cls hi_Low_tickY_X3 gw_X3) (goodIn_app (goodIn_cls hi_Low_tickY_X7 gw_X7) (goodIn_app (goodIn_cls hi_Low_tickY_X9 gw_X9) (goodIn_app (goodIn_cls hi_Low_tickY_X5 gw_X5) (goodIn_app (goodIn_cls hi_Low_tickY_X4 gw_X4) (goodIn_app (goodIn_cls hi_Low_tickY_X1 gw_X1) (goodIn_app (goodIn_cls hi_Low_tickY_X6 gw_X6) (goodIn_nil)))))))))))
set_option maxRecDepth 100000 in
theorem gd_Low_tickY_Low_answer_409 : GoodIn wp_Low_tickY (va_wsS RX11 409 yX11_answer wp_Low_answer) := goodIn_app (goodIn_r _ [313, 314, 4] rfl rfl) (goodIn_ca (goodIn_r _ [315, 316, 317, 318, 109, 319, 153, 154, 155, 156, 120, 121, 122, 117, 17, 18, 19, 20, 21, 270, 23, 24, 25, 26, 27, 128, 33, 34, 35, 36, 37, 38, 39, 320, 321, 322, 323, 324, 325, 148, 149, 150, 326, 260, 261, 176, 262, 178, 184, 182, 179, 263, 174, 175, 177, 180, 181, 183, 264, 327, 29, 30, 31, 328, 86, 87, 88, 329, 330, 331, 332, 333, 334, 335, 336, 337, 338, 339, 340, 341, 342, 343, 344, 345, 346, 347, 348, 349, 350, 351, 352, 353, 354, 355, 356, 357, 358, 359, 360, 361, 362, 363, 364, 365, 366, 367, 368, 369, 370, 371, 372, 373, 374, 375, 376, 377, 378, 379, 380, 381, 382, 383, 384, 385, 386, 387, 388, 389, 390, 391, 392, 393, 394, 395, 396, 397, 398, 399, 400, 401, 402, 403, 404, 405, 406, 407, 408, 409, 410, 411, 412, 413, 414, 415, 416, 417, 418, 419, 420, 421, 422, 423, 424, 425, 426, 427, 428, 429, 430, 431, 432, 225, 433, 434, 435, 436, 437, 438, 439, 440, 441, 442, 443, 444, 445, 446, 447, 448, 449, 450, 451, 452, 453, 454, 455, 456, 457, 458, 459, 460, 461, 462, 463, 464, 465, 466, 467, 468, 469, 470, 471, 472, 473, 474, 475, 476, 477, 478, 479, 480, 481, 482, 483, 484, 485, 486, 487, 488, 489, 490, 491, 492, 493, 494, 495, 496, 497, 498, 499, 500, 501, 502, 503, 504, 505, 506, 507, 508, 509, 510, 511, 512, 513, 514, 515, 516, 517, 518, 519, 520, 521, 522, 523, 524, 525, 526, 527, 528, 529, 530, 531, 532, 533, 81, 82, 72, 83, 74, 84, 75, 534, 535, 70, 71, 73, 536, 537, 538, 539, 540, 541, 194, 195, 196, 197, 198, 199, 200, 201, 202, 203, 542, 543, 544, 545, 546, 547, 548, 549, 550, 551, 552, 553, 554, 555, 556, 557, 61, 558, 559, 212] rfl rfl) (goodIn_app (goodIn_cls hi_Low_tickY_X9 gw_X9) (goodIn_app (goodIn_cls hi_Low_tickY_X3 gw_X3) (goodIn_app (goodIn_cls hi_Low_tickY_X7 gw_X7) (goodIn_app (goodIn_cls hi_Low_tickY_X4 gw_X4) (goodIn_app (goodIn_cls hi_Low_tickY_X10 gw_X10) (goodIn_app (goodIn_cls hi_Low_tickY_X5 gw_X5) (goodIn_app (goodIn_cls hi_Low_tickY_X2 gw_X2) (goodIn_app (goodIn_cls hi_Low_tickY_X8 gw_X8) (goodIn_app (goodIn_cls hi_Low_tickY_X1 gw_X1) (goodIn_app (goodIn_cls hi_Low_tickY_X6 gw_X6) (goodIn_nil))))))))))))
set_option maxRecDepth 100000 in
theorem gd_Low_tickY_Low_endEvents_416 : GoodIn wp_Low_tickY (wsV RX11 416 RX11 yX11_endEvents wp_Low_endEvents) := goodIn_app (goodIn_r _ [561, 562, 563, 4] rfl rfl) (goodIn_ca (goodIn_r _ [564, 560, 298, 565, 566, 567, 196, 568, 569, 570, 571, 572, 573, 311, 574, 575, 576, 103, 577, 239, 240, 578, 579] rfl rfl) (goodIn_app (goodIn_cls hi_Low_tickY_X11 gw_X11) (goodIn_app (goodIn_cls hi_Low_tickY_X3 gw_X3) (goodIn_app (goodIn_cls hi_Low_tickY_X6 gw_X6) (goodIn_nil)))))
set_option maxRecDepth 100000 in
theorem gd_Low_tickY_Low_endLinks_419 : GoodIn wp_Low_tickY (wsV RX11 419 RX11 yX11_endLinks wp_Low_endLinks) := goodIn_app (goodIn_r _ [580, 581, 582, 4] rfl rfl) (goodIn_ca (goodIn_r _ [583, 584, 585, 586, 196, 587, 573, 311, 588, 589, 590, 103, 591, 251, 239, 592, 593, 594, 595, 596, 105, 597, 307, 598, 599, 600, 109, 601, 112, 113, 114, 115, 116, 117, 17, 18, 19, 20, 21, 111, 118, 130, 119, 272, 122, 120, 127, 145, 309, 602, 603, 604, 61, 605, 213, 606, 607, 608, 218, 223, 63, 224, 609, 610, 611, 612, 613, 323, 614, 329, 373, 330, 615, 616, 617, 174, 175, 176, 177, 178, 179, 180, 181, 182, 183, 184, 560, 618, 570, 571, 572, 298, 619, 620, 621, 622, 623, 579, 624] rfl rfl) (goodIn_app (goodIn_cls hi_Low_tickY_X3 gw_X3) (goodIn_app (goodIn_cls hi_Low_tickY_X6 gw_X6) (goodIn_app (goodIn_cls hi_Low_tickY_X7 gw_X7) (goodIn_app (goodIn_cls hi_Low_tickY_X9 gw_X9) (goodIn_app (goodIn_cls hi_Low_tickY_X5 gw_X5) (goodIn_app (goodIn_cls hi_Low_tickY_X8 gw_X8) (goodIn_app (goodIn_cls hi_Low_tickY_X10 gw_X10) (goodIn_app (goodIn_cls hi_Low_tickY_X2 gw_X2) (goodIn_app (goodIn_cls hi_Low_tickY_X4 gw_X4) (goodIn_app (goodIn_cls hi_Low_tickY_X11 gw_X11) (goodIn_nil))))))))))))
set_option maxRecDepth 100000 in
theorem gd_Low_tickY_Low_reaches_401 : GoodIn wp_Low_tickY (wsV RX11 401 RX11 yX11_reaches wp_Low_reaches) := goodIn_app (goodIn_r _ [625, 626, 627, 4] rfl rfl) (goodIn_ca (goodIn_r _ [628, 298, 565, 566, 567, 196, 568, 569, 570, 571, 572, 573, 311, 1, 2, 3, 4, 5, 6, 7, 8, 9, 10, 11, 12, 13, 14, 15, 16, 17, 18, 19, 20, 21, 22, 23, 24, 25, 26, 27, 28, 29, 30, 31, 32, 33, 34, 35, 36, 37, 38, 39, 40, 41, 42, 43, 44, 45, 46, 47, 48, 49, 50, 51, 52, 53, 54, 55, 56, 57, 58, 59, 60, 61, 62, 63, 64, 65, 66, 67, 68, 69, 70, 71, 72, 73, 74, 75, 76, 77, 78, 79, 80, 81, 82, 83, 84, 85, 86, 87, 88, 89, 90, 91, 92, 93, 94, 95, 96, 97, 98, 99, 100, 101, 102, 103, 104, 105, 106, 107, 108, 109, 110, 111, 112, 113, 114, 115, 116, 117, 118, 119, 120, 121, 122, 123, 124, 125, 126, 127, 128, 129, 130, 131, 132, 133, 134, 135, 136, 284, 285, 286, 287, 288, 230, 231, 232] rfl rfl) (goodIn_app (goodIn_cls hi_Low_tickY_X3 gw_X3) (goodIn_app (goodIn_cls hi_Low_tickY_X11 gw_X11) (goodIn_app (goodIn_cls hi_Low_tickY_X6 gw_X6) (goodIn_app (goodIn_cls hi_Low_tickY_X7 gw_X7) (goodIn_app (goodIn_cls hi_Low_tickY_X0 gw_X0) (goodIn_app (goodIn_cls hi_Low_tickY_X9 gw_X9) (goodIn_app (goodIn_cls hi_Low_tickY_X5 gw_X5) (goodIn_app (goodIn_cls hi_Low_tickY_X1 gw_X1) (goodIn_nil))))))))))
set_option maxRecDepth 100000 in
theorem gd_Low_tickY_Air_clear_393 : GoodIn wp_Low_tickY (wsV RX11 393 RX0 yX0_clear wp_Air_clear) := goodIn_app (goodIn_r _ [629, 630, 631, 10] rfl rfl) (goodIn_ca (goodIn_r _ [632, 14] rfl rfl) (goodIn_app (goodIn_cls hi_Low_tickY_X0 gw_X0) (goodIn_nil)))
set_option maxRecDepth 100000 in
theorem gd_Low_tickY_Low_spread_394 : GoodIn wp_Low_tickY (wsV RX11 394 RX11 yX11_spread wp_Low_spread) := goodIn_app (goodIn_r _ [633, 634, 635, 4] rfl rfl) (goodIn_ca (goodIn_r _ [636, 637, 432, 17, 18, 19, 20, 21, 258, 23, 24, 25, 26, 27, 638, 33, 34, 35, 36, 37, 38, 39, 6, 639, 640, 7, 8, 9, 10, 11, 12, 13, 14, 15, 16, 22, 28, 29, 30, 31, 32, 40, 41, 42, 43, 44, 45, 46, 47, 48, 49, 50, 51, 52, 53, 54, 55, 56, 57, 641, 642, 643, 4, 644, 298, 284, 285, 286, 287, 288, 230, 231, 232, 289, 290, 291, 292, 293, 294, 132, 133, 134, 135, 295, 86, 87, 88, 296, 297, 229, 645, 646, 647, 648, 649, 650, 651, 196, 652, 198, 199, 200, 201, 202, 203, 653, 654, 655, 656, 573, 311, 657, 658, 659, 103, 660, 579, 578, 623, 616, 617, 174, 175, 176, 177, 178, 179, 180, 181, 182, 183, 184, 166, 661, 662, 663, 664, 665, 666, 667, 148, 149, 150, 668, 669, 670, 671, 241, 242, 243, 244, 245, 246, 247, 248, 249, 250, 672, 673, 674, 675, 624, 676, 677, 678, 679, 680, 681, 682, 683, 684, 685, 686, 687] rfl rfl) (goodIn_app (goodIn_cls hi_Low_tickY_X3 gw_X3) (goodIn_app (goodIn_cls hi_Low_tickY_X11 gw_X11) (goodIn_app (goodIn_cls hi_Low_tickY_X9 gw_X9) (goodIn_app (goodIn_cls hi_Low_tickY_X0 gw_X0) (goodIn_app (goodIn_cls hi_Low_tickY_X6 gw_X6) (goodIn_app (goodIn_cls hi_Low_tickY_X4 gw_X4) (goodIn_nil))))))))
set_option maxRecDepth 100000 in
theorem gd_Low_tickY_Low_beginEvents_398 : GoodIn wp_Low_tickY (wsV RX11 398 RX11 yX11_beginEvents wp_Low_beginEvents) := goodIn_app (goodIn_r _ [688, 689, 690, 4] rfl rfl) (goodIn_ca (goodIn_r _ [691, 560, 298, 565, 566, 567, 196, 568, 569, 570, 571, 572, 573, 311, 692, 693, 694, 103, 695, 592, 676, 677, 696, 697, 698, 244, 245, 246, 247, 248, 249, 250, 593, 251, 239, 257, 256] rfl rfl) (goodIn_app (goodIn_cls hi_Low_tickY_X11 gw_X11) (goodIn_app (goodIn_cls hi_Low_tickY_X3 gw_X3) (goodIn_app (goodIn_cls hi_Low_tickY_X6 gw_X6) (goodIn_nil)))))
set_option maxHeartbeats 4000000 in
set_option maxRecDepth 100000 in
theorem b_Low_tickY {p : Program} {l : Launch} {e : Env} {R : Room} {s : State} {m : MethodId} {args : Array Value} {below : List Frame} {meth : Method} {c : Code} {D : va_G} {K : Nat → ClassId} {A : Nat → Prop} {Q : State → Prop} {τ : Nat → Option Ty} {dom : List Nat} {zb zL : Nat} {zx : Nat → Int32} {zs : Nat → Nat} (hR : 7 ≤ R.frames ∧ 162 ≤ R.locals) (B : Bx p s m args c cX11_tick 7 RX11 wp_Low_tickY D (tysA K) A) (Z : Sk τ dom) (hz : ZL zb zL zx zs A s s.heap) (h : Nat) (x1 : Int) (t_h : τ h = some (41, 0, 0)) (r_x1 : -2147483648 ≤ x1 ∧ x1 ≤ 2147483647) (σ0 : Nat → va_E) (G0 : Good K τ σ0) (hend : ∀ (σ' : Nat → va_E) (z : Int) (lv : List (Nat × Value)) (pc : Nat), Good K τ σ' → Fr τ [(30, 0), (33, 0), (1, 2), (2, 2), (1, 3), (2, 3), (4, 24), (3, 20), (3, 25), (1, 4), (2, 4), (1, 5), (2, 5), (36, 0), (3, 23), (3, 22), (1, 16), (34, 0), (1, 7), (2, 7), (37, 0), (2, 31), (3, 44), (2, 32), (3, 45), (35, 0), (1, 11), (2, 11), (1, 12), (2, 12), (3, 41), (3, 43), (1, 9), (2, 9), (3, 42), (2, 16), (1, 8), (40, 0), (32, 0), (2, 15), (1, 15), (2, 8), (2, 33), (3, 46), (38, 0), (2, 34), (2, 35), (3, 47), (3, 40), (1, 13), (2, 13), (1, 14), (2, 14), (3, 28), (1, 10), (2, 10), (41, 0)] σ0 σ' → (-2147483648 ≤ z ∧ z ≤ 2147483647) → decode cX11_tick pc = .ok (.ireturn, 1) → V p l e R s m args below meth c 7 D A Q (0, 0) (fd dom σ') lv pc [.int (iI z)]) (hx : ∀ (σ' : Nat → va_E) (lv : List (Nat × Value)), Good K τ σ' → Fr τ [(30, 0), (33, 0), (1, 2), (2, 2), (1, 3), (2, 3), (4, 24), (3, 20), (3, 25), (1, 4), (2, 4), (1, 5), (2, 5), (36, 0), (3, 23), (3, 22), (1, 16), (34, 0), (1, 7), (2, 7), (37, 0), (2, 31), (3, 44), (2, 32), (3, 45), (35, 0), (1, 11), (2, 11), (1, 12), (2, 12), (3, 41), (3, 43), (1, 9), (2, 9), (3, 42), (2, 16), (1, 8), (40, 0), (32, 0), (2, 15), (1, 15), (2, 8), (2, 33), (3, 46), (38, 0), (2, 34), (2, 35), (3, 47), (3, 40), (1, 13), (2, 13), (1, 14), (2, 14), (3, 28), (1, 10), (2, 10), (41, 0)] σ0 σ' → V p l e R s m args below meth c 7 D A Q (0, 0) (fd dom σ') lv 12 []) : V p l e R s m args below meth c 7 D A Q (0, 0) (fd dom σ0) [(0, .ref h), (1, .int (iI x1))] 0 [] := by
  have F0 : Fr τ [(30, 0), (33, 0), (1, 2), (2, 2), (1, 3), (2, 3), (4, 24), (3, 20), (3, 25), (1, 4), (2, 4), (1, 5), (2, 5), (36, 0), (3, 23), (3, 22), (1, 16), (34, 0), (1, 7), (2, 7), (37, 0), (2, 31), (3, 44), (2, 32), (3, 45), (35, 0), (1, 11), (2, 11), (1, 12), (2, 12), (3, 41), (3, 43), (1, 9), (2, 9), (3, 42), (2, 16), (1, 8), (40, 0), (32, 0), (2, 15), (1, 15), (2, 8), (2, 33), (3, 46), (38, 0), (2, 34), (2, 35), (3, 47), (3, 40), (1, 13), (2, 13), (1, 14), (2, 14), (3, 28), (1, 10), (2, 10), (41, 0)] σ0 σ0 := Fr.rf
  have J27 : ∀ (k27 : Nat) (σ_27 : Nat → va_E) (z27_2 : Int) (z27_3 : Int), (2147483648 - z27_3).toNat ≤ k27 → Good K τ σ_27 → Fr τ [(30, 0), (33, 0), (1, 2), (2, 2), (1, 3), (2, 3), (4, 24), (3, 20), (3, 25), (1, 4), (2, 4), (1, 5), (2, 5), (36, 0), (3, 23), (3, 22), (1, 16), (34, 0), (1, 7), (2, 7), (37, 0), (2, 31), (3, 44), (2, 32), (3, 45), (35, 0), (1, 11), (2, 11), (1, 12), (2, 12), (3, 41), (3, 43), (1, 9), (2, 9), (3, 42), (2, 16), (1, 8), (40, 0), (32, 0), (2, 15), (1, 15), (2, 8), (2, 33), (3, 46), (38, 0), (2, 34), (2, 35), (3, 47), (3, 40), (1, 13), (2, 13), (1, 14), (2, 14), (3, 28), (1, 10), (2, 10), (41, 0)] σ0 σ_27 → (1 ≤ x1 ∧ x1 ≤ 1000) → (-2147483648 ≤ z27_2 ∧ z27_2 ≤ 2147483647) → (0 ≤ z27_3 ∧ z27_3 ≤ 1000) → V p l e R s m args below meth c 7 D A Q (0, 0) (fd dom σ_27) [(0, .ref h), (1, .int (iI x1)), (2, .int (iI z27_2)), (3, .int (iI z27_3))] 27 [] := by
    intro k27
    induction k27 with
    | zero => intro σ_27 z27_2 z27_3 m27 G_27 F_27 r27_1 r27_2 r27_3; omega
    | succ k27 IH27 =>
      intro σ_27 z27_2 z27_3 m27 G_27 F_27 r27_1 r27_2 r27_3
      have J78 : ∀ (k78 : Nat) (σ_78 : Nat → va_E) (z78_4 : Int), (2147483648 - z78_4).toNat ≤ k78 → Good K τ σ_78 → Fr τ [(30, 0), (33, 0), (1, 2), (2, 2), (1, 3), (2, 3), (4, 24), (3, 20), (3, 25), (1, 4), (2, 4), (1, 5), (2, 5), (36, 0), (3, 23), (3, 22), (1, 16), (34, 0), (1, 7), (2, 7), (37, 0), (2, 31), (3, 44), (2, 32), (3, 45), (35, 0), (1, 11), (2, 11), (1, 12), (2, 12), (3, 41), (3, 43), (1, 9), (2, 9), (3, 42), (2, 16), (1, 8), (40, 0), (32, 0), (2, 15), (1, 15), (2, 8), (2, 33), (3, 46), (38, 0), (2, 34), (2, 35), (3, 47), (3, 40), (1, 13), (2, 13), (1, 14), (2, 14), (3, 28), (1, 10), (2, 10), (41, 0)] σ0 σ_78 → (0 ≤ z27_3 ∧ z27_3 ≤ 999) → (0 ≤ z78_4 ∧ z78_4 ≤ 2) → V p l e R s m args below meth c 7 D A Q (0, 0) (fd dom σ_78) [(0, .ref h), (1, .int (iI x1)), (2, .int (iI z27_2)), (3, .int (iI z27_3)), (4, .int (iI z78_4))] 78 [] := by
        intro k78
        induction k78 with
        | zero => intro σ_78 z78_4 m78 G_78 F_78 r78_3 r78_4; omega
        | succ k78 IH78 =>
          intro σ_78 z78_4 m78 G_78 F_78 r78_3 r78_4
          have J153 : ∀ (σ_153 : Nat → va_E), Good K τ σ_153 → Fr τ [(30, 0), (33, 0), (1, 2), (2, 2), (1, 3), (2, 3), (4, 24), (3, 20), (3, 25), (1, 4), (2, 4), (1, 5), (2, 5), (36, 0), (3, 23), (3, 22), (1, 16), (34, 0), (1, 7), (2, 7), (37, 0), (2, 31), (3, 44), (2, 32), (3, 45), (35, 0), (1, 11), (2, 11), (1, 12), (2, 12), (3, 41), (3, 43), (1, 9), (2, 9), (3, 42), (2, 16), (1, 8), (40, 0), (32, 0), (2, 15), (1, 15), (2, 8), (2, 33), (3, 46), (38, 0), (2, 34), (2, 35), (3, 47), (3, 40), (1, 13), (2, 13), (1, 14), (2, 14), (3, 28), (1, 10), (2, 10), (41, 0)] σ0 σ_153 → (0 ≤ z78_4 ∧ z78_4 ≤ 1) → V p l e R s m args below meth c 7 D A Q (0, 0) (fd dom σ_153) [(0, .ref h), (1, .int (iI x1)), (2, .int (iI z27_2)), (3, .int (iI z27_3)), (4, .int (iI z78_4))] 153 [] := by
            intro σ_153 G_153 F_153 r153_4
            refine v_iinc B (k := 4) (v := iI (z78_4 + 1)) (lv' := [(4, .int (iI (z78_4 + 1))), (0, .ref h), (1, .int (iI x1)), (2, .int (iI z27_2)), (3, .int (iI z27_3))]) dX11_tick_153 rfl ((iI_add _ _).trans (congrArg iI (by omega))) (by decide +kernel) rfl ?_
            refine v_goto B (tgt := 78) dX11_tick_156 (by decide +kernel) ?_
            refine v_lv [1, 2, 3, 4, 0] rfl ?_
            exact IH78 σ_153 (z78_4 + 1) (by omega) G_153 F_153 ⟨by omega, by omega⟩ ⟨by omega, by omega⟩
          have J133 : ∀ (σ_133 : Nat → va_E) (a133_5 : Nat) (a133_6 : Nat), Good K τ σ_133 → Fr τ [(30, 0), (33, 0), (1, 2), (2, 2), (1, 3), (2, 3), (4, 24), (3, 20), (3, 25), (1, 4), (2, 4), (1, 5), (2, 5), (36, 0), (3, 23), (3, 22), (1, 16), (34, 0), (1, 7), (2, 7), (37, 0), (2, 31), (3, 44), (2, 32), (3, 45), (35, 0), (1, 11), (2, 11), (1, 12), (2, 12), (3, 41), (3, 43), (1, 9), (2, 9), (3, 42), (2, 16), (1, 8), (40, 0), (32, 0), (2, 15), (1, 15), (2, 8), (2, 33), (3, 46), (38, 0), (2, 34), (2, 35), (3, 47), (3, 40), (1, 13), (2, 13), (1, 14), (2, 14), (3, 28), (1, 10), (2, 10), (41, 0)] σ0 σ_133 → (0 ≤ z78_4 ∧ z78_4 ≤ 1) → (τ a133_5 = some (33, 0, 0)) → (τ a133_6 = some (33, 0, 0)) → V p l e R s m args below meth c 7 D A Q (0, 0) (fd dom σ_133) [(0, .ref h), (1, .int (iI x1)), (2, .int (iI z27_2)), (3, .int (iI z27_3)), (4, .int (iI z78_4)), (5, .ref a133_5), (6, .ref a133_6)] 133 [] := by
            intro σ_133 a133_5 a133_6 G_133 F_133 r133_4 t133_5 t133_6
            refine v_aload_n B dX11_tick_133 rfl rfl ?_
            refine v_aload B dX11_tick_134 rfl ?_
            refine u_callVv B Z hz (n := 1) (As := [.ref a133_6]) (rest := []) (c_Low_sendPacket l D K Z _ _ _ _ h a133_6 t_h t133_6 σ_133 G_133) gd_Low_tickY_Low_sendPacket_413 rfl rfl rfl (by decide +kernel) ⟨Nat.le_trans (by decide +kernel) hR.1, Nat.le_trans (by decide +kernel) hR.2⟩ t_h (cls_Low G_133 t_h) rfl rfl rfl rfl (Nat.le_of_ble_eq_true rfl) dX11_tick_136 ⟨Nat.zero_le _, Nat.zero_le _⟩ (fun σ1 p2 => ?_)
            obtain ⟨G4, F5⟩ := p2
            have F6 := F_133.call F5 (by first | rfl | simp)
            refine v_aload_n B dX11_tick_139 rfl rfl ?_
            refine v_aload B dX11_tick_140 rfl ?_
            refine u_callVi B Z hz (n := 1) (As := [.ref a133_5]) (rest := []) (c_Low_bringsLetter l D K Z _ _ _ _ h a133_5 t_h t133_5 σ1 G4) gd_Low_tickY_Low_bringsLetter_405 rfl rfl rfl (by decide +kernel) ⟨Nat.le_trans (by decide +kernel) hR.1, Nat.le_trans (by decide +kernel) hR.2⟩ t_h (cls_Low G4 t_h) rfl rfl rfl rfl (Nat.le_of_ble_eq_true rfl) dX11_tick_142 ⟨Nat.zero_le _, Nat.zero_le _⟩ (fun v9 σ7 p8 => ?_)
            obtain ⟨G10, F11, z13, e14, r15⟩ := p8
            subst e14
            have F12 := F6.call F11 (by first | rfl | simp)
            refine u_if_eq B (tgt := 153) (by omega) dX11_tick_145 (by decide +kernel) (fun c16 => ?_) (fun c16 => ?_)
            · refine v_lv [0, 1, 2, 3, 4] rfl ?_
              exact J153 σ7 G10 F12 ⟨by omega, by omega⟩
            · refine v_aload B dX11_tick_148 rfl ?_
              refine u_callSv B Z hz (n := 1) (As := [.ref a133_5]) (rest := []) (c_Low_answer l D K Z _ _ _ _ a133_5 t133_5 σ7 G10) gd_Low_tickY_Low_answer_409 rfl rfl rfl (by decide +kernel) ⟨Nat.le_trans (by decide +kernel) hR.1, Nat.le_trans (by decide +kernel) hR.2⟩ rfl rfl (Nat.le_of_ble_eq_true rfl) dX11_tick_150 ⟨Nat.zero_le _, Nat.zero_le _⟩ (fun σ17 p18 => ?_)
              obtain ⟨G20, F21⟩ := p18
              have F22 := F12.call F21 (by first | rfl | simp)
              refine v_lv [0, 1, 2, 3, 4] rfl ?_
              exact J153 σ17 G20 F22 ⟨by omega, by omega⟩
          refine v_iload B dX11_tick_78 rfl ?_
          refine v_aload_n B dX11_tick_80 rfl rfl ?_
          obtain ⟨a23, a24, a25, a26, z27, h28, t29, t30, t31, t32, r33⟩ : okLow τ (σ_78 h) := G_78 h _ t_h
          refine u_get B Z (C := RX11) (T := TX11) (N := 5) (ci := 11) hi_Low_tickY_X11 t_h h28 rfl 0 (by decide +kernel) (List.mem_of_getElem? (i := 560) rfl) rfl dX11_tick_81 ?_
          obtain ⟨f34, h35, e36⟩ : okDV K τ 2 (σ_78 a23) := G_78 a23 _ t29
          refine u_alen B Z (t0 := 5) (v := 2) t29 h35 rfl (by first | rfl | omega) dX11_tick_84 ?_
          refine u_icmp_ge B (tgt := 159) (by omega) (by omega) dX11_tick_85 (by decide +kernel) (fun c37 => ?_) (fun c37 => ?_)
          · refine v_aload_n B dX11_tick_159 rfl rfl ?_
            refine u_callVv B Z hz (n := 0) (As := []) (rest := []) (c_Low_endEvents l D K Z _ _ _ _ h t_h σ_78 G_78) gd_Low_tickY_Low_endEvents_416 rfl rfl rfl (by decide +kernel) ⟨Nat.le_trans (by decide +kernel) hR.1, Nat.le_trans (by decide +kernel) hR.2⟩ t_h (cls_Low G_78 t_h) rfl rfl rfl rfl (Nat.le_of_ble_eq_true rfl) dX11_tick_160 ⟨Nat.zero_le _, Nat.zero_le _⟩ (fun σ38 p39 => ?_)
            obtain ⟨G41, F42⟩ := p39
            have F43 := F_78.call F42 (by first | rfl | simp)
            have h44 := (F42 h _ t_h (by first | rfl | simp)).trans h28
            have h45 := (F42 a23 _ t29 (by first | rfl | simp)).trans h35
            refine v_aload_n B dX11_tick_163 rfl rfl ?_
            refine u_callVv B Z hz (n := 0) (As := []) (rest := []) (c_Low_endLinks l D K Z _ _ _ _ h t_h σ38 G41) gd_Low_tickY_Low_endLinks_419 rfl rfl rfl (by decide +kernel) ⟨Nat.le_trans (by decide +kernel) hR.1, Nat.le_trans (by decide +kernel) hR.2⟩ t_h (cls_Low G41 t_h) rfl rfl rfl rfl (Nat.le_of_ble_eq_true rfl) dX11_tick_164 ⟨Nat.zero_le _, Nat.zero_le _⟩ (fun σ46 p47 => ?_)
            obtain ⟨G49, F50⟩ := p47
            have F51 := F43.call F50 (by first | rfl | simp)
            have h52 := (F50 h _ t_h (by first | rfl | simp)).trans h44
            have h53 := (F50 a23 _ t29 (by first | rfl | simp)).trans h45
            refine v_iload_n B dX11_tick_167 rfl rfl ?_
            refine v_aload_n B dX11_tick_168 rfl rfl ?_
            refine u_get B Z (C := RX11) (T := TX11) (N := 5) (ci := 11) hi_Low_tickY_X11 t_h h52 rfl 1 (by decide +kernel) (List.mem_of_getElem? (i := 6) rfl) rfl dX11_tick_169 ?_
            obtain ⟨a54, a55, a56, a57, a58, a59, a60, z61, z62, z63, h64, t65, t66, t67, t68, t69, t70, t71, r72, r73, r74⟩ : okAir τ (σ46 a24) := G49 a24 _ t30
            refine u_getN B Z (C := RX0) (T := TX0) (N := 10) (ci := 0) hi_Low_tickY_X0 t30 h64 rfl 8 (by decide +kernel) (List.mem_of_getElem? (i := 52) rfl) rfl dX11_tick_172 ?_
            obtain ⟨z75, e76, r77⟩ := iI_any (iI z27_2 + iI z62)
            refine v_iadd B (v := iI z75) dX11_tick_175 e76 ?_
            refine v_istore_n B (lv' := [(2, .int (iI z75)), (0, .ref h), (1, .int (iI x1)), (3, .int (iI z27_3)), (4, .int (iI z78_4))]) dX11_tick_176 rfl (by decide +kernel) rfl ?_
            refine v_aload_n B dX11_tick_177 rfl rfl ?_
            refine v_dup B dX11_tick_178 rfl ?_
            refine u_get B Z (C := RX11) (T := TX11) (N := 5) (ci := 11) hi_Low_tickY_X11 t_h h52 rfl 4 (by decide +kernel) (List.mem_of_getElem? (i := 298) rfl) rfl dX11_tick_179 ?_
            refine v_iconst B (v := iI 1) dX11_tick_182 rfl ?_
            obtain ⟨z78, e79, r80⟩ := iI_any (iI z27 + iI 1)
            refine v_iadd B (v := iI z78) dX11_tick_183 e79 ?_
            refine u_put B Z (C := RX11) (T := TX11) (N := 5) (ci := 11) hi_Low_tickY_X11 t_h h52 rfl 4 (by decide +kernel) tyX11 tyX11_ok nmX11 (List.mem_of_getElem? (i := 298) rfl) rfl (ty := .int) (tyX11_ok 4 (by decide +kernel)) rfl rfl (Nat.le_of_ble_eq_true rfl) (fs' := [.ref a23, .ref a24, .ref a25, .ref a26, .int (iI z78)]) rfl dX11_tick_184 (fun σ81 h82 n83 => ?_)
            have G84 := G49.put t_h (⟨a23, a24, a25, a26, z78, h82, t29, t30, t31, t32, ⟨by omega, by omega⟩⟩ : Ok K τ (41, 0, 0) (σ81 h)) n83
            have F85 := F51.put t_h (by simp) n83
            have h86 := (n83 a23 (ne_ty t29 t_h (by simp))).trans h53
            have h87 := (n83 a24 (ne_ty t30 t_h (by simp))).trans h64
            refine v_iinc B (k := 3) (v := iI (z27_3 + 1)) (lv' := [(3, .int (iI (z27_3 + 1))), (2, .int (iI z75)), (0, .ref h), (1, .int (iI x1)), (4, .int (iI z78_4))]) dX11_tick_187 rfl ((iI_add _ _).trans (congrArg iI (by omega))) (by decide +kernel) rfl ?_
            refine v_goto B (tgt := 27) dX11_tick_190 (by decide +kernel) ?_
            refine v_lv [2, 3, 1, 0] rfl ?_
            exact IH27 σ81 z75 (z27_3 + 1) (by omega) G84 F85 ⟨by omega, by omega⟩ ⟨by omega, by omega⟩ ⟨by omega, by omega⟩
          · refine v_aload_n B dX11_tick_88 rfl rfl ?_
            refine u_get B Z (C := RX11) (T := TX11) (N := 5) (ci := 11) hi_Low_tickY_X11 t_h h28 rfl 0 (by decide +kernel) (List.mem_of_getElem? (i := 560) rfl) rfl dX11_tick_89 ?_
            refine v_iload B dX11_tick_92 rfl ?_
            obtain ⟨a88, e89, t90⟩ := e36 (z78_4 : Int).toNat (by omega)
            refine u_aald B Z (t0 := 5) (v := .ref a88) t29 h35 rfl (by omega) (by rw [e89]; rfl) dX11_tick_94 ?_
            refine v_astore B (lv' := [(5, .ref a88), (0, .ref h), (1, .int (iI x1)), (2, .int (iI z27_2)), (3, .int (iI z27_3)), (4, .int (iI z78_4))]) dX11_tick_95 (by decide +kernel) rfl ?_
            refine v_aload_n B dX11_tick_97 rfl rfl ?_
            refine u_get B Z (C := RX11) (T := TX11) (N := 5) (ci := 11) hi_Low_tickY_X11 t_h h28 rfl 0 (by decide +kernel) (List.mem_of_getElem? (i := 560) rfl) rfl dX11_tick_98 ?_
            refine v_iconst B (v := iI 1) dX11_tick_101 rfl ?_
            refine v_iload B dX11_tick_102 rfl ?_
            refine v_isub B (v := iI ((-1) * z78_4 + 1)) dX11_tick_104 ((iI_sub _ _).trans (congrArg iI (by omega))) ?_
            obtain ⟨a91, e92, t93⟩ := e36 (((-1) * z78_4 + 1) : Int).toNat (by omega)
            refine u_aald B Z (t0 := 5) (v := .ref a91) t29 h35 rfl (by omega) (by rw [e92]; rfl) dX11_tick_105 ?_
            refine v_astore B (lv' := [(6, .ref a91), (5, .ref a88), (0, .ref h), (1, .int (iI x1)), (2, .int (iI z27_2)), (3, .int (iI z27_3)), (4, .int (iI z78_4))]) dX11_tick_106 (by decide +kernel) rfl ?_
            refine v_aload_n B dX11_tick_108 rfl rfl ?_
            refine v_aload B dX11_tick_109 rfl ?_
            refine v_aload B dX11_tick_111 rfl ?_
            refine u_callVi B Z hz (n := 2) (As := [.ref a88, .ref a91]) (rest := []) (c_Low_reaches l D K Z _ _ _ _ h a88 a91 t_h t90 t93 σ_78 G_78) gd_Low_tickY_Low_reaches_401 rfl rfl rfl (by decide +kernel) ⟨Nat.le_trans (by decide +kernel) hR.1, Nat.le_trans (by decide +kernel) hR.2⟩ t_h (cls_Low G_78 t_h) rfl rfl rfl rfl (Nat.le_of_ble_eq_true rfl) dX11_tick_113 ⟨Nat.zero_le _, Nat.zero_le _⟩ (fun v96 σ94 p95 => ?_)
            obtain ⟨G97, F98, z100, e101, r102⟩ := p95
            subst e101
            have F99 := F_78.call F98 (by first | rfl | simp)
            have h103 := (F98 h _ t_h (by first | rfl | simp)).trans h28
            have h104 := (F98 a23 _ t29 (by first | rfl | simp)).trans h35
            refine u_if_eq B (tgt := 153) (by omega) dX11_tick_116 (by decide +kernel) (fun c105 => ?_) (fun c105 => ?_)
            · refine v_lv [2, 3, 4, 5, 6] rfl ?_
              exact J153 σ94 G97 F99 ⟨by omega, by omega⟩
            · refine v_aload_n B dX11_tick_119 rfl rfl ?_
              refine v_aload B dX11_tick_120 rfl ?_
              refine u_callVi B Z hz (n := 1) (As := [.ref a91]) (rest := []) (c_Low_bringsLetter l D K Z _ _ _ _ h a91 t_h t93 σ94 G97) gd_Low_tickY_Low_bringsLetter_405 rfl rfl rfl (by decide +kernel) ⟨Nat.le_trans (by decide +kernel) hR.1, Nat.le_trans (by decide +kernel) hR.2⟩ t_h (cls_Low G97 t_h) rfl rfl rfl rfl (Nat.le_of_ble_eq_true rfl) dX11_tick_122 ⟨Nat.zero_le _, Nat.zero_le _⟩ (fun v108 σ106 p107 => ?_)
              obtain ⟨G109, F110, z112, e113, r114⟩ := p107
              subst e113
              have F111 := F99.call F110 (by first | rfl | simp)
              have h115 := (F110 h _ t_h (by first | rfl | simp)).trans h103
              have h116 := (F110 a23 _ t29 (by first | rfl | simp)).trans h104
              refine u_if_eq B (tgt := 133) (by omega) dX11_tick_125 (by decide +kernel) (fun c117 => ?_) (fun c117 => ?_)
              · refine v_lv [2, 3, 4, 5, 6, 1, 0] rfl ?_
                exact J133 σ106 a88 a91 G109 F111 ⟨by omega, by omega⟩ t90 t93
              · refine v_aload B dX11_tick_128 rfl ?_
                refine u_callSv B Z hz (n := 1) (As := [.ref a91]) (rest := []) (c_Low_answer l D K Z _ _ _ _ a91 t93 σ106 G109) gd_Low_tickY_Low_answer_409 rfl rfl rfl (by decide +kernel) ⟨Nat.le_trans (by decide +kernel) hR.1, Nat.le_trans (by decide +kernel) hR.2⟩ rfl rfl (Nat.le_of_ble_eq_true rfl) dX11_tick_130 ⟨Nat.zero_le _, Nat.zero_le _⟩ (fun σ118 p119 => ?_)
                obtain ⟨G121, F122⟩ := p119
                have F123 := F111.call F122 (by first | rfl | simp)
                have h124 := (F122 h _ t_h (by first | rfl | simp)).trans h115
                have h125 := (F122 a23 _ t29 (by first | rfl | simp)).trans h116
                refine v_lv [2, 3, 4, 5, 6, 1, 0] rfl ?_
                exact J133 σ118 a88 a91 G121 F123 ⟨by omega, by omega⟩ t90 t93
      refine v_iload_n B dX11_tick_27 rfl rfl ?_
      refine v_iload_n B dX11_tick_28 rfl rfl ?_
      refine u_icmp_ge B (tgt := 193) (by omega) (by omega) dX11_tick_29 (by decide +kernel) (fun c126 => ?_) (fun c126 => ?_)
      · refine v_iload_n B dX11_tick_193 rfl rfl ?_
        exact hend σ_27 z27_2 _ _ G_27 F_27 ⟨by omega, by omega⟩ dX11_tick_194
      · refine v_aload_n B dX11_tick_32 rfl rfl ?_
        obtain ⟨a127, a128, a129, a130, z131, h132, t133, t134, t135, t136, r137⟩ : okLow τ (σ_27 h) := G_27 h _ t_h
        refine u_get B Z (C := RX11) (T := TX11) (N := 5) (ci := 11) hi_Low_tickY_X11 t_h h132 rfl 1 (by decide +kernel) (List.mem_of_getElem? (i := 6) rfl) rfl dX11_tick_33 ?_
        refine u_callVv B Z hz (n := 0) (As := []) (rest := []) (c_Air_clear l D K Z _ _ _ _ a128 t134 σ_27 G_27) gd_Low_tickY_Air_clear_393 rfl rfl rfl (by decide +kernel) ⟨Nat.le_trans (by decide +kernel) hR.1, Nat.le_trans (by decide +kernel) hR.2⟩ t134 (cls_Air G_27 t134) rfl rfl rfl rfl (Nat.le_of_ble_eq_true rfl) dX11_tick_36 ⟨Nat.zero_le _, Nat.zero_le _⟩ (fun σ138 p139 => ?_)
        obtain ⟨G141, F142⟩ := p139
        have F143 := F_27.call F142 (by first | rfl | simp)
        have h144 := (F142 h _ t_h (by first | rfl | simp)).trans h132
        refine v_aload_n B dX11_tick_39 rfl rfl ?_
        refine v_aload_n B dX11_tick_40 rfl rfl ?_
        refine u_get B Z (C := RX11) (T := TX11) (N := 5) (ci := 11) hi_Low_tickY_X11 t_h h144 rfl 0 (by decide +kernel) (List.mem_of_getElem? (i := 560) rfl) rfl dX11_tick_41 ?_
        refine v_iconst B (v := iI 0) dX11_tick_44 rfl ?_
        obtain ⟨f145, h146, e147⟩ : okDV K τ 2 (σ138 a127) := G141 a127 _ t133
        obtain ⟨a148, e149, t150⟩ := e147 (0 : Int).toNat (by omega)
        refine u_aald B Z (t0 := 5) (v := .ref a148) t133 h146 rfl (by omega) (by rw [e149]; rfl) dX11_tick_45 ?_
        refine v_aload_n B dX11_tick_46 rfl rfl ?_
        refine u_get B Z (C := RX11) (T := TX11) (N := 5) (ci := 11) hi_Low_tickY_X11 t_h h144 rfl 0 (by decide +kernel) (List.mem_of_getElem? (i := 560) rfl) rfl dX11_tick_47 ?_
        refine v_iconst B (v := iI 1) dX11_tick_50 rfl ?_
        obtain ⟨a151, e152, t153⟩ := e147 (1 : Int).toNat (by omega)
        refine u_aald B Z (t0 := 5) (v := .ref a151) t133 h146 rfl (by omega) (by rw [e152]; rfl) dX11_tick_51 ?_
        refine u_callVv B Z hz (n := 2) (As := [.ref a148, .ref a151]) (rest := []) (c_Low_spread l D K Z _ _ _ _ h a148 a151 t_h t150 t153 σ138 G141) gd_Low_tickY_Low_spread_394 rfl rfl rfl (by decide +kernel) ⟨Nat.le_trans (by decide +kernel) hR.1, Nat.le_trans (by decide +kernel) hR.2⟩ t_h (cls_Low G141 t_h) rfl rfl rfl rfl (Nat.le_of_ble_eq_true rfl) dX11_tick_52 ⟨Nat.zero_le _, Nat.zero_le _⟩ (fun σ154 p155 => ?_)
        obtain ⟨G157, F158⟩ := p155
        have F159 := F143.call F158 (by first | rfl | simp)
        have h160 := (F158 h _ t_h (by first | rfl | simp)).trans h144
        have h161 := (F158 a127 _ t133 (by first | rfl | simp)).trans h146
        refine v_aload_n B dX11_tick_55 rfl rfl ?_
        refine v_aload_n B dX11_tick_56 rfl rfl ?_
        refine u_get B Z (C := RX11) (T := TX11) (N := 5) (ci := 11) hi_Low_tickY_X11 t_h h160 rfl 0 (by decide +kernel) (List.mem_of_getElem? (i := 560) rfl) rfl dX11_tick_57 ?_
        refine v_iconst B (v := iI 1) dX11_tick_60 rfl ?_
        obtain ⟨a162, e163, t164⟩ := e147 (1 : Int).toNat (by omega)
        refine u_aald B Z (t0 := 5) (v := .ref a162) t133 h161 rfl (by omega) (by rw [e163]; rfl) dX11_tick_61 ?_
        refine v_aload_n B dX11_tick_62 rfl rfl ?_
        refine u_get B Z (C := RX11) (T := TX11) (N := 5) (ci := 11) hi_Low_tickY_X11 t_h h160 rfl 0 (by decide +kernel) (List.mem_of_getElem? (i := 560) rfl) rfl dX11_tick_63 ?_
        refine v_iconst B (v := iI 0) dX11_tick_66 rfl ?_
        obtain ⟨a165, e166, t167⟩ := e147 (0 : Int).toNat (by omega)
        refine u_aald B Z (t0 := 5) (v := .ref a165) t133 h161 rfl (by omega) (by rw [e166]; rfl) dX11_tick_67 ?_
        refine u_callVv B Z hz (n := 2) (As := [.ref a162, .ref a165]) (rest := []) (c_Low_spread l D K Z _ _ _ _ h a162 a165 t_h t164 t167 σ154 G157) gd_Low_tickY_Low_spread_394 rfl rfl rfl (by decide +kernel) ⟨Nat.le_trans (by decide +kernel) hR.1, Nat.le_trans (by decide +kernel) hR.2⟩ t_h (cls_Low G157 t_h) rfl rfl rfl rfl (Nat.le_of_ble_eq_true rfl) dX11_tick_68 ⟨Nat.zero_le _, Nat.zero_le _⟩ (fun σ168 p169 => ?_)
        obtain ⟨G171, F172⟩ := p169
        have F173 := F159.call F172 (by first | rfl | simp)
        have h174 := (F172 h _ t_h (by first | rfl | simp)).trans h160
        have h175 := (F172 a127 _ t133 (by first | rfl | simp)).trans h161
        refine v_aload_n B dX11_tick_71 rfl rfl ?_
        refine u_callVv B Z hz (n := 0) (As := []) (rest := []) (c_Low_beginEvents l D K Z _ _ _ _ h t_h σ168 G171) gd_Low_tickY_Low_beginEvents_398 rfl rfl rfl (by decide +kernel) ⟨Nat.le_trans (by decide +kernel) hR.1, Nat.le_trans (by decide +kernel) hR.2⟩ t_h (cls_Low G171 t_h) rfl rfl rfl rfl (Nat.le_of_ble_eq_true rfl) dX11_tick_72 ⟨Nat.zero_le _, Nat.zero_le _⟩ (fun σ176 p177 => ?_)
        obtain ⟨G179, F180⟩ := p177
        have F181 := F173.call F180 (by first | rfl | simp)
        have h182 := (F180 h _ t_h (by first | rfl | simp)).trans h174
        have h183 := (F180 a127 _ t133 (by first | rfl | simp)).trans h175
        refine v_iconst B (v := iI 0) dX11_tick_75 rfl ?_
        refine v_istore B (lv' := [(4, .int (iI 0)), (0, .ref h), (1, .int (iI x1)), (2, .int (iI z27_2)), (3, .int (iI z27_3))]) dX11_tick_76 (by decide +kernel) rfl ?_
        refine v_lv [1, 2, 3, 4, 0] rfl ?_
        exact J78 _ σ176 0 (Nat.le_refl _) G179 F181 ⟨by omega, by omega⟩ ⟨by omega, by omega⟩
  have J12 : V p l e R s m args below meth c 7 D A Q (0, 0) (fd dom σ0) [] 12 [] := by
    exact hx σ0 _ G0 F0
  refine v_iload_n B dX11_tick_0 rfl rfl ?_
  refine v_iconst B (v := iI 1) dX11_tick_1 rfl ?_
  refine u_icmp_lt B (tgt := 12) (by omega) (by omega) dX11_tick_2 (by decide +kernel) (fun c184 => ?_) (fun c184 => ?_)
  · refine v_lv [] rfl ?_
    exact J12
  · refine v_iload_n B dX11_tick_5 rfl rfl ?_
    refine v_sipush B (v := iI 1000) dX11_tick_6 (by decide +kernel) ?_
    refine u_icmp_le B (tgt := 23) (by omega) (by omega) dX11_tick_9 (by decide +kernel) (fun c185 => ?_) (fun c185 => ?_)
    · refine v_iconst B (v := iI 0) dX11_tick_23 rfl ?_
      refine v_istore_n B (lv' := [(2, .int (iI 0)), (0, .ref h), (1, .int (iI x1))]) dX11_tick_24 rfl (by decide +kernel) rfl ?_
      refine v_iconst B (v := iI 0) dX11_tick_25 rfl ?_
      refine v_istore_n B (lv' := [(3, .int (iI 0)), (2, .int (iI 0)), (0, .ref h), (1, .int (iI x1))]) dX11_tick_26 rfl (by decide +kernel) rfl ?_
      refine v_lv [2, 3, 1, 0] rfl ?_
      exact J27 _ σ0 0 0 (Nat.le_refl _) G0 F0 ⟨by omega, by omega⟩ ⟨by omega, by omega⟩ ⟨by omega, by omega⟩
    · refine v_lv [] rfl ?_
      exact J12
set_option maxRecDepth 100000 in
theorem c_Low_tickY (l : Launch) (hl0 : l.stackTraces = false) (D : va_G) (K : Nat → ClassId) {τ : Nat → Option Ty} {dom : List Nat} (Z : Sk τ dom) (zb zL : Nat) (zx : Nat → Int32) (zs : Nat → Nat) (h : Nat) (x1 : Int) (t_h : τ h = some (41, 0, 0)) (r_x1 : -2147483648 ≤ x1 ∧ x1 ≤ 2147483647) (σ0 : Nat → va_E) (G0 : Good K τ σ0) : MY l yX11_tick wp_Low_tickY ({ frames := 7, cells := 1, slots := 6, locals := 162 }) D (tysA K) [.ref h, .int (iI x1)] (fd dom σ0) zb zL zx zs tIA (fun r σ' => Good K τ σ' ∧ Fr τ [(30, 0), (33, 0), (1, 2), (2, 2), (1, 3), (2, 3), (4, 24), (3, 20), (3, 25), (1, 4), (2, 4), (1, 5), (2, 5), (36, 0), (3, 23), (3, 22), (1, 16), (34, 0), (1, 7), (2, 7), (37, 0), (2, 31), (3, 44), (2, 32), (3, 45), (35, 0), (1, 11), (2, 11), (1, 12), (2, 12), (3, 41), (3, 43), (1, 9), (2, 9), (3, 42), (2, 16), (1, 8), (40, 0), (32, 0), (2, 15), (1, 15), (2, 8), (2, 33), (3, 46), (38, 0), (2, 34), (2, 35), (3, 47), (3, 40), (1, 13), (2, 13), (1, 14), (2, 14), (3, 28), (1, 10), (2, 10), (41, 0)] σ0 σ' ∧ ∃ z : Int, r = iI z ∧ (-2147483648 ≤ z ∧ z ≤ 2147483647)) (fun σ' => Good K τ σ' ∧ Fr τ [(30, 0), (33, 0), (1, 2), (2, 2), (1, 3), (2, 3), (4, 24), (3, 20), (3, 25), (1, 4), (2, 4), (1, 5), (2, 5), (36, 0), (3, 23), (3, 22), (1, 16), (34, 0), (1, 7), (2, 7), (37, 0), (2, 31), (3, 44), (2, 32), (3, 45), (35, 0), (1, 11), (2, 11), (1, 12), (2, 12), (3, 41), (3, 43), (1, 9), (2, 9), (3, 42), (2, 16), (1, 8), (40, 0), (32, 0), (2, 15), (1, 15), (2, 8), (2, 33), (3, 46), (38, 0), (2, 34), (2, 35), (3, 47), (3, 40), (1, 13), (2, 13), (1, 14), (2, 14), (3, 28), (1, 10), (2, 10), (41, 0)] σ0 σ') (fun σ' => fd dom σ') 1 6 := by
  refine my_of (cc := cX11_tick) (maxL := 7) (ret := (some .int)) (by decide +kernel) rfl (Nat.le_of_ble_eq_true rfl) ?_
  intro p e s m below meth c A B hr hlk htb hz
  exact b_Low_tickY ⟨Nat.le_refl _, Nat.le_refl _⟩ B Z hz h x1 t_h r_x1 σ0 G0 (fun σ' z lv pc G F hZ hd => v_iretY B hr hlk σ' ⟨G, F, z, rfl, hZ⟩ rfl (by decide +kernel) (by decide +kernel) hd) (fun σ' lv G F => v_throwSY B hz hl0 htb hlk σ' ⟨G, F⟩ rfl (by decide +kernel) (List.mem_of_getElem? (i := 699) rfl) (List.mem_of_getElem? (i := 700) rfl) hz.2.2.2.2.1 hi_Low_tickY_E0 ng_E0 hz.2.2.2.1.1 (ot_E0 388) dX11_tick_12 dX11_tick_15 dX11_tick_16 dX11_tick_19 dX11_tick_22 (by decide +kernel) (Nat.le_of_ble_eq_true rfl) (by decide +kernel) (by decide +kernel) (by decide +kernel) (by decide +kernel))

def wp_Low_airY : List Cond := .code yX11_air cX11_air 4 (some .int) :: (([.fieldLink RX11 18 "LowEnergy" "sky" "LLowEnergy$Air;", .methodLink RX11 278 yX0_figure, .instanceMethod yX0_figure, .selects RX0 yX0_figure yX0_figure, .initialized RX0, .code yX0_figure cX0_figure 3 (some .int), .fieldLink RX0 42 "LowEnergy$Air" "count" "I", .fieldLink RX0 13 "LowEnergy$Air" "packets" "[LLowEnergy$Row;", .methodLink RX0 49 yX9_at, .instanceMethod yX9_at, .selects RX9 yX9_at yX9_at, .initialized RX9, .code yX9_at cX9_at 2 (some .int), .fieldLink RX9 21 "LowEnergy$Row" "size" "I", .fieldLink RX9 15 "LowEnergy$Row" "bytes" "[I", .fieldLink RX0 17 "LowEnergy$Air" "channels" "[I", .classLink RX11 282 tNS, .initialized tNS] : List Cond) ++ (wsX110 ++ (wsX00 ++ (wsX90 ++ (wsE10 ++ ([]))))))
theorem hi_Low_airY_X11 : ∀ x ∈ u_ws RX11 TX11 5, x ∈ wp_Low_airY := fun _ h => List.mem_cons_of_mem _ (List.mem_append_right _ (List.mem_append_left _ h))
theorem hi_Low_airY_X0 : ∀ x ∈ u_ws RX0 TX0 10, x ∈ wp_Low_airY := fun _ h => List.mem_cons_of_mem _ (List.mem_append_right _ (List.mem_append_right _ (List.mem_append_left _ h)))
theorem hi_Low_airY_X9 : ∀ x ∈ u_ws RX9 TX9 2, x ∈ wp_Low_airY := fun _ h => List.mem_cons_of_mem _ (List.mem_append_right _ (List.mem_append_right _ (List.mem_append_right _ (List.mem_append_left _ h))))
theorem hi_Low_airY_E1 : ∀ x ∈ wsE10, x ∈ wp_Low_airY := fun _ h => List.mem_cons_of_mem _ (List.mem_append_right _ (List.mem_append_right _ (List.mem_append_right _ (List.mem_append_right _ (List.mem_append_left _ h)))))
set_option maxRecDepth 100000 in
theorem gd_Low_airY_Air_figure_278 : GoodIn wp_Low_airY (wsV RX11 278 RX0 yX0_figure wp_Air_figure) := goodIn_app (goodIn_r _ [2, 3, 4, 5] rfl rfl) (goodIn_ca (goodIn_r _ [6, 7, 8, 9, 10, 11, 12, 13, 14, 15, 16] rfl rfl) (goodIn_app (goodIn_cls hi_Low_airY_X0 gw_X0) (goodIn_app (goodIn_cls hi_Low_airY_X9 gw_X9) (goodIn_nil))))
set_option maxHeartbeats 4000000 in
set_option maxRecDepth 100000 in
theorem b_Low_airY {p : Program} {l : Launch} {e : Env} {R : Room} {s : State} {m : MethodId} {args : Array Value} {below : List Frame} {meth : Method} {c : Code} {D : va_G} {K : Nat → ClassId} {A : Nat → Prop} {Q : State → Prop} {τ : Nat → Option Ty} {dom : List Nat} {zb zL : Nat} {zx : Nat → Int32} {zs : Nat → Nat} (hR : 6 ≤ R.frames ∧ 82 ≤ R.locals) (B : Bx p s m args c cX11_air 4 RX11 wp_Low_airY D (tysA K) A) (Z : Sk τ dom) (hz : ZL zb zL zx zs A s s.heap) (h : Nat) (x1 : Int) (x2 : Int) (t_h : τ h = some (41, 0, 0)) (r_x1 : -2147483648 ≤ x1 ∧ x1 ≤ 2147483647) (r_x2 : -2147483648 ≤ x2 ∧ x2 ≤ 2147483647) (σ0 : Nat → va_E) (G0 : Good K τ σ0) (hend : ∀ (z : Int) (lv : List (Nat × Value)) (pc : Nat), (-2147483648 ≤ z ∧ z ≤ 2147483647) → decode cX11_air pc = .ok (.ireturn, 1) → V p l e R s m args below meth c 4 D A Q (0, 0) (fd dom σ0) lv pc [.int (iI z)]) (hx : ∀ (lv : List (Nat × Value)), V p l e R s m args below meth c 4 D A Q (0, 0) (fd dom σ0) lv 15 []) : V p l e R s m args below meth c 4 D A Q (0, 0) (fd dom σ0) [(0, .ref h), (1, .int (iI x1)), (2, .int (iI x2))] 0 [] := by
  have F0 : Fr τ [] σ0 σ0 := Fr.rf
  refine v_aload_n B dX11_air_0 rfl rfl ?_
  obtain ⟨a1, a2, a3, a4, z5, h6, t7, t8, t9, t10, r11⟩ : okLow τ (σ0 h) := G0 h _ t_h
  refine u_get B Z (C := RX11) (T := TX11) (N := 5) (ci := 11) hi_Low_airY_X11 t_h h6 rfl 1 (by decide +kernel) (List.mem_of_getElem? (i := 1) rfl) rfl dX11_air_1 ?_
  refine v_iload_n B dX11_air_4 rfl rfl ?_
  refine v_iload_n B dX11_air_5 rfl rfl ?_
  refine u_callVi B Z hz (n := 2) (As := [.int (iI x1), .int (iI x2)]) (rest := []) (c_Air_figure l D K Z _ _ _ _ a2 x1 x2 t8 ⟨by omega, by omega⟩ ⟨by omega, by omega⟩ σ0 G0) gd_Low_airY_Air_figure_278 rfl rfl rfl (by decide +kernel) ⟨Nat.le_trans (by decide +kernel) hR.1, Nat.le_trans (by decide +kernel) hR.2⟩ t8 (cls_Air G0 t8) rfl rfl rfl rfl (Nat.le_of_ble_eq_true rfl) dX11_air_6 ⟨Nat.zero_le _, Nat.zero_le _⟩ (fun v14 σ12 p13 => ?_)
  obtain ⟨rfl, z18, e19, r20⟩ := p13
  subst e19
  refine v_istore_n B (lv' := [(3, .int (iI z18)), (0, .ref h), (1, .int (iI x1)), (2, .int (iI x2))]) dX11_air_9 rfl (by decide +kernel) rfl ?_
  refine v_iload_n B dX11_air_10 rfl rfl ?_
  refine v_iconst B (v := iI (-1)) dX11_air_11 rfl ?_
  refine u_icmp_ne B (tgt := 26) (by omega) (by omega) dX11_air_12 (by decide +kernel) (fun c21 => ?_) (fun c21 => ?_)
  · refine v_iload_n B dX11_air_26 rfl rfl ?_
    exact hend z18 _ _ ⟨by omega, by omega⟩ dX11_air_27
  · exact hx _
set_option maxRecDepth 100000 in
theorem c_Low_airY (l : Launch) (hl0 : l.stackTraces = false) (D : va_G) (K : Nat → ClassId) {τ : Nat → Option Ty} {dom : List Nat} (Z : Sk τ dom) (zb zL : Nat) (zx : Nat → Int32) (zs : Nat → Nat) (h : Nat) (x1 : Int) (x2 : Int) (t_h : τ h = some (41, 0, 0)) (r_x1 : -2147483648 ≤ x1 ∧ x1 ≤ 2147483647) (r_x2 : -2147483648 ≤ x2 ∧ x2 ≤ 2147483647) (σ0 : Nat → va_E) (G0 : Good K τ σ0) : MY l yX11_air wp_Low_airY ({ frames := 6, cells := 1, slots := 6, locals := 82 }) D (tysA K) [.ref h, .int (iI x1), .int (iI x2)] (fd dom σ0) zb zL zx zs tNS (fun r σ' => σ0 = σ' ∧ ∃ z : Int, r = iI z ∧ (-2147483648 ≤ z ∧ z ≤ 2147483647)) (fun σ' => σ0 = σ') (fun σ' => fd dom σ') 1 6 := by
  refine my_of (cc := cX11_air) (maxL := 4) (ret := (some .int)) (by decide +kernel) rfl (Nat.le_of_ble_eq_true rfl) ?_
  intro p e s m below meth c A B hr hlk htb hz
  exact b_Low_airY ⟨Nat.le_refl _, Nat.le_refl _⟩ B Z hz h x1 x2 t_h r_x1 r_x2 σ0 G0 (fun z lv pc hZ hd => v_iretY B hr hlk σ0 ⟨rfl, z, rfl, hZ⟩ rfl (by decide +kernel) (by decide +kernel) hd) (fun lv => v_throwNY B hz hl0 htb hlk σ0 rfl rfl (List.mem_of_getElem? (i := 17) rfl) (List.mem_of_getElem? (i := 18) rfl) hz.2.2.2.2.2.1 hi_Low_airY_E1 dX11_air_15 dX11_air_18 dX11_air_19 dX11_air_22 dX11_air_25 (by decide +kernel) (Nat.le_of_ble_eq_true rfl) (by decide +kernel) (by decide +kernel) (by decide +kernel) (by decide +kernel))

def wp_Low_valueY : List Cond := .code yX11_value cX11_value 6 (some .int) :: (([.methodLink RX11 52 yX11_find, .instanceMethod yX11_find, .selects RX11 yX11_find yX11_find, .initialized RX11, .code yX11_find cX11_find 2 (some (.object "LowEnergy$Device")), .fieldLink RX11 9 "LowEnergy" "devices" "[LLowEnergy$Device;", .methodLink RX11 134 yX10_valueOf, .instanceMethod yX10_valueOf, .selects RX10 yX10_valueOf yX10_valueOf, .initialized RX10, .code yX10_valueOf cX10_valueOf 2 (some (.object "LowEnergy$Row")), .fieldLink RX10 56 "LowEnergy$Server" "count" "I", .fieldLink RX10 20 "LowEnergy$Server" "values" "[LLowEnergy$Row;", .methodLink RX11 291 yX9_at, .instanceMethod yX9_at, .selects RX9 yX9_at yX9_at, .initialized RX9, .code yX9_at cX9_at 2 (some .int), .fieldLink RX9 21 "LowEnergy$Row" "size" "I", .fieldLink RX9 15 "LowEnergy$Row" "bytes" "[I", .classLink RX11 282 tNS, .initialized tNS] : List Cond) ++ (wsX110 ++ (wsX30 ++ (wsX100 ++ (wsX90 ++ (wsE10 ++ ([])))))))
theorem hi_Low_valueY_X11 : ∀ x ∈ u_ws RX11 TX11 5, x ∈ wp_Low_valueY := fun _ h => List.mem_cons_of_mem _ (List.mem_append_right _ (List.mem_append_left _ h))
theorem hi_Low_valueY_X3 : ∀ x ∈ u_ws RX3 TX3 19, x ∈ wp_Low_valueY := fun _ h => List.mem_cons_of_mem _ (List.mem_append_right _ (List.mem_append_right _ (List.mem_append_left _ h)))
theorem hi_Low_valueY_X10 : ∀ x ∈ u_ws RX10 TX10 10, x ∈ wp_Low_valueY := fun _ h => List.mem_cons_of_mem _ (List.mem_append_right _ (List.mem_append_right _ (List.mem_append_right _ (List.mem_append_left _ h))))
theorem hi_Low_valueY_X9 : ∀ x ∈ u_ws RX9 TX9 2, x ∈ wp_Low_valueY := fun _ h => List.mem_cons_of_mem _ (List.mem_append_right _ (List.mem_append_right _ (List.mem_append_right _ (List.mem_append_right _ (List.mem_append_left _ h)))))
theorem hi_Low_valueY_E1 : ∀ x ∈ wsE10, x ∈ wp_Low_valueY := fun _ h => List.mem_cons_of_mem _ (List.mem_append_right _ (List.mem_append_right _ (List.mem_append_right _ (List.mem_append_right _ (List.mem_append_right _ (List.mem_append_left _ h))))))
set_option maxRecDepth 100000 in
theorem gd_Low_valueY_Low_find_52 : GoodIn wp_Low_valueY (wsV RX11 52 RX11 yX11_find wp_Low_find) := goodIn_app (goodIn_r _ [1, 2, 3, 4] rfl rfl) (goodIn_ca (goodIn_r _ [5, 6] rfl rfl) (goodIn_app (goodIn_cls hi_Low_valueY_X11 gw_X11) (goodIn_nil)))
set_option maxRecDepth 100000 in
theorem gd_Low_valueY_Server_valueOf_134 : GoodIn wp_Low_valueY (wsV RX11 134 RX10 yX10_valueOf wp_Server_valueOf) := goodIn_app (goodIn_r _ [7, 8, 9, 10] rfl rfl) (goodIn_ca (goodIn_r _ [11, 12, 13] rfl rfl) (goodIn_app (goodIn_cls hi_Low_valueY_X10 gw_X10) (goodIn_nil)))
set_option maxRecDepth 100000 in
theorem gd_Low_valueY_Row_at_291 : GoodIn wp_Low_valueY (wsV RX11 291 RX9 yX9_at wp_Row_at) := goodIn_app (goodIn_r _ [14, 15, 16, 17] rfl rfl) (goodIn_ca (goodIn_r _ [18, 19, 20] rfl rfl) (goodIn_app (goodIn_cls hi_Low_valueY_X9 gw_X9) (goodIn_nil)))
set_option maxHeartbeats 4000000 in
set_option maxRecDepth 100000 in
theorem b_Low_valueY {p : Program} {l : Launch} {e : Env} {R : Room} {s : State} {m : MethodId} {args : Array Value} {below : List Frame} {meth : Method} {c : Code} {D : va_G} {K : Nat → ClassId} {A : Nat → Prop} {Q : State → Prop} {τ : Nat → Option Ty} {dom : List Nat} {zb zL : Nat} {zx : Nat → Int32} {zs : Nat → Nat} (hR : 6 ≤ R.frames ∧ 82 ≤ R.locals) (B : Bx p s m args c cX11_value 6 RX11 wp_Low_valueY D (tysA K) A) (Z : Sk τ dom) (hz : ZL zb zL zx zs A s s.heap) (h : Nat) (x1 : Int) (x2 : Int) (x3 : Int) (t_h : τ h = some (41, 0, 0)) (r_x1 : -2147483648 ≤ x1 ∧ x1 ≤ 2147483647) (r_x2 : -2147483648 ≤ x2 ∧ x2 ≤ 2147483647) (r_x3 : -2147483648 ≤ x3 ∧ x3 ≤ 2147483647) (σ0 : Nat → va_E) (G0 : Good K τ σ0) (hend : ∀ (z : Int) (lv : List (Nat × Value)) (pc : Nat), (-1 ≤ z ∧ z ≤ 256) → decode cX11_value pc = .ok (.ireturn, 1) → V p l e R s m args below meth c 6 D A Q (0, 0) (fd dom σ0) lv pc [.int (iI z)]) (hx : ∀ (lv : List (Nat × Value)), V p l e R s m args below meth c 6 D A Q (0, 0) (fd dom σ0) lv 46 []) : V p l e R s m args below meth c 6 D A Q (0, 0) (fd dom σ0) [(0, .ref h), (1, .int (iI x1)), (2, .int (iI x2)), (3, .int (iI x3))] 0 [] := by
  have F0 : Fr τ [] σ0 σ0 := Fr.rf
  have J46 : V p l e R s m args below meth c 6 D A Q (0, 0) (fd dom σ0) [] 46 [] := by
    exact hx _
  refine v_aload_n B dX11_value_0 rfl rfl ?_
  refine v_iload_n B dX11_value_1 rfl rfl ?_
  refine u_callVq B Z hz (n := 1) (As := [.int (iI x1)]) (rest := []) (c_Low_find l D K Z _ _ _ _ h x1 t_h ⟨by omega, by omega⟩ σ0 G0) gd_Low_valueY_Low_find_52 rfl rfl rfl (by decide +kernel) ⟨Nat.le_trans (by decide +kernel) hR.1, Nat.le_trans (by decide +kernel) hR.2⟩ t_h (cls_Low G0 t_h) rfl rfl rfl rfl (Nat.le_of_ble_eq_true rfl) dX11_value_2 ⟨Nat.zero_le _, Nat.zero_le _⟩ (fun v3 σ1 p2 => ?_)
  obtain ⟨rfl, q7⟩ := p2
  rcases q7 with rfl | ⟨a8, rfl, t9⟩
  · show V _ _ _ _ _ _ _ _ _ _ _ _ _ _ _ _ _ _ [.null]
    refine v_astoreN B (lv' := [(4, .null), (0, .ref h), (1, .int (iI x1)), (2, .int (iI x2)), (3, .int (iI x3))]) dX11_value_5 (by decide +kernel) rfl ?_
    refine v_aloadN B dX11_value_7 rfl ?_
    refine v_ifnonnullN B dX11_value_9 ?_
    refine v_null B dX11_value_12 ?_
    refine v_goto B (tgt := 25) dX11_value_13 (by decide +kernel) ?_
    refine v_astoreN B (lv' := [(5, .null), (4, .null), (0, .ref h), (1, .int (iI x1)), (2, .int (iI x2)), (3, .int (iI x3))]) dX11_value_25 (by decide +kernel) rfl ?_
    refine v_aloadN B dX11_value_27 rfl ?_
    refine v_ifnullN B (tgt := 46) dX11_value_29 (by decide +kernel) ?_
    refine v_lv [] rfl ?_
    exact J46
  · show V _ _ _ _ _ _ _ _ _ _ _ _ _ _ _ _ _ _ [.ref a8]
    refine v_astore B (lv' := [(4, .ref a8), (0, .ref h), (1, .int (iI x1)), (2, .int (iI x2)), (3, .int (iI x3))]) dX11_value_5 (by decide +kernel) rfl ?_
    refine v_aload B dX11_value_7 rfl ?_
    refine v_ifnonnull B (tgt := 16) dX11_value_9 (by decide +kernel) ?_
    refine v_aload B dX11_value_16 rfl ?_
    obtain ⟨z10, yy11, z12, z13, z14, z15, a16, z17, yy18, a19, yy20, a21, a22, a23, a24, a25, a26, a27, a28, h29, r30, r31, r32, r33, r34, r35, t36, r37, r38, t39, r40, t41, t42, t43, t44, t45, t46, t47, t48⟩ : okDevice τ (σ0 a8) := G0 a8 _ t9
    refine u_getN B Z (C := RX3) (T := TX3) (N := 19) (ci := 3) hi_Low_valueY_X3 t9 h29 rfl 15 (by decide +kernel) (List.mem_of_getElem? (i := 3) rfl) rfl dX11_value_18 ?_
    refine v_iload_n B dX11_value_21 rfl rfl ?_
    refine u_callVq B Z hz (n := 1) (As := [.int (iI x2)]) (rest := []) (c_Server_valueOf l D K Z _ _ _ _ a25 x2 t45 ⟨by omega, by omega⟩ σ0 G0) gd_Low_valueY_Server_valueOf_134 rfl rfl rfl (by decide +kernel) ⟨Nat.le_trans (by decide +kernel) hR.1, Nat.le_trans (by decide +kernel) hR.2⟩ t45 (cls_Server G0 t45) rfl rfl rfl rfl (Nat.le_of_ble_eq_true rfl) dX11_value_22 ⟨Nat.zero_le _, Nat.zero_le _⟩ (fun v51 σ49 p50 => ?_)
    obtain ⟨rfl, q55⟩ := p50
    rcases q55 with rfl | ⟨a56, rfl, t57⟩
    · show V _ _ _ _ _ _ _ _ _ _ _ _ _ _ _ _ _ _ [.null]
      refine v_astoreN B (lv' := [(5, .null), (4, .ref a8), (0, .ref h), (1, .int (iI x1)), (2, .int (iI x2)), (3, .int (iI x3))]) dX11_value_25 (by decide +kernel) rfl ?_
      refine v_aloadN B dX11_value_27 rfl ?_
      refine v_ifnullN B (tgt := 46) dX11_value_29 (by decide +kernel) ?_
      refine v_lv [] rfl ?_
      exact J46
    · show V _ _ _ _ _ _ _ _ _ _ _ _ _ _ _ _ _ _ [.ref a56]
      refine v_astore B (lv' := [(5, .ref a56), (4, .ref a8), (0, .ref h), (1, .int (iI x1)), (2, .int (iI x2)), (3, .int (iI x3))]) dX11_value_25 (by decide +kernel) rfl ?_
      refine v_aload B dX11_value_27 rfl ?_
      refine v_ifnull B dX11_value_29 ?_
      refine v_iload_n B dX11_value_32 rfl rfl ?_
      refine v_iconst B (v := iI (-1)) dX11_value_33 rfl ?_
      refine u_icmp_lt B (tgt := 46) (by omega) (by omega) dX11_value_34 (by decide +kernel) (fun c58 => ?_) (fun c58 => ?_)
      · refine v_lv [] rfl ?_
        exact J46
      · refine v_iload_n B dX11_value_37 rfl rfl ?_
        refine v_aload B dX11_value_38 rfl ?_
        obtain ⟨b59, N60, n61, h62, t63, r64⟩ : okRow τ 13 (σ0 a56) := G0 a56 _ t57
        refine u_getN B Z (C := RX9) (T := TX9) (N := 2) (ci := 9) hi_Low_valueY_X9 t57 h62 rfl 1 (by decide +kernel) (List.mem_of_getElem? (i := 51) rfl) rfl dX11_value_40 ?_
        refine u_icmp_lt B (tgt := 57) (by omega) (by omega) dX11_value_43 (by decide +kernel) (fun c65 => ?_) (fun c65 => ?_)
        · refine v_iload_n B dX11_value_57 rfl rfl ?_
          refine v_iconst B (v := iI (-1)) dX11_value_58 rfl ?_
          refine u_icmp_ne B (tgt := 70) (by omega) (by omega) dX11_value_59 (by decide +kernel) (fun c66 => ?_) (fun c66 => ?_)
          · refine v_aload B dX11_value_70 rfl ?_
            refine v_iload_n B dX11_value_72 rfl rfl ?_
            refine u_callVi B Z hz (n := 1) (As := [.int (iI x3)]) (rest := []) (c_Row_at l D K Z _ _ _ _ a56 x3 t57 ⟨by omega, by omega⟩ σ0 G0) gd_Low_valueY_Row_at_291 rfl rfl rfl (by decide +kernel) ⟨Nat.le_trans (by decide +kernel) hR.1, Nat.le_trans (by decide +kernel) hR.2⟩ t57 (cls_Row G0 t57) rfl rfl rfl rfl (Nat.le_of_ble_eq_true rfl) dX11_value_73 ⟨Nat.zero_le _, Nat.zero_le _⟩ (fun v69 σ67 p68 => ?_)
            obtain ⟨rfl, z73, e74, r75⟩ := p68
            subst e74
            exact hend z73 _ _ ⟨by omega, by omega⟩ dX11_value_76
          · refine v_aload B dX11_value_62 rfl ?_
            refine u_getN B Z (C := RX9) (T := TX9) (N := 2) (ci := 9) hi_Low_valueY_X9 t57 h62 rfl 1 (by decide +kernel) (List.mem_of_getElem? (i := 51) rfl) rfl dX11_value_64 ?_
            refine v_goto B (tgt := 76) dX11_value_67 (by decide +kernel) ?_
            exact hend n61 _ _ ⟨by omega, by omega⟩ dX11_value_76
        · refine v_lv [] rfl ?_
          exact J46
set_option maxRecDepth 100000 in
theorem c_Low_valueY (l : Launch) (hl0 : l.stackTraces = false) (D : va_G) (K : Nat → ClassId) {τ : Nat → Option Ty} {dom : List Nat} (Z : Sk τ dom) (zb zL : Nat) (zx : Nat → Int32) (zs : Nat → Nat) (h : Nat) (x1 : Int) (x2 : Int) (x3 : Int) (t_h : τ h = some (41, 0, 0)) (r_x1 : -2147483648 ≤ x1 ∧ x1 ≤ 2147483647) (r_x2 : -2147483648 ≤ x2 ∧ x2 ≤ 2147483647) (r_x3 : -2147483648 ≤ x3 ∧ x3 ≤ 2147483647) (σ0 : Nat → va_E) (G0 : Good K τ σ0) : MY l yX11_value wp_Low_valueY ({ frames := 6, cells := 1, slots := 6, locals := 82 }) D (tysA K) [.ref h, .int (iI x1), .int (iI x2), .int (iI x3)] (fd dom σ0) zb zL zx zs tNS (fun r σ' => σ0 = σ' ∧ ∃ z : Int, r = iI z ∧ (-1 ≤ z ∧ z ≤ 256)) (fun σ' => σ0 = σ') (fun σ' => fd dom σ') 1 6 := by
  refine my_of (cc := cX11_value) (maxL := 6) (ret := (some .int)) (by decide +kernel) rfl (Nat.le_of_ble_eq_true rfl) ?_
  intro p e s m below meth c A B hr hlk htb hz
  exact b_Low_valueY ⟨Nat.le_refl _, Nat.le_refl _⟩ B Z hz h x1 x2 x3 t_h r_x1 r_x2 r_x3 σ0 G0 (fun z lv pc hZ hd => v_iretY B hr hlk σ0 ⟨rfl, z, rfl, hZ⟩ rfl (by decide +kernel) (by decide +kernel) hd) (fun lv => v_throwNY B hz hl0 htb hlk σ0 rfl rfl (List.mem_of_getElem? (i := 21) rfl) (List.mem_of_getElem? (i := 22) rfl) hz.2.2.2.2.2.2.1 hi_Low_valueY_E1 dX11_value_46 dX11_value_49 dX11_value_50 dX11_value_53 dX11_value_56 (by decide +kernel) (Nat.le_of_ble_eq_true rfl) (by decide +kernel) (by decide +kernel) (by decide +kernel) (by decide +kernel))
