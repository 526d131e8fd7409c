def wp_M_in : List Cond := .code yX12_in cX12_in 2 (some .boolean) :: (([] : List Cond) ++ ([]))
set_option maxHeartbeats 4000000 in
set_option maxRecDepth 100000 in
theorem b_M_in {p : Program} {l : Launch} {e : Env} {R : Room} {s : State} {m : MethodId} {args : Array Value} {below : List Frame} {meth : Method} {c : Code} {D : va_G} {K : Nat → ClassId} {A : Nat → Prop} {Q : State → Prop} {τ : Nat → Option Ty} {dom : List Nat} {zb zL : Nat} {zx : Nat → Int32} {zs : Nat → Nat} (hR : 0 ≤ R.frames ∧ 0 ≤ R.locals) (B : Bx p s m args c cX12_in 2 RX12 wp_M_in D (tysA K) A) (Z : Sk τ dom) (hz : ZL zb zL zx zs A s s.heap) (h : Nat) (q : Nat → Nat) (Y : MS τ h q) (x0 : Int) (x1 : Int) (r_x0 : -2147483648 ≤ x0 ∧ x0 ≤ 2147483647) (r_x1 : -2147483648 ≤ x1 ∧ x1 ≤ 2147483647) (σ0 : Nat → va_E) (G0 : GT K h q σ0) (hend : ∀ (z : Int) (lv : List (Nat × Value)) (pc : Nat), (0 ≤ z ∧ z ≤ 1) → ((z = 1 ∧ 0 ≤ x0 ∧ x0 < x1) ∨ (z = 0 ∧ (x0 < 0 ∨ x1 ≤ x0))) → decode cX12_in pc = .ok (.ireturn, 1) → V p l e R s m args below meth c 2 D A Q (0, 0) (fd dom σ0) lv pc [.int (iI z)]) : V p l e R s m args below meth c 2 D A Q (0, 0) (fd dom σ0) [(0, .int (iI x0)), (1, .int (iI x1))] 0 [] := by
  refine v_iload_n B dX12_in_0 rfl rfl ?_
  refine u_if_lt B (tgt := 13) (by omega) dX12_in_1 (by decide +kernel) (fun c1 => ?_) (fun c1 => ?_)
  · refine v_iconst B (v := iI 0) dX12_in_13 rfl ?_
    exact hend 0 _ _ ⟨by omega, by omega⟩ (by omega) dX12_in_14
  · refine v_iload_n B dX12_in_4 rfl rfl ?_
    refine v_iload_n B dX12_in_5 rfl rfl ?_
    refine u_icmp_ge B (tgt := 13) (by omega) (by omega) dX12_in_6 (by decide +kernel) (fun c2 => ?_) (fun c2 => ?_)
    · refine v_iconst B (v := iI 0) dX12_in_13 rfl ?_
      exact hend 0 _ _ ⟨by omega, by omega⟩ (by omega) dX12_in_14
    · refine v_iconst B (v := iI 1) dX12_in_9 rfl ?_
      refine v_goto B (tgt := 14) dX12_in_10 (by decide +kernel) ?_
      exact hend 1 _ _ ⟨by omega, by omega⟩ (by omega) dX12_in_14
set_option maxRecDepth 100000 in
theorem c_M_in (l : Launch) (D : va_G) (K : Nat → ClassId) {τ : Nat → Option Ty} {dom : List Nat} (Z : Sk τ dom) (zb zL : Nat) (zx : Nat → Int32) (zs : Nat → Nat) (h : Nat) (q : Nat → Nat) (Y : MS τ h q) (x0 : Int) (x1 : Int) (r_x0 : -2147483648 ≤ x0 ∧ x0 ≤ 2147483647) (r_x1 : -2147483648 ≤ x1 ∧ x1 ≤ 2147483647) (σ0 : Nat → va_E) (G0 : GT K h q σ0) : MZ l yX12_in wp_M_in ({ frames := 0, cells := 0, slots := 0, locals := 0 }) D (tysA K) [.int (iI x0), .int (iI x1)] (fd dom σ0) zb zL zx zs (Qi D (fun r σ' => σ0 = σ' ∧ ∃ z : Int, r = iI z ∧ (0 ≤ z ∧ z ≤ 1) ∧ ((z = 1 ∧ 0 ≤ x0 ∧ x0 < x1) ∨ (z = 0 ∧ (x0 < 0 ∨ x1 ≤ x0)))) (fun σ' => fd dom σ')) 0 0 := by
  refine mz_of (cc := cX12_in) (maxL := 2) (ret := (some .boolean)) (by decide +kernel) rfl (Nat.le_of_ble_eq_true rfl) ?_
  intro p e s m below meth c A B hr hlk _ hz
  exact b_M_in ⟨Nat.le_refl _, Nat.le_refl _⟩ B Z hz h q Y x0 x1 r_x0 r_x1 σ0 G0 (fun z lv pc hZ hP hd => v_zret B hr hlk (nar01 (by omega)) σ0 ⟨rfl, z, rfl, hZ, hP⟩ rfl (Nat.le_refl _) (Nat.le_refl _) hd)

def wp_M_two : List Cond := .code yX12_two cX12_two 2 (some .int) :: (([] : List Cond) ++ ([]))
set_option maxHeartbeats 4000000 in
set_option maxRecDepth 100000 in
theorem b_M_two {p : Program} {l : Launch} {e : Env} {R : Room} {s : State} {m : MethodId} {args : Array Value} {below : List Frame} {meth : Method} {c : Code} {D : va_G} {K : Nat → ClassId} {A : Nat → Prop} {Q : State → Prop} {τ : Nat → Option Ty} {dom : List Nat} {zb zL : Nat} {zx : Nat → Int32} {zs : Nat → Nat} (hR : 0 ≤ R.frames ∧ 0 ≤ R.locals) (B : Bx p s m args c cX12_two 2 RX12 wp_M_two D (tysA K) A) (Z : Sk τ dom) (hz : ZL zb zL zx zs A s s.heap) (h : Nat) (q : Nat → Nat) (Y : MS τ h q) (j1 Nj1 : Nat) (x1 : Int) (hj_j1 : tabM[j1]? = some (2, Nj1, -128, 127)) (r_x1 : 0 ≤ x1 ∧ x1 ≤ 1600) (σ0 : Nat → va_E) (G0 : GT K h q σ0) (hc : 0 ≤ x1 ∧ x1 + 2 ≤ (Nj1 : Int)) (hend : ∀ (z : Int) (lv : List (Nat × Value)) (pc : Nat), (0 ≤ z ∧ z ≤ 65535) → decode cX12_two pc = .ok (.ireturn, 1) → V p l e R s m args below meth c 2 D A Q (0, 0) (fd dom σ0) lv pc [.int (iI z)]) : V p l e R s m args below meth c 2 D A Q (0, 0) (fd dom σ0) [(0, .ref (q j1)), (1, .int (iI x1))] 0 [] := by
  have hN_j1 := lenB hj_j1
  refine v_aload_n B dX12_two_0 rfl rfl ?_
  refine v_iload_n B dX12_two_1 rfl rfl ?_
  obtain ⟨f1, h2, e3⟩ := G0.byte hj_j1
  obtain ⟨z4, e5, r6⟩ := e3 (x1 : Int).toNat
  refine u_bald B Z (t0 := 2) (Y.byte hj_j1) h2 rfl (by omega) e5 dX12_two_2 ?_
  refine v_sipush B (v := iI 255) dX12_two_3 (by decide +kernel) ?_
  obtain ⟨z7, e8, r9⟩ := iI_and z4 (c := 255) (by decide) (by decide)
  refine v_iand B (v := iI z7) dX12_two_6 e8 ?_
  refine v_aload_n B dX12_two_7 rfl rfl ?_
  refine v_iload_n B dX12_two_8 rfl rfl ?_
  refine v_iconst B (v := iI 1) dX12_two_9 rfl ?_
  refine v_iadd B (v := iI (x1 + 1)) dX12_two_10 ((iI_add _ _).trans (congrArg iI (by omega))) ?_
  obtain ⟨z10, e11, r12⟩ := e3 ((x1 + 1) : Int).toNat
  refine u_bald B Z (t0 := 2) (Y.byte hj_j1) h2 rfl (by omega) e11 dX12_two_11 ?_
  refine v_sipush B (v := iI 255) dX12_two_12 (by decide +kernel) ?_
  obtain ⟨z13, e14, r15⟩ := iI_and z10 (c := 255) (by decide) (by decide)
  refine v_iand B (v := iI z13) dX12_two_15 e14 ?_
  refine v_bipush B (v := iI 8) dX12_two_16 (by decide +kernel) ?_
  refine v_ishl B (v := iI (256 * z13)) dX12_two_18 ((iI_shl z13 8 (by decide)).trans (congrArg iI (by omega))) ?_
  obtain ⟨z16, e17, r18⟩ := iI_or (a := z7) (b := (256 * z13)) 16 (by decide) (by omega) (by omega)
  refine v_ior B (v := iI z16) dX12_two_19 e17 ?_
  exact hend z16 _ _ ⟨by omega, by omega⟩ dX12_two_20
set_option maxRecDepth 100000 in
theorem c_M_two (l : Launch) (D : va_G) (K : Nat → ClassId) {τ : Nat → Option Ty} {dom : List Nat} (Z : Sk τ dom) (zb zL : Nat) (zx : Nat → Int32) (zs : Nat → Nat) (h : Nat) (q : Nat → Nat) (Y : MS τ h q) (j1 Nj1 : Nat) (x1 : Int) (hj_j1 : tabM[j1]? = some (2, Nj1, -128, 127)) (r_x1 : 0 ≤ x1 ∧ x1 ≤ 1600) (σ0 : Nat → va_E) (G0 : GT K h q σ0) (hc : 0 ≤ x1 ∧ x1 + 2 ≤ (Nj1 : Int)) : MZ l yX12_two wp_M_two ({ frames := 0, cells := 0, slots := 0, locals := 0 }) D (tysA K) [.ref (q j1), .int (iI x1)] (fd dom σ0) zb zL zx zs (Qi D (fun r σ' => σ0 = σ' ∧ ∃ z : Int, r = iI z ∧ (0 ≤ z ∧ z ≤ 65535)) (fun σ' => fd dom σ')) 0 0 := by
  refine mz_of (cc := cX12_two) (maxL := 2) (ret := (some .int)) (by decide +kernel) rfl (Nat.le_of_ble_eq_true rfl) ?_
  intro p e s m below meth c A B hr hlk _ hz
  exact b_M_two ⟨Nat.le_refl _, Nat.le_refl _⟩ B Z hz h q Y j1 Nj1 x1 hj_j1 r_x1 σ0 G0 hc (fun z lv pc hZ hd => v_iret B hr hlk σ0 ⟨rfl, z, rfl, hZ⟩ rfl (Nat.le_refl _) (Nat.le_refl _) hd)

def wp_M_copy : List Cond := .code yX12_copy cX12_copy 6 none :: (([] : List Cond) ++ ([]))
set_option maxHeartbeats 4000000 in
set_option maxRecDepth 100000 in
theorem b_M_copy {p : Program} {l : Launch} {e : Env} {R : Room} {s : State} {m : MethodId} {args : Array Value} {below : List Frame} {meth : Method} {c : Code} {D : va_G} {K : Nat → ClassId} {A : Nat → Prop} {Q : State → Prop} {τ : Nat → Option Ty} {dom : List Nat} {zb zL : Nat} {zx : Nat → Int32} {zs : Nat → Nat} (hR : 0 ≤ R.frames ∧ 0 ≤ R.locals) (B : Bx p s m args c cX12_copy 6 RX12 wp_M_copy D (tysA K) A) (Z : Sk τ dom) (hz : ZL zb zL zx zs A s s.heap) (h : Nat) (q : Nat → Nat) (Y : MS τ h q) (j1 Nj1 : Nat) (x2 : Int) (j2 Nj2 : Nat) (x4 : Int) (x5 : Int) (hj_j1 : tabM[j1]? = some (2, Nj1, -128, 127)) (r_x2 : -3000 ≤ x2 ∧ x2 ≤ 3000) (hj_j2 : tabM[j2]? = some (2, Nj2, -128, 127)) (r_x4 : -3000 ≤ x4 ∧ x4 ≤ 3000) (r_x5 : -3000 ≤ x5 ∧ x5 ≤ 3000) (σ0 : Nat → va_E) (G0 : GM K h q σ0) (hc : x5 ≤ 0 ∨ (0 ≤ x2 ∧ x2 + x5 ≤ (Nj1 : Int) ∧ 0 ≤ x4 ∧ x4 + x5 ≤ (Nj2 : Int))) (hend : ∀ (σ' : Nat → va_E) (lv : List (Nat × Value)) (pc : Nat), GM K h q σ' → Fr τ [(100 + j2, 0)] σ0 σ' → decode cX12_copy pc = .ok (.return_, 1) → V p l e R s m args below meth c 6 D A Q (0, 0) (fd dom σ') lv pc []) : V p l e R s m args below meth c 6 D A Q (0, 0) (fd dom σ0) [(0, .ref (q j1)), (1, .int (iI x2)), (2, .ref (q j2)), (3, .int (iI x4)), (4, .int (iI x5))] 0 [] := by
  have F0 : Fr τ [(100 + j2, 0)] σ0 σ0 := Fr.rf
  have hN_j1 := lenB hj_j1
  have hN_j2 := lenB hj_j2
  have J3 : ∀ (k3 : Nat) (σ_3 : Nat → va_E) (z3_5 : Int), (2147483648 - z3_5).toNat ≤ k3 → GM K h q σ_3 → Fr τ [(100 + j2, 0)] σ0 σ_3 → (0 ≤ z3_5 ∧ z3_5 ≤ 3000) → V p l e R s m args below meth c 6 D A Q (0, 0) (fd dom σ_3) [(0, .ref (q j1)), (1, .int (iI x2)), (2, .ref (q j2)), (3, .int (iI x4)), (4, .int (iI x5)), (5, .int (iI z3_5))] 3 [] := by
    intro k3
    induction k3 with
    | zero => intro σ_3 z3_5 m3 G_3 F_3 r3_5; omega
    | succ k3 IH3 =>
      intro σ_3 z3_5 m3 G_3 F_3 r3_5
      refine v_iload B dX12_copy_3 rfl ?_
      refine v_iload B dX12_copy_5 rfl ?_
      refine u_icmp_ge B (tgt := 28) (by omega) (by omega) dX12_copy_7 (by decide +kernel) (fun c1 => ?_) (fun c1 => ?_)
      · exact hend σ_3 _ _ G_3 F_3 dX12_copy_28
      · refine v_aload_n B dX12_copy_10 rfl rfl ?_
        refine v_iload_n B dX12_copy_11 rfl rfl ?_
        refine v_iload B dX12_copy_12 rfl ?_
        refine v_iadd B (v := iI (x4 + z3_5)) dX12_copy_14 ((iI_add _ _).trans (congrArg iI (by omega))) ?_
        refine v_aload_n B dX12_copy_15 rfl rfl ?_
        refine v_iload_n B dX12_copy_16 rfl rfl ?_
        refine v_iload B dX12_copy_17 rfl ?_
        refine v_iadd B (v := iI (x2 + z3_5)) dX12_copy_19 ((iI_add _ _).trans (congrArg iI (by omega))) ?_
        obtain ⟨f2, h3, e4⟩ := G_3.t.byte hj_j1
        obtain ⟨z5, e6, r7⟩ := e4 ((x2 + z3_5) : Int).toNat
        refine u_bald B Z (t0 := 2) (Y.byte hj_j1) h3 rfl (by omega) e6 dX12_copy_20 ?_
        obtain ⟨f8, h9, e10⟩ := G_3.t.byte hj_j2
        refine u_bast B Z (t0 := 2) (x := iI z5) (y := iI z5) (Y.byte hj_j2) h9 rfl (by omega) (nar8 (by omega)) dX12_copy_21 (fun σ11 h12 n13 => ?_)
        have F14 := F_3.put (Y.byte hj_j2) (by simp) n13
        have G15 := G_3.putB Y hj_j2 ⟨_, h12, el_upd (z := z5) e10 ⟨by omega, by omega⟩ _⟩ n13
        refine v_iinc B (k := 5) (v := iI (z3_5 + 1)) (lv' := [(5, .int (iI (z3_5 + 1))), (0, .ref (q j1)), (1, .int (iI x2)), (2, .ref (q j2)), (3, .int (iI x4)), (4, .int (iI x5))]) dX12_copy_22 rfl ((iI_add _ _).trans (congrArg iI (by omega))) (by decide +kernel) rfl ?_
        refine v_goto B (tgt := 3) dX12_copy_25 (by decide +kernel) ?_
        refine v_lv [1, 2, 3, 4, 5, 0] rfl ?_
        exact IH3 σ11 (z3_5 + 1) (by omega) G15 F14 ⟨by omega, by omega⟩
  refine v_iconst B (v := iI 0) dX12_copy_0 rfl ?_
  refine v_istore B (lv' := [(5, .int (iI 0)), (0, .ref (q j1)), (1, .int (iI x2)), (2, .ref (q j2)), (3, .int (iI x4)), (4, .int (iI x5))]) dX12_copy_1 (by decide +kernel) rfl ?_
  refine v_lv [1, 2, 3, 4, 5, 0] rfl ?_
  exact J3 _ σ0 0 (Nat.le_refl _) G0 F0 ⟨by omega, by omega⟩
set_option maxRecDepth 100000 in
theorem c_M_copy (l : Launch) (D : va_G) (K : Nat → ClassId) {τ : Nat → Option Ty} {dom : List Nat} (Z : Sk τ dom) (zb zL : Nat) (zx : Nat → Int32) (zs : Nat → Nat) (h : Nat) (q : Nat → Nat) (Y : MS τ h q) (j1 Nj1 : Nat) (x2 : Int) (j2 Nj2 : Nat) (x4 : Int) (x5 : Int) (hj_j1 : tabM[j1]? = some (2, Nj1, -128, 127)) (r_x2 : -3000 ≤ x2 ∧ x2 ≤ 3000) (hj_j2 : tabM[j2]? = some (2, Nj2, -128, 127)) (r_x4 : -3000 ≤ x4 ∧ x4 ≤ 3000) (r_x5 : -3000 ≤ x5 ∧ x5 ≤ 3000) (σ0 : Nat → va_E) (G0 : GM K h q σ0) (hc : x5 ≤ 0 ∨ (0 ≤ x2 ∧ x2 + x5 ≤ (Nj1 : Int) ∧ 0 ≤ x4 ∧ x4 + x5 ≤ (Nj2 : Int))) : MZ l yX12_copy wp_M_copy ({ frames := 0, cells := 0, slots := 0, locals := 0 }) D (tysA K) [.ref (q j1), .int (iI x2), .ref (q j2), .int (iI x4), .int (iI x5)] (fd dom σ0) zb zL zx zs (Qv D (fun σ' => GM K h q σ' ∧ Fr τ [(100 + j2, 0)] σ0 σ') (fun σ' => fd dom σ')) 0 0 := by
  refine mz_of (cc := cX12_copy) (maxL := 6) (ret := none) (by decide +kernel) rfl (Nat.le_of_ble_eq_true rfl) ?_
  intro p e s m below meth c A B hr hlk _ hz
  exact b_M_copy ⟨Nat.le_refl _, Nat.le_refl _⟩ B Z hz h q Y j1 Nj1 x2 j2 Nj2 x4 x5 hj_j1 r_x2 hj_j2 r_x4 r_x5 σ0 G0 hc (fun σ' lv pc G F hd => v_vret B hr hlk σ' ⟨G, F⟩ rfl (Nat.le_refl _) (Nat.le_refl _) hd)

def wp_M_copyS : List Cond := .code yX12_copy cX12_copy 6 none :: (([] : List Cond) ++ ([]))
set_option maxHeartbeats 4000000 in
set_option maxRecDepth 100000 in
theorem b_M_copyS {p : Program} {l : Launch} {e : Env} {R : Room} {s : State} {m : MethodId} {args : Array Value} {below : List Frame} {meth : Method} {c : Code} {D : va_G} {K : Nat → ClassId} {A : Nat → Prop} {Q : State → Prop} {τ : Nat → Option Ty} {dom : List Nat} {zb zL : Nat} {zx : Nat → Int32} {zs : Nat → Nat} (hR : 0 ≤ R.frames ∧ 0 ≤ R.locals) (B : Bx p s m args c cX12_copy 6 RX12 wp_M_copyS D (tysA K) A) (Z : Sk τ dom) (hz : ZL zb zL zx zs A s s.heap) (h : Nat) (q : Nat → Nat) (Y : MS τ h q) (x2 : Int) (j2 Nj2 : Nat) (x4 : Int) (x5 : Int) (r_x2 : 0 ≤ x2 ∧ x2 ≤ 0) (hj_j2 : tabM[j2]? = some (2, Nj2, -128, 127)) (r_x4 : -3000 ≤ x4 ∧ x4 ≤ 3000) (r_x5 : 0 ≤ x5 ∧ x5 ≤ 4) (σ0 : Nat → va_E) (G0 : GM K h q σ0) (hc : 0 ≤ x4 ∧ x4 + x5 ≤ (Nj2 : Int)) (hend : ∀ (σ' : Nat → va_E) (lv : List (Nat × Value)) (pc : Nat), GM K h q σ' → Fr τ [(100 + j2, 0)] σ0 σ' → decode cX12_copy pc = .ok (.return_, 1) → V p l e R s m args below meth c 6 D A Q (0, 0) (fd dom σ') lv pc []) : V p l e R s m args below meth c 6 D A Q (0, 0) (fd dom σ0) [(0, .ref (zs 4)), (1, .int (iI x2)), (2, .ref (q j2)), (3, .int (iI x4)), (4, .int (iI x5))] 0 [] := by
  have F0 : Fr τ [(100 + j2, 0)] σ0 σ0 := Fr.rf
  have hN_j2 := lenB hj_j2
  have J3 : ∀ (k3 : Nat) (σ_3 : Nat → va_E) (z3_5 : Int), (2147483648 - z3_5).toNat ≤ k3 → GM K h q σ_3 → Fr τ [(100 + j2, 0)] σ0 σ_3 → (0 ≤ z3_5 ∧ z3_5 ≤ 4) → V p l e R s m args below meth c 6 D A Q (0, 0) (fd dom σ_3) [(0, .ref (zs 4)), (1, .int (iI x2)), (2, .ref (q j2)), (3, .int (iI x4)), (4, .int (iI x5)), (5, .int (iI z3_5))] 3 [] := by
    intro k3
    induction k3 with
    | zero => intro σ_3 z3_5 m3 G_3 F_3 r3_5; omega
    | succ k3 IH3 =>
      intro σ_3 z3_5 m3 G_3 F_3 r3_5
      refine v_iload B dX12_copy_3 rfl ?_
      refine v_iload B dX12_copy_5 rfl ?_
      refine u_icmp_ge B (tgt := 28) (by omega) (by omega) dX12_copy_7 (by decide +kernel) (fun c1 => ?_) (fun c1 => ?_)
      · exact hend σ_3 _ _ G_3 F_3 dX12_copy_28
      · refine v_aload_n B dX12_copy_10 rfl rfl ?_
        refine v_iload_n B dX12_copy_11 rfl rfl ?_
        refine v_iload B dX12_copy_12 rfl ?_
        refine v_iadd B (v := iI (x4 + z3_5)) dX12_copy_14 ((iI_add _ _).trans (congrArg iI (by omega))) ?_
        refine v_aload_n B dX12_copy_15 rfl rfl ?_
        refine v_iload_n B dX12_copy_16 rfl rfl ?_
        refine v_iload B dX12_copy_17 rfl ?_
        refine v_iadd B (v := iI (x2 + z3_5)) dX12_copy_19 ((iI_add _ _).trans (congrArg iI (by omega))) ?_
        refine u_facc B hz (by omega) dX12_copy_20 (fun z2 r3 => ?_)
        obtain ⟨f4, h5, e6⟩ := G_3.t.byte hj_j2
        refine u_bast B Z (t0 := 2) (x := iI z2) (y := iI z2) (Y.byte hj_j2) h5 rfl (by omega) (nar8 (by omega)) dX12_copy_21 (fun σ7 h8 n9 => ?_)
        have F10 := F_3.put (Y.byte hj_j2) (by simp) n9
        have G11 := G_3.putB Y hj_j2 ⟨_, h8, el_upd (z := z2) e6 ⟨by omega, by omega⟩ _⟩ n9
        refine v_iinc B (k := 5) (v := iI (z3_5 + 1)) (lv' := [(5, .int (iI (z3_5 + 1))), (0, .ref (zs 4)), (1, .int (iI x2)), (2, .ref (q j2)), (3, .int (iI x4)), (4, .int (iI x5))]) dX12_copy_22 rfl ((iI_add _ _).trans (congrArg iI (by omega))) (by decide +kernel) rfl ?_
        refine v_goto B (tgt := 3) dX12_copy_25 (by decide +kernel) ?_
        refine v_lv [1, 2, 3, 4, 5, 0] rfl ?_
        exact IH3 σ7 (z3_5 + 1) (by omega) G11 F10 ⟨by omega, by omega⟩
  refine v_iconst B (v := iI 0) dX12_copy_0 rfl ?_
  refine v_istore B (lv' := [(5, .int (iI 0)), (0, .ref (zs 4)), (1, .int (iI x2)), (2, .ref (q j2)), (3, .int (iI x4)), (4, .int (iI x5))]) dX12_copy_1 (by decide +kernel) rfl ?_
  refine v_lv [1, 2, 3, 4, 5, 0] rfl ?_
  exact J3 _ σ0 0 (Nat.le_refl _) G0 F0 ⟨by omega, by omega⟩
set_option maxRecDepth 100000 in
theorem c_M_copyS (l : Launch) (D : va_G) (K : Nat → ClassId) {τ : Nat → Option Ty} {dom : List Nat} (Z : Sk τ dom) (zb zL : Nat) (zx : Nat → Int32) (zs : Nat → Nat) (h : Nat) (q : Nat → Nat) (Y : MS τ h q) (x2 : Int) (j2 Nj2 : Nat) (x4 : Int) (x5 : Int) (r_x2 : 0 ≤ x2 ∧ x2 ≤ 0) (hj_j2 : tabM[j2]? = some (2, Nj2, -128, 127)) (r_x4 : -3000 ≤ x4 ∧ x4 ≤ 3000) (r_x5 : 0 ≤ x5 ∧ x5 ≤ 4) (σ0 : Nat → va_E) (G0 : GM K h q σ0) (hc : 0 ≤ x4 ∧ x4 + x5 ≤ (Nj2 : Int)) : MZ l yX12_copy wp_M_copyS ({ frames := 0, cells := 0, slots := 0, locals := 0 }) D (tysA K) [.ref (zs 4), .int (iI x2), .ref (q j2), .int (iI x4), .int (iI x5)] (fd dom σ0) zb zL zx zs (Qv D (fun σ' => GM K h q σ' ∧ Fr τ [(100 + j2, 0)] σ0 σ') (fun σ' => fd dom σ')) 0 0 := by
  refine mz_of (cc := cX12_copy) (maxL := 6) (ret := none) (by decide +kernel) rfl (Nat.le_of_ble_eq_true rfl) ?_
  intro p e s m below meth c A B hr hlk _ hz
  exact b_M_copyS ⟨Nat.le_refl _, Nat.le_refl _⟩ B Z hz h q Y x2 j2 Nj2 x4 x5 r_x2 hj_j2 r_x4 r_x5 σ0 G0 hc (fun σ' lv pc G F hd => v_vret B hr hlk σ' ⟨G, F⟩ rfl (Nat.le_refl _) (Nat.le_refl _) hd)

def wp_M_twice : List Cond := .code yX12_twice cX12_twice 1 (some .int) :: (([] : List Cond) ++ ([]))
set_option maxHeartbeats 4000000 in
set_option maxRecDepth 100000 in
theorem b_M_twice {p : Program} {l : Launch} {e : Env} {R : Room} {s : State} {m : MethodId} {args : Array Value} {below : List Frame} {meth : Method} {c : Code} {D : va_G} {K : Nat → ClassId} {A : Nat → Prop} {Q : State → Prop} {τ : Nat → Option Ty} {dom : List Nat} {zb zL : Nat} {zx : Nat → Int32} {zs : Nat → Nat} (hR : 0 ≤ R.frames ∧ 0 ≤ R.locals) (B : Bx p s m args c cX12_twice 1 RX12 wp_M_twice D (tysA K) A) (Z : Sk τ dom) (hz : ZL zb zL zx zs A s s.heap) (h : Nat) (q : Nat → Nat) (Y : MS τ h q) (x0 : Int) (r_x0 : -2147483648 ≤ x0 ∧ x0 ≤ 2147483647) (σ0 : Nat → va_E) (G0 : GT K h q σ0) (hend : ∀ (z : Int) (lv : List (Nat × Value)) (pc : Nat), (0 ≤ z ∧ z ≤ 255) → decode cX12_twice pc = .ok (.ireturn, 1) → V p l e R s m args below meth c 1 D A Q (0, 0) (fd dom σ0) lv pc [.int (iI z)]) : V p l e R s m args below meth c 1 D A Q (0, 0) (fd dom σ0) [(0, .int (iI x0))] 0 [] := by
  refine v_iload_n B dX12_twice_0 rfl rfl ?_
  refine v_iconst B (v := iI 1) dX12_twice_1 rfl ?_
  obtain ⟨z1, e2, r3⟩ := iI_any (iI x0 <<< (iI 1 &&& 31))
  refine v_ishl B (v := iI z1) dX12_twice_2 e2 ?_
  refine v_iload_n B dX12_twice_3 rfl rfl ?_
  refine v_bipush B (v := iI 7) dX12_twice_4 (by decide +kernel) ?_
  obtain ⟨z4, e5⟩ : ∃ z : Int, z = x0 / 128 := ⟨_, rfl⟩
  refine v_ishr B (v := iI z4) dX12_twice_6 ((iI_shr (a := x0) (by omega) 7 (by decide)).trans (congrArg iI (by omega))) ?_
  refine v_sipush B (v := iI 283) dX12_twice_7 (by decide +kernel) ?_
  obtain ⟨z6, e7, r8⟩ := iI_any (iI z4 * iI 283)
  refine v_imul B (v := iI z6) dX12_twice_10 e7 ?_
  obtain ⟨z9, e10, r11⟩ := iI_any (iI z1 ^^^ iI z6)
  refine v_ixor B (v := iI z9) dX12_twice_11 e10 ?_
  refine v_sipush B (v := iI 255) dX12_twice_12 (by decide +kernel) ?_
  obtain ⟨z12, e13, r14⟩ := iI_and z9 (c := 255) (by decide) (by decide)
  refine v_iand B (v := iI z12) dX12_twice_15 e13 ?_
  exact hend z12 _ _ ⟨by omega, by omega⟩ dX12_twice_16
set_option maxRecDepth 100000 in
theorem c_M_twice (l : Launch) (D : va_G) (K : Nat → ClassId) {τ : Nat → Option Ty} {dom : List Nat} (Z : Sk τ dom) (zb zL : Nat) (zx : Nat → Int32) (zs : Nat → Nat) (h : Nat) (q : Nat → Nat) (Y : MS τ h q) (x0 : Int) (r_x0 : -2147483648 ≤ x0 ∧ x0 ≤ 2147483647) (σ0 : Nat → va_E) (G0 : GT K h q σ0) : MZ l yX12_twice wp_M_twice ({ frames := 0, cells := 0, slots := 0, locals := 0 }) D (tysA K) [.int (iI x0)] (fd dom σ0) zb zL zx zs (Qi D (fun r σ' => σ0 = σ' ∧ ∃ z : Int, r = iI z ∧ (0 ≤ z ∧ z ≤ 255)) (fun σ' => fd dom σ')) 0 0 := by
  refine mz_of (cc := cX12_twice) (maxL := 1) (ret := (some .int)) (by decide +kernel) rfl (Nat.le_of_ble_eq_true rfl) ?_
  intro p e s m below meth c A B hr hlk _ hz
  exact b_M_twice ⟨Nat.le_refl _, Nat.le_refl _⟩ B Z hz h q Y x0 r_x0 σ0 G0 (fun z lv pc hZ hd => v_iret B hr hlk σ0 ⟨rfl, z, rfl, hZ⟩ rfl (Nat.le_refl _) (Nat.le_refl _) hd)

def wp_M_times : List Cond := .code yX12_times cX12_times 5 (some .int) :: (([.methodLink RX12 14 yX12_twice, .static yX12_twice, .initialized RX12, .code yX12_twice cX12_twice 1 (some .int)] : List Cond) ++ ([]))
set_option maxRecDepth 100000 in
theorem gd_M_times_M_twice_14 : GoodIn wp_M_times (va_wsS RX12 14 yX12_twice wp_M_twice) := goodIn_app (goodIn_r _ [1, 2, 3] rfl rfl) (goodIn_ca (goodIn_r _ [4] rfl rfl) (goodIn_nil))
set_option maxHeartbeats 4000000 in
set_option maxRecDepth 100000 in
theorem b_M_times {p : Program} {l : Launch} {e : Env} {R : Room} {s : State} {m : MethodId} {args : Array Value} {below : List Frame} {meth : Method} {c : Code} {D : va_G} {K : Nat → ClassId} {A : Nat → Prop} {Q : State → Prop} {τ : Nat → Option Ty} {dom : List Nat} {zb zL : Nat} {zx : Nat → Int32} {zs : Nat → Nat} (hR : 1 ≤ R.frames ∧ 20 ≤ R.locals) (B : Bx p s m args c cX12_times 5 RX12 wp_M_times D (tysA K) A) (Z : Sk τ dom) (hz : ZL zb zL zx zs A s s.heap) (h : Nat) (q : Nat → Nat) (Y : MS τ h q) (x0 : Int) (x1 : Int) (r_x0 : -2147483648 ≤ x0 ∧ x0 ≤ 2147483647) (r_x1 : -2147483648 ≤ x1 ∧ x1 ≤ 2147483647) (σ0 : Nat → va_E) (G0 : GT K h q σ0) (hend : ∀ (z : Int) (lv : List (Nat × Value)) (pc : Nat), (-2147483648 ≤ z ∧ z ≤ 2147483647) → decode cX12_times pc = .ok (.ireturn, 1) → V p l e R s m args below meth c 5 D A Q (0, 0) (fd dom σ0) lv pc [.int (iI z)]) : V p l e R s m args below meth c 5 D A Q (0, 0) (fd dom σ0) [(0, .int (iI x0)), (1, .int (iI x1))] 0 [] := by
  have J7 : ∀ (k7 : Nat) (z7_2 : Int) (z7_3 : Int) (z7_4 : Int), (2147483648 - z7_4).toNat ≤ k7 → (-2147483648 ≤ z7_2 ∧ z7_2 ≤ 2147483647) → (-2147483648 ≤ z7_3 ∧ z7_3 ≤ 2147483647) → (0 ≤ z7_4 ∧ z7_4 ≤ 8) → V p l e R s m args below meth c 5 D A Q (0, 0) (fd dom σ0) [(1, .int (iI x1)), (2, .int (iI z7_2)), (3, .int (iI z7_3)), (4, .int (iI z7_4))] 7 [] := by
    intro k7
    induction k7 with
    | zero => intro z7_2 z7_3 z7_4 m7 r7_2 r7_3 r7_4; omega
    | succ k7 IH7 =>
      intro z7_2 z7_3 z7_4 m7 r7_2 r7_3 r7_4
      have J28 : ∀ (z28_2 : Int), (0 ≤ z7_4 ∧ z7_4 ≤ 7) → (-2147483648 ≤ z28_2 ∧ z28_2 ≤ 2147483647) → V p l e R s m args below meth c 5 D A Q (0, 0) (fd dom σ0) [(1, .int (iI x1)), (2, .int (iI z28_2)), (3, .int (iI z7_3)), (4, .int (iI z7_4))] 28 [] := by
        intro z28_2 rv28_z7_4 r28_2
        refine v_iload_n B dX12_times_28 rfl rfl ?_
        refine u_callSi B Z hz (n := 1) (As := [.int (iI z7_3)]) (rest := []) (c_M_twice l D K Z _ _ _ _ h q Y z7_3 ⟨by omega, by omega⟩ σ0 (G0)) gd_M_times_M_twice_14 rfl rfl rfl (by decide +kernel) ⟨Nat.le_trans (by decide +kernel) hR.1, Nat.le_trans (by decide +kernel) hR.2⟩ rfl rfl (Nat.le_of_ble_eq_true rfl) dX12_times_29 ⟨Nat.zero_le _, Nat.zero_le _⟩ (fun v3 σ1 p2 => ?_)
        obtain ⟨rfl, z4, e5, r6⟩ := p2
        subst e5
        refine v_istore_n B (lv' := [(3, .int (iI z4)), (1, .int (iI x1)), (2, .int (iI z28_2)), (4, .int (iI z7_4))]) dX12_times_32 rfl (by decide +kernel) rfl ?_
        refine v_iinc B (k := 3) (v := iI (z7_4 + 1)) (lv' := [(4, .int (iI (z7_4 + 1))), (3, .int (iI z4)), (1, .int (iI x1)), (2, .int (iI z28_2))]) dX12_times_33 rfl ((iI_add _ _).trans (congrArg iI (by omega))) (by decide +kernel) rfl ?_
        refine v_goto B (tgt := 7) dX12_times_36 (by decide +kernel) ?_
        refine v_lv [2, 3, 1, 0] rfl ?_
        exact IH7 z28_2 z4 (z7_4 + 1) (by omega) ⟨by omega, by omega⟩ ⟨by omega, by omega⟩ ⟨by omega, by omega⟩
      refine v_iload B dX12_times_7 rfl ?_
      refine v_bipush B (v := iI 8) dX12_times_9 (by decide +kernel) ?_
      refine u_icmp_ge B (tgt := 39) (by omega) (by omega) dX12_times_11 (by decide +kernel) (fun c7 => ?_) (fun c7 => ?_)
      · refine v_iload_n B dX12_times_39 rfl rfl ?_
        exact hend z7_2 _ _ ⟨by omega, by omega⟩ dX12_times_40
      · refine v_iload_n B dX12_times_14 rfl rfl ?_
        refine v_iload B dX12_times_15 rfl ?_
        obtain ⟨z8, e9, r10⟩ := iI_any (iI x1 >>> (iI z7_4 &&& 31))
        refine v_ishr B (v := iI z8) dX12_times_17 e9 ?_
        refine v_iconst B (v := iI 1) dX12_times_18 rfl ?_
        obtain ⟨z11, e12, r13⟩ := iI_and z8 (c := 1) (by decide) (by decide)
        refine v_iand B (v := iI z11) dX12_times_19 e12 ?_
        refine v_iconst B (v := iI 1) dX12_times_20 rfl ?_
        refine u_icmp_ne B (tgt := 28) (by omega) (by omega) dX12_times_21 (by decide +kernel) (fun c14 => ?_) (fun c14 => ?_)
        · exact J28 z7_2 ⟨by omega, by omega⟩ ⟨by omega, by omega⟩
        · refine v_iload_n B dX12_times_24 rfl rfl ?_
          refine v_iload_n B dX12_times_25 rfl rfl ?_
          obtain ⟨z15, e16, r17⟩ := iI_any (iI z7_2 ^^^ iI z7_3)
          refine v_ixor B (v := iI z15) dX12_times_26 e16 ?_
          refine v_istore_n B (lv' := [(2, .int (iI z15)), (1, .int (iI x1)), (3, .int (iI z7_3)), (4, .int (iI z7_4))]) dX12_times_27 rfl (by decide +kernel) rfl ?_
          refine v_lv [1, 0, 2, 3] rfl ?_
          exact J28 z15 ⟨by omega, by omega⟩ ⟨by omega, by omega⟩
  refine v_iconst B (v := iI 0) dX12_times_0 rfl ?_
  refine v_istore_n B (lv' := [(2, .int (iI 0)), (0, .int (iI x0)), (1, .int (iI x1))]) dX12_times_1 rfl (by decide +kernel) rfl ?_
  refine v_iload_n B dX12_times_2 rfl rfl ?_
  refine v_istore_n B (lv' := [(3, .int (iI x0)), (2, .int (iI 0)), (0, .int (iI x0)), (1, .int (iI x1))]) dX12_times_3 rfl (by decide +kernel) rfl ?_
  refine v_iconst B (v := iI 0) dX12_times_4 rfl ?_
  refine v_istore B (lv' := [(4, .int (iI 0)), (3, .int (iI x0)), (2, .int (iI 0)), (0, .int (iI x0)), (1, .int (iI x1))]) dX12_times_5 (by decide +kernel) rfl ?_
  refine v_lv [4, 2, 1, 0] rfl ?_
  exact J7 _ 0 x0 0 (Nat.le_refl _) ⟨by omega, by omega⟩ ⟨by omega, by omega⟩ ⟨by omega, by omega⟩
set_option maxRecDepth 100000 in
theorem c_M_times (l : Launch) (D : va_G) (K : Nat → ClassId) {τ : Nat → Option Ty} {dom : List Nat} (Z : Sk τ dom) (zb zL : Nat) (zx : Nat → Int32) (zs : Nat → Nat) (h : Nat) (q : Nat → Nat) (Y : MS τ h q) (x0 : Int) (x1 : Int) (r_x0 : -2147483648 ≤ x0 ∧ x0 ≤ 2147483647) (r_x1 : -2147483648 ≤ x1 ∧ x1 ≤ 2147483647) (σ0 : Nat → va_E) (G0 : GT K h q σ0) : MZ l yX12_times wp_M_times ({ frames := 1, cells := 0, slots := 0, locals := 20 }) D (tysA K) [.int (iI x0), .int (iI x1)] (fd dom σ0) zb zL zx zs (Qi D (fun r σ' => σ0 = σ' ∧ ∃ z : Int, r = iI z ∧ (-2147483648 ≤ z ∧ z ≤ 2147483647)) (fun σ' => fd dom σ')) 0 0 := by
  refine mz_of (cc := cX12_times) (maxL := 5) (ret := (some .int)) (by decide +kernel) rfl (Nat.le_of_ble_eq_true rfl) ?_
  intro p e s m below meth c A B hr hlk _ hz
  exact b_M_times ⟨Nat.le_refl _, Nat.le_refl _⟩ B Z hz h q Y x0 x1 r_x0 r_x1 σ0 G0 (fun z lv pc hZ hd => v_iret B hr hlk σ0 ⟨rfl, z, rfl, hZ⟩ rfl (Nat.le_refl _) (Nat.le_refl _) hd)

def wp_MbitCount : List Cond := .code yJ13_bitCount_95d88 cJ13_bitCount_95d88 2 (some .int) :: (([.constantLong RJ13 314 (6148914691236517205), .constantLong RJ13 316 (3689348814741910323), .constantLong RJ13 318 (1085102592571150095)] : List Cond) ++ ([]))
set_option maxHeartbeats 4000000 in
set_option maxRecDepth 100000 in
theorem b_MbitCount {p : Program} {l : Launch} {e : Env} {R : Room} {s : State} {m : MethodId} {args : Array Value} {below : List Frame} {meth : Method} {c : Code} {D : va_G} {K : Nat → ClassId} {A : Nat → Prop} {Q : State → Prop} {τ : Nat → Option Ty} {dom : List Nat} {zb zL : Nat} {zx : Nat → Int32} {zs : Nat → Nat} (hR : 0 ≤ R.frames ∧ 0 ≤ R.locals) (B : Bx p s m args c cJ13_bitCount_95d88 2 RJ13 wp_MbitCount D (tysA K) A) (Z : Sk τ dom) (hz : ZL zb zL zx zs A s s.heap) (h : Nat) (q : Nat → Nat) (Y : MS τ h q) (y1 : Int) (r_y1 : InL y1) (σ0 : Nat → va_E) (G0 : GT K h q σ0) (hend : ∀ (z : Int) (lv : List (Nat × Value)) (pc : Nat), (0 ≤ z ∧ z ≤ 127) → (iI z = bcM (lI y1)) → decode cJ13_bitCount_95d88 pc = .ok (.ireturn, 1) → V p l e R s m args below meth c 2 D A Q (0, 0) (fd dom σ0) lv pc [.int (iI z)]) : V p l e R s m args below meth c 2 D A Q (0, 0) (fd dom σ0) [(0, .long (lI y1))] 0 [] := by
  refine v_lload_n B dJ13_bitCount_95d88_0 rfl rfl ?_
  refine v_lload_n B dJ13_bitCount_95d88_1 rfl rfl ?_
  refine v_iconst B (v := iI 1) dJ13_bitCount_95d88_2 rfl ?_
  obtain ⟨yy1, e2, r3⟩ := lI_any (((lI y1).toUInt64 >>> ((iI 1).toInt64.toUInt64 &&& Int64.toUInt64 63)).toInt64)
  refine v_lushr B (v := lI yy1) dJ13_bitCount_95d88_3 e2 ?_
  refine v_ldc2 B (v := lI 6148914691236517205) (u_cl (List.mem_of_getElem? (i := 1) rfl) (by decide +kernel)) dJ13_bitCount_95d88_4 ?_
  obtain ⟨yy4, e5, r6⟩ := lI_and yy1 (c := 6148914691236517205) (by decide) (by decide)
  refine v_land B (v := lI yy4) dJ13_bitCount_95d88_7 e5 ?_
  obtain ⟨yy7, e8, r9⟩ := lI_any (lI y1 - lI yy4)
  refine v_lsub B (v := lI yy7) dJ13_bitCount_95d88_8 e8 ?_
  refine v_lstore_n B (lv' := [(0, .long (lI yy7))]) dJ13_bitCount_95d88_9 rfl (by decide +kernel) rfl ?_
  refine v_lload_n B dJ13_bitCount_95d88_10 rfl rfl ?_
  refine v_ldc2 B (v := lI 3689348814741910323) (u_cl (List.mem_of_getElem? (i := 2) rfl) (by decide +kernel)) dJ13_bitCount_95d88_11 ?_
  obtain ⟨yy10, e11, r12⟩ := lI_and yy7 (c := 3689348814741910323) (by decide) (by decide)
  refine v_land B (v := lI yy10) dJ13_bitCount_95d88_14 e11 ?_
  refine v_lload_n B dJ13_bitCount_95d88_15 rfl rfl ?_
  refine v_iconst B (v := iI 2) dJ13_bitCount_95d88_16 rfl ?_
  obtain ⟨yy13, e14, r15⟩ := lI_any (((lI yy7).toUInt64 >>> ((iI 2).toInt64.toUInt64 &&& Int64.toUInt64 63)).toInt64)
  refine v_lushr B (v := lI yy13) dJ13_bitCount_95d88_17 e14 ?_
  refine v_ldc2 B (v := lI 3689348814741910323) (u_cl (List.mem_of_getElem? (i := 2) rfl) (by decide +kernel)) dJ13_bitCount_95d88_18 ?_
  obtain ⟨yy16, e17, r18⟩ := lI_and yy13 (c := 3689348814741910323) (by decide) (by decide)
  refine v_land B (v := lI yy16) dJ13_bitCount_95d88_21 e17 ?_
  obtain ⟨yy19, e20, r21⟩ := lI_any (lI yy10 + lI yy16)
  refine v_ladd B (v := lI yy19) dJ13_bitCount_95d88_22 e20 ?_
  refine v_lstore_n B (lv' := [(0, .long (lI yy19))]) dJ13_bitCount_95d88_23 rfl (by decide +kernel) rfl ?_
  refine v_lload_n B dJ13_bitCount_95d88_24 rfl rfl ?_
  refine v_lload_n B dJ13_bitCount_95d88_25 rfl rfl ?_
  refine v_iconst B (v := iI 4) dJ13_bitCount_95d88_26 rfl ?_
  obtain ⟨yy22, e23, r24⟩ := lI_any (((lI yy19).toUInt64 >>> ((iI 4).toInt64.toUInt64 &&& Int64.toUInt64 63)).toInt64)
  refine v_lushr B (v := lI yy22) dJ13_bitCount_95d88_27 e23 ?_
  obtain ⟨yy25, e26, r27⟩ := lI_any (lI yy19 + lI yy22)
  refine v_ladd B (v := lI yy25) dJ13_bitCount_95d88_28 e26 ?_
  refine v_ldc2 B (v := lI 1085102592571150095) (u_cl (List.mem_of_getElem? (i := 3) rfl) (by decide +kernel)) dJ13_bitCount_95d88_29 ?_
  obtain ⟨yy28, e29, r30⟩ := lI_and yy25 (c := 1085102592571150095) (by decide) (by decide)
  refine v_land B (v := lI yy28) dJ13_bitCount_95d88_32 e29 ?_
  refine v_lstore_n B (lv' := [(0, .long (lI yy28))]) dJ13_bitCount_95d88_33 rfl (by decide +kernel) rfl ?_
  refine v_lload_n B dJ13_bitCount_95d88_34 rfl rfl ?_
  refine v_lload_n B dJ13_bitCount_95d88_35 rfl rfl ?_
  refine v_bipush B (v := iI 8) dJ13_bitCount_95d88_36 (by decide +kernel) ?_
  obtain ⟨yy31, e32, r33⟩ := lI_any (((lI yy28).toUInt64 >>> ((iI 8).toInt64.toUInt64 &&& Int64.toUInt64 63)).toInt64)
  refine v_lushr B (v := lI yy31) dJ13_bitCount_95d88_38 e32 ?_
  obtain ⟨yy34, e35, r36⟩ := lI_any (lI yy28 + lI yy31)
  refine v_ladd B (v := lI yy34) dJ13_bitCount_95d88_39 e35 ?_
  refine v_lstore_n B (lv' := [(0, .long (lI yy34))]) dJ13_bitCount_95d88_40 rfl (by decide +kernel) rfl ?_
  refine v_lload_n B dJ13_bitCount_95d88_41 rfl rfl ?_
  refine v_lload_n B dJ13_bitCount_95d88_42 rfl rfl ?_
  refine v_bipush B (v := iI 16) dJ13_bitCount_95d88_43 (by decide +kernel) ?_
  obtain ⟨yy37, e38, r39⟩ := lI_any (((lI yy34).toUInt64 >>> ((iI 16).toInt64.toUInt64 &&& Int64.toUInt64 63)).toInt64)
  refine v_lushr B (v := lI yy37) dJ13_bitCount_95d88_45 e38 ?_
  obtain ⟨yy40, e41, r42⟩ := lI_any (lI yy34 + lI yy37)
  refine v_ladd B (v := lI yy40) dJ13_bitCount_95d88_46 e41 ?_
  refine v_lstore_n B (lv' := [(0, .long (lI yy40))]) dJ13_bitCount_95d88_47 rfl (by decide +kernel) rfl ?_
  refine v_lload_n B dJ13_bitCount_95d88_48 rfl rfl ?_
  refine v_lload_n B dJ13_bitCount_95d88_49 rfl rfl ?_
  refine v_bipush B (v := iI 32) dJ13_bitCount_95d88_50 (by decide +kernel) ?_
  obtain ⟨yy43, e44, r45⟩ := lI_any (((lI yy40).toUInt64 >>> ((iI 32).toInt64.toUInt64 &&& Int64.toUInt64 63)).toInt64)
  refine v_lushr B (v := lI yy43) dJ13_bitCount_95d88_52 e44 ?_
  obtain ⟨yy46, e47, r48⟩ := lI_any (lI yy40 + lI yy43)
  refine v_ladd B (v := lI yy46) dJ13_bitCount_95d88_53 e47 ?_
  refine v_lstore_n B (lv' := [(0, .long (lI yy46))]) dJ13_bitCount_95d88_54 rfl (by decide +kernel) rfl ?_
  refine v_lload_n B dJ13_bitCount_95d88_55 rfl rfl ?_
  obtain ⟨z49, e50, r51⟩ := iI_any ((lI yy46).toInt32)
  refine v_l2i B (v := iI z49) dJ13_bitCount_95d88_56 e50 ?_
  refine v_bipush B (v := iI 127) dJ13_bitCount_95d88_57 (by decide +kernel) ?_
  obtain ⟨z52, e53, r54⟩ := iI_and z49 (c := 127) (by decide) (by decide)
  refine v_iand B (v := iI z52) dJ13_bitCount_95d88_59 e53 ?_
  exact hend z52 _ _ ⟨by omega, by omega⟩ (by unfold bcM mcs mc3 mc2 mc1; simp only [e2, e5, e8, e11, e14, e17, e20, e23, e26, e29, e32, e35, e38, e41, e44, e47, e50, e53]) dJ13_bitCount_95d88_60
set_option maxRecDepth 100000 in
theorem c_MbitCount (l : Launch) (D : va_G) (K : Nat → ClassId) {τ : Nat → Option Ty} {dom : List Nat} (Z : Sk τ dom) (zb zL : Nat) (zx : Nat → Int32) (zs : Nat → Nat) (h : Nat) (q : Nat → Nat) (Y : MS τ h q) (y1 : Int) (r_y1 : InL y1) (σ0 : Nat → va_E) (G0 : GT K h q σ0) : MZ l yJ13_bitCount_95d88 wp_MbitCount ({ frames := 0, cells := 0, slots := 0, locals := 0 }) D (tysA K) [.long (lI y1)] (fd dom σ0) zb zL zx zs (Qi D (fun r σ' => σ0 = σ' ∧ ∃ z : Int, r = iI z ∧ (0 ≤ z ∧ z ≤ 127) ∧ (iI z = bcM (lI y1))) (fun σ' => fd dom σ')) 0 0 := by
  refine mz_of (cc := cJ13_bitCount_95d88) (maxL := 2) (ret := (some .int)) (by decide +kernel) rfl (Nat.le_of_ble_eq_true rfl) ?_
  intro p e s m below meth c A B hr hlk _ hz
  exact b_MbitCount ⟨Nat.le_refl _, Nat.le_refl _⟩ B Z hz h q Y y1 r_y1 σ0 G0 (fun z lv pc hZ hP hd => v_iret B hr hlk σ0 ⟨rfl, z, rfl, hZ, hP⟩ rfl (Nat.le_refl _) (Nat.le_refl _) hd)

def wp_M_isMap : List Cond := .code yX12_isMap cX12_isMap 2 (some .boolean) :: (([.constantLong RX12 396 (137438953472), .methodLink RX12 398 yJ13_bitCount_95d88, .static yJ13_bitCount_95d88, .initialized RJ13, .code yJ13_bitCount_95d88 cJ13_bitCount_95d88 2 (some .int), .constantLong RJ13 314 (6148914691236517205), .constantLong RJ13 316 (3689348814741910323), .constantLong RJ13 318 (1085102592571150095)] : List Cond) ++ ([]))
set_option maxRecDepth 100000 in
theorem gd_M_isMap_MbitCount_398 : GoodIn wp_M_isMap (va_wsS RX12 398 yJ13_bitCount_95d88 wp_MbitCount) := goodIn_app (goodIn_r _ [2, 3, 4] rfl rfl) (goodIn_ca (goodIn_r _ [5, 6, 7, 8] rfl rfl) (goodIn_nil))
set_option maxHeartbeats 4000000 in
set_option maxRecDepth 100000 in
theorem b_M_isMap {p : Program} {l : Launch} {e : Env} {R : Room} {s : State} {m : MethodId} {args : Array Value} {below : List Frame} {meth : Method} {c : Code} {D : va_G} {K : Nat → ClassId} {A : Nat → Prop} {Q : State → Prop} {τ : Nat → Option Ty} {dom : List Nat} {zb zL : Nat} {zx : Nat → Int32} {zs : Nat → Nat} (hR : 1 ≤ R.frames ∧ 21 ≤ R.locals) (B : Bx p s m args c cX12_isMap 2 RX12 wp_M_isMap D (tysA K) A) (Z : Sk τ dom) (hz : ZL zb zL zx zs A s s.heap) (h : Nat) (q : Nat → Nat) (Y : MS τ h q) (y0 : Int) (r_y0 : InL y0) (σ0 : Nat → va_E) (G0 : GT K h q σ0) (hend : ∀ (z : Int) (lv : List (Nat × Value)) (pc : Nat), (0 ≤ z ∧ z ≤ 1) → (z = 1 → hb (lI y0)) → decode cX12_isMap pc = .ok (.ireturn, 1) → V p l e R s m args below meth c 2 D A Q (0, 0) (fd dom σ0) lv pc [.int (iI z)]) : V p l e R s m args below meth c 2 D A Q (0, 0) (fd dom σ0) [(0, .long (lI y0))] 0 [] := by
  refine v_lload_n B dX12_isMap_0 rfl rfl ?_
  refine v_lconst B (v := lI 0) dX12_isMap_1 (by decide +kernel) ?_
  obtain ⟨z1, e2, r3⟩ := iI_any (lg_cmp (lI y0) (lI 0))
  refine v_lcmp B (v := iI z1) dX12_isMap_2 e2 ?_
  refine u_if_lt B (tgt := 26) (by omega) dX12_isMap_3 (by decide +kernel) (fun c4 => ?_) (fun c4 => ?_)
  · refine v_iconst B (v := iI 0) dX12_isMap_26 rfl ?_
    exact hend 0 _ _ ⟨by omega, by omega⟩ (fun q => by omega) dX12_isMap_27
  · refine v_lload_n B dX12_isMap_6 rfl rfl ?_
    refine v_ldc2 B (v := lI 137438953472) (u_cl (List.mem_of_getElem? (i := 1) rfl) (by decide +kernel)) dX12_isMap_7 ?_
    obtain ⟨z5, e6, r7⟩ := iI_any (lg_cmp (lI y0) (lI 137438953472))
    refine v_lcmp B (v := iI z5) dX12_isMap_10 e6 ?_
    refine u_if_ge B (tgt := 26) (by omega) dX12_isMap_11 (by decide +kernel) (fun c8 => ?_) (fun c8 => ?_)
    · refine v_iconst B (v := iI 0) dX12_isMap_26 rfl ?_
      exact hend 0 _ _ ⟨by omega, by omega⟩ (fun q => by omega) dX12_isMap_27
    · refine v_lload_n B dX12_isMap_14 rfl rfl ?_
      refine u_callSi B Z hz (n := 1) (As := [.long (lI y0)]) (rest := []) (c_MbitCount l D K Z _ _ _ _ h q Y y0 ⟨by omega, by omega⟩ σ0 (G0)) gd_M_isMap_MbitCount_398 rfl rfl rfl (by decide +kernel) ⟨Nat.le_trans (by decide +kernel) hR.1, Nat.le_trans (by decide +kernel) hR.2⟩ rfl rfl (Nat.le_of_ble_eq_true rfl) dX12_isMap_15 ⟨Nat.zero_le _, Nat.zero_le _⟩ (fun v11 σ9 p10 => ?_)
      obtain ⟨rfl, z12, e13, r14, po15⟩ := p10
      subst e13
      refine v_iconst B (v := iI 1) dX12_isMap_18 rfl ?_
      refine u_icmp_le B (tgt := 26) (by omega) (by omega) dX12_isMap_19 (by decide +kernel) (fun c16 => ?_) (fun c16 => ?_)
      · refine v_iconst B (v := iI 0) dX12_isMap_26 rfl ?_
        exact hend 0 _ _ ⟨by omega, by omega⟩ (fun q => by omega) dX12_isMap_27
      · refine v_iconst B (v := iI 1) dX12_isMap_22 rfl ?_
        refine v_goto B (tgt := 27) dX12_isMap_23 (by decide +kernel) ?_
        exact hend 1 _ _ ⟨by omega, by omega⟩ (fun _ => by unfold hb; rw [← po15, iI_toInt (by omega)]; omega) dX12_isMap_27
set_option maxRecDepth 100000 in
theorem c_M_isMap (l : Launch) (D : va_G) (K : Nat → ClassId) {τ : Nat → Option Ty} {dom : List Nat} (Z : Sk τ dom) (zb zL : Nat) (zx : Nat → Int32) (zs : Nat → Nat) (h : Nat) (q : Nat → Nat) (Y : MS τ h q) (y0 : Int) (r_y0 : InL y0) (σ0 : Nat → va_E) (G0 : GT K h q σ0) : MZ l yX12_isMap wp_M_isMap ({ frames := 1, cells := 0, slots := 0, locals := 21 }) D (tysA K) [.long (lI y0)] (fd dom σ0) zb zL zx zs (Qi D (fun r σ' => σ0 = σ' ∧ ∃ z : Int, r = iI z ∧ (0 ≤ z ∧ z ≤ 1) ∧ (z = 1 → hb (lI y0))) (fun σ' => fd dom σ')) 0 0 := by
  refine mz_of (cc := cX12_isMap) (maxL := 2) (ret := (some .boolean)) (by decide +kernel) rfl (Nat.le_of_ble_eq_true rfl) ?_
  intro p e s m below meth c A B hr hlk _ hz
  exact b_M_isMap ⟨Nat.le_refl _, Nat.le_refl _⟩ B Z hz h q Y y0 r_y0 σ0 G0 (fun z lv pc hZ hP hd => v_zret B hr hlk (nar01 (by omega)) σ0 ⟨rfl, z, rfl, hZ, hP⟩ rfl (Nat.le_refl _) (Nat.le_refl _) hd)

def wp_M_numberP : List Cond := .code yX12_number cX12_number 6 none :: (([] : List Cond) ++ ([]))
set_option maxHeartbeats 4000000 in
set_option maxRecDepth 100000 in
theorem b_M_numberP {p : Program} {l : Launch} {e : Env} {R : Room} {s : State} {m : MethodId} {args : Array Value} {below : List Frame} {meth : Method} {c : Code} {D : va_G} {K : Nat → ClassId} {A : Nat → Prop} {Q : State → Prop} {τ : Nat → Option Ty} {dom : List Nat} {zb zL : Nat} {zx : Nat → Int32} {zs : Nat → Nat} (hR : 0 ≤ R.frames ∧ 0 ≤ R.locals) (B : Bx p s m args c cX12_number 6 RX12 wp_M_numberP D (tysA K) A) (Z : Sk τ dom) (hz : ZL zb zL zx zs A s s.heap) (h : Nat) (q : Nat → Nat) (Y : MS τ h q) (j1 Nj1 : Nat) (x1 : Int) (y2 : Int) (x4 : Int) (hj_j1 : tabM[j1]? = some (2, Nj1, -128, 127)) (r_x1 : 0 ≤ x1 ∧ x1 ≤ 1600) (r_y2 : InL y2) (r_x4 : 0 ≤ x4 ∧ x4 ≤ 8) (σ0 : Nat → va_E) (G0 : GM K h q σ0) (hc : 0 ≤ x1 ∧ x1 + x4 ≤ (Nj1 : Int)) (hend : ∀ (σ' : Nat → va_E) (lv : List (Nat × Value)) (pc : Nat), GM K h q σ' → Fr τ [(100 + j1, 0)] σ0 σ' → decode cX12_number pc = .ok (.return_, 1) → V p l e R s m args below meth c 6 D A Q (0, 0) (fd dom σ') lv pc []) : V p l e R s m args below meth c 6 D A Q (0, 0) (fd dom σ0) [(0, .ref (q j1)), (1, .int (iI x1)), (2, .long (lI y2)), (4, .int (iI x4))] 0 [] := by
  have F0 : Fr τ [(100 + j1, 0)] σ0 σ0 := Fr.rf
  have hN_j1 := lenB hj_j1
  have J3 : ∀ (k3 : Nat) (σ_3 : Nat → va_E) (z3_5 : Int), (2147483648 - z3_5).toNat ≤ k3 → GM K h q σ_3 → Fr τ [(100 + j1, 0)] σ0 σ_3 → (0 ≤ z3_5 ∧ z3_5 ≤ 8) → V p l e R s m args below meth c 6 D A Q (0, 0) (fd dom σ_3) [(0, .ref (q j1)), (1, .int (iI x1)), (2, .long (lI y2)), (4, .int (iI x4)), (5, .int (iI z3_5))] 3 [] := by
    intro k3
    induction k3 with
    | zero => intro σ_3 z3_5 m3 G_3 F_3 r3_5; omega
    | succ k3 IH3 =>
      intro σ_3 z3_5 m3 G_3 F_3 r3_5
      refine v_iload B dX12_number_3 rfl ?_
      refine v_iload B dX12_number_5 rfl ?_
      refine u_icmp_ge B (tgt := 31) (by omega) (by omega) dX12_number_7 (by decide +kernel) (fun c1 => ?_) (fun c1 => ?_)
      · exact hend σ_3 _ _ G_3 F_3 dX12_number_31
      · refine v_aload_n B dX12_number_10 rfl rfl ?_
        refine v_iload_n B dX12_number_11 rfl rfl ?_
        refine v_iload B dX12_number_12 rfl ?_
        refine v_iadd B (v := iI (x1 + z3_5)) dX12_number_14 ((iI_add _ _).trans (congrArg iI (by omega))) ?_
        refine v_lload_n B dX12_number_15 rfl rfl ?_
        refine v_bipush B (v := iI 8) dX12_number_16 (by decide +kernel) ?_
        refine v_iload B dX12_number_18 rfl ?_
        refine v_imul B (v := iI (8 * z3_5)) dX12_number_20 ((iI_mul _ _).trans (congrArg iI (by omega))) ?_
        obtain ⟨yy2, e3, r4⟩ := lI_any (lI y2 >>> ((iI (8 * z3_5)).toInt64 &&& 63))
        refine v_lshr B (v := lI yy2) dX12_number_21 e3 ?_
        obtain ⟨z5, e6, r7⟩ := iI_any ((lI yy2).toInt32)
        refine v_l2i B (v := iI z5) dX12_number_22 e6 ?_
        obtain ⟨z8, e9, r10⟩ := iI_i8 z5
        refine v_i2b B (v := iI z8) dX12_number_23 e9 ?_
        obtain ⟨f11, h12, e13⟩ := G_3.t.byte hj_j1
        refine u_bast B Z (t0 := 2) (x := iI z8) (y := iI z8) (Y.byte hj_j1) h12 rfl (by omega) (nar8 (by omega)) dX12_number_24 (fun σ14 h15 n16 => ?_)
        have F17 := F_3.put (Y.byte hj_j1) (by simp) n16
        have G18 := G_3.putB Y hj_j1 ⟨_, h15, el_upd (z := z8) e13 ⟨by omega, by omega⟩ _⟩ n16
        refine v_iinc B (k := 4) (v := iI (z3_5 + 1)) (lv' := [(5, .int (iI (z3_5 + 1))), (0, .ref (q j1)), (1, .int (iI x1)), (2, .long (lI y2)), (4, .int (iI x4))]) dX12_number_25 rfl ((iI_add _ _).trans (congrArg iI (by omega))) (by decide +kernel) rfl ?_
        refine v_goto B (tgt := 3) dX12_number_28 (by decide +kernel) ?_
        refine v_lv [1, 2, 3, 4, 0] rfl ?_
        exact IH3 σ14 (z3_5 + 1) (by omega) G18 F17 ⟨by omega, by omega⟩
  refine v_iconst B (v := iI 0) dX12_number_0 rfl ?_
  refine v_istore B (lv' := [(5, .int (iI 0)), (0, .ref (q j1)), (1, .int (iI x1)), (2, .long (lI y2)), (4, .int (iI x4))]) dX12_number_1 (by decide +kernel) rfl ?_
  refine v_lv [1, 2, 3, 4, 0] rfl ?_
  exact J3 _ σ0 0 (Nat.le_refl _) G0 F0 ⟨by omega, by omega⟩
set_option maxRecDepth 100000 in
theorem c_M_numberP (l : Launch) (D : va_G) (K : Nat → ClassId) {τ : Nat → Option Ty} {dom : List Nat} (Z : Sk τ dom) (zb zL : Nat) (zx : Nat → Int32) (zs : Nat → Nat) (h : Nat) (q : Nat → Nat) (Y : MS τ h q) (j1 Nj1 : Nat) (x1 : Int) (y2 : Int) (x4 : Int) (hj_j1 : tabM[j1]? = some (2, Nj1, -128, 127)) (r_x1 : 0 ≤ x1 ∧ x1 ≤ 1600) (r_y2 : InL y2) (r_x4 : 0 ≤ x4 ∧ x4 ≤ 8) (σ0 : Nat → va_E) (G0 : GM K h q σ0) (hc : 0 ≤ x1 ∧ x1 + x4 ≤ (Nj1 : Int)) : MZ l yX12_number wp_M_numberP ({ frames := 0, cells := 0, slots := 0, locals := 0 }) D (tysA K) [.ref (q j1), .int (iI x1), .long (lI y2), .int (iI x4)] (fd dom σ0) zb zL zx zs (Qv D (fun σ' => GM K h q σ' ∧ Fr τ [(100 + j1, 0)] σ0 σ') (fun σ' => fd dom σ')) 0 0 := by
  refine mz_of (cc := cX12_number) (maxL := 6) (ret := none) (by decide +kernel) rfl (Nat.le_of_ble_eq_true rfl) ?_
  intro p e s m below meth c A B hr hlk _ hz
  exact b_M_numberP ⟨Nat.le_refl _, Nat.le_refl _⟩ B Z hz h q Y j1 Nj1 x1 y2 x4 hj_j1 r_x1 r_y2 r_x4 σ0 G0 hc (fun σ' lv pc G F hd => v_vret B hr hlk σ' ⟨G, F⟩ rfl (Nat.le_refl _) (Nat.le_refl _) hd)

def wp_M_numberG : List Cond := .code yX12_number_ cX12_number_ 6 (some .long) :: (([] : List Cond) ++ ([]))
set_option maxHeartbeats 4000000 in
set_option maxRecDepth 100000 in
theorem b_M_numberG {p : Program} {l : Launch} {e : Env} {R : Room} {s : State} {m : MethodId} {args : Array Value} {below : List Frame} {meth : Method} {c : Code} {D : va_G} {K : Nat → ClassId} {A : Nat → Prop} {Q : State → Prop} {τ : Nat → Option Ty} {dom : List Nat} {zb zL : Nat} {zx : Nat → Int32} {zs : Nat → Nat} (hR : 0 ≤ R.frames ∧ 0 ≤ R.locals) (B : Bx p s m args c cX12_number_ 6 RX12 wp_M_numberG D (tysA K) A) (Z : Sk τ dom) (hz : ZL zb zL zx zs A s s.heap) (h : Nat) (q : Nat → Nat) (Y : MS τ h q) (j1 Nj1 : Nat) (x1 : Int) (x2 : Int) (hj_j1 : tabM[j1]? = some (2, Nj1, -128, 127)) (r_x1 : 0 ≤ x1 ∧ x1 ≤ 1600) (r_x2 : 0 ≤ x2 ∧ x2 ≤ 8) (σ0 : Nat → va_E) (G0 : GT K h q σ0) (hc : 0 ≤ x1 ∧ x1 + x2 ≤ (Nj1 : Int)) (hend : ∀ (z : Int) (lv : List (Nat × Value)) (pc : Nat), (-9223372036854775808 ≤ z ∧ z ≤ 9223372036854775807) → decode cX12_number_ pc = .ok (.lreturn, 1) → V p l e R s m args below meth c 6 D A Q (0, 0) (fd dom σ0) lv pc [.long (lI z)]) : V p l e R s m args below meth c 6 D A Q (0, 0) (fd dom σ0) [(0, .ref (q j1)), (1, .int (iI x1)), (2, .int (iI x2))] 0 [] := by
  have hN_j1 := lenB hj_j1
  have J7 : ∀ (k7 : Nat) (y7_3 : Int) (z7_5 : Int), (z7_5 + 2147483649).toNat ≤ k7 → (InL y7_3) → (-1 ≤ z7_5 ∧ z7_5 ≤ 7) → (z7_5 < x2) → V p l e R s m args below meth c 6 D A Q (0, 0) (fd dom σ0) [(0, .ref (q j1)), (1, .int (iI x1)), (3, .long (lI y7_3)), (5, .int (iI z7_5))] 7 [] := by
    intro k7
    induction k7 with
    | zero => intro y7_3 z7_5 m7 r7_3 r7_5 i7; omega
    | succ k7 IH7 =>
      intro y7_3 z7_5 m7 r7_3 r7_5 i7
      refine v_iload B dX12_number__7 rfl ?_
      refine u_if_lt B (tgt := 35) (by omega) dX12_number__9 (by decide +kernel) (fun c1 => ?_) (fun c1 => ?_)
      · refine v_lload_n B dX12_number__35 rfl rfl ?_
        exact hend y7_3 _ _ ⟨by omega, by omega⟩ dX12_number__36
      · refine v_lload_n B dX12_number__12 rfl rfl ?_
        refine v_bipush B (v := iI 8) dX12_number__13 (by decide +kernel) ?_
        obtain ⟨yy2, e3, r4⟩ := lI_any (lI y7_3 <<< ((iI 8).toInt64 &&& 63))
        refine v_lshl B (v := lI yy2) dX12_number__15 e3 ?_
        refine v_aload_n B dX12_number__16 rfl rfl ?_
        refine v_iload_n B dX12_number__17 rfl rfl ?_
        refine v_iload B dX12_number__18 rfl ?_
        refine v_iadd B (v := iI (x1 + z7_5)) dX12_number__20 ((iI_add _ _).trans (congrArg iI (by omega))) ?_
        obtain ⟨f5, h6, e7⟩ := G0.byte hj_j1
        obtain ⟨z8, e9, r10⟩ := e7 ((x1 + z7_5) : Int).toNat
        refine u_bald B Z (t0 := 2) (Y.byte hj_j1) h6 rfl (by omega) e9 dX12_number__21 ?_
        refine v_sipush B (v := iI 255) dX12_number__22 (by decide +kernel) ?_
        obtain ⟨z11, e12, r13⟩ := iI_and z8 (c := 255) (by decide) (by decide)
        refine v_iand B (v := iI z11) dX12_number__25 e12 ?_
        refine v_i2l B (v := lI z11) dX12_number__26 (lI_i (by omega)) ?_
        obtain ⟨yy14, e15, r16⟩ := lI_any (lI yy2 ||| lI z11)
        refine v_lor B (v := lI yy14) dX12_number__27 e15 ?_
        refine v_lstore_n B (lv' := [(3, .long (lI yy14)), (0, .ref (q j1)), (1, .int (iI x1)), (5, .int (iI z7_5))]) dX12_number__28 rfl (by decide +kernel) rfl ?_
        refine v_iinc B (k := 3) (v := iI (z7_5 + (-1))) (lv' := [(5, .int (iI (z7_5 + (-1)))), (3, .long (lI yy14)), (0, .ref (q j1)), (1, .int (iI x1))]) dX12_number__29 rfl ((iI_add _ _).trans (congrArg iI (by omega))) (by decide +kernel) rfl ?_
        refine v_goto B (tgt := 7) dX12_number__32 (by decide +kernel) ?_
        refine v_lv [2, 3, 1, 0] rfl ?_
        exact IH7 yy14 (z7_5 + (-1)) (by omega) ⟨by omega, by omega⟩ ⟨by omega, by omega⟩ (by omega)
  refine v_lconst B (v := lI 0) dX12_number__0 (by decide +kernel) ?_
  refine v_lstore_n B (lv' := [(3, .long (lI 0)), (0, .ref (q j1)), (1, .int (iI x1)), (2, .int (iI x2))]) dX12_number__1 rfl (by decide +kernel) rfl ?_
  refine v_iload_n B dX12_number__2 rfl rfl ?_
  refine v_iconst B (v := iI 1) dX12_number__3 rfl ?_
  refine v_isub B (v := iI (x2 + (-1))) dX12_number__4 ((iI_sub _ _).trans (congrArg iI (by omega))) ?_
  refine v_istore B (lv' := [(5, .int (iI (x2 + (-1)))), (3, .long (lI 0)), (0, .ref (q j1)), (1, .int (iI x1)), (2, .int (iI x2))]) dX12_number__5 (by decide +kernel) rfl ?_
  refine v_lv [2, 3, 1, 0] rfl ?_
  exact J7 _ 0 (x2 + (-1)) (Nat.le_refl _) ⟨by omega, by omega⟩ ⟨by omega, by omega⟩ (by omega)
set_option maxRecDepth 100000 in
theorem c_M_numberG (l : Launch) (D : va_G) (K : Nat → ClassId) {τ : Nat → Option Ty} {dom : List Nat} (Z : Sk τ dom) (zb zL : Nat) (zx : Nat → Int32) (zs : Nat → Nat) (h : Nat) (q : Nat → Nat) (Y : MS τ h q) (j1 Nj1 : Nat) (x1 : Int) (x2 : Int) (hj_j1 : tabM[j1]? = some (2, Nj1, -128, 127)) (r_x1 : 0 ≤ x1 ∧ x1 ≤ 1600) (r_x2 : 0 ≤ x2 ∧ x2 ≤ 8) (σ0 : Nat → va_E) (G0 : GT K h q σ0) (hc : 0 ≤ x1 ∧ x1 + x2 ≤ (Nj1 : Int)) : MZ l yX12_number_ wp_M_numberG ({ frames := 0, cells := 0, slots := 0, locals := 0 }) D (tysA K) [.ref (q j1), .int (iI x1), .int (iI x2)] (fd dom σ0) zb zL zx zs (Ql D (fun r σ' => σ0 = σ' ∧ ∃ z : Int, r = lI z ∧ (-9223372036854775808 ≤ z ∧ z ≤ 9223372036854775807)) (fun σ' => fd dom σ')) 0 0 := by
  refine mz_of (cc := cX12_number_) (maxL := 6) (ret := (some .long)) (by decide +kernel) rfl (Nat.le_of_ble_eq_true rfl) ?_
  intro p e s m below meth c A B hr hlk _ hz
  exact b_M_numberG ⟨Nat.le_refl _, Nat.le_refl _⟩ B Z hz h q Y j1 Nj1 x1 x2 hj_j1 r_x1 r_x2 σ0 G0 hc (fun z lv pc hZ hd => v_lret B hr hlk σ0 ⟨rfl, z, rfl, hZ⟩ rfl (Nat.le_refl _) (Nat.le_refl _) hd)

def wp_M_crc : List Cond := .code yX12_crc cX12_crc 7 (some .int) :: (([.constant RX12 417 (16777215)] : List Cond) ++ ([]))
set_option maxHeartbeats 4000000 in
set_option maxRecDepth 100000 in
theorem b_M_crc {p : Program} {l : Launch} {e : Env} {R : Room} {s : State} {m : MethodId} {args : Array Value} {below : List Frame} {meth : Method} {c : Code} {D : va_G} {K : Nat → ClassId} {A : Nat → Prop} {Q : State → Prop} {τ : Nat → Option Ty} {dom : List Nat} {zb zL : Nat} {zx : Nat → Int32} {zs : Nat → Nat} (hR : 0 ≤ R.frames ∧ 0 ≤ R.locals) (B : Bx p s m args c cX12_crc 7 RX12 wp_M_crc D (tysA K) A) (Z : Sk τ dom) (hz : ZL zb zL zx zs A s s.heap) (h : Nat) (q : Nat → Nat) (Y : MS τ h q) (j1 Nj1 : Nat) (x1 : Int) (x2 : Int) (x3 : Int) (hj_j1 : tabM[j1]? = some (2, Nj1, -128, 127)) (r_x1 : 0 ≤ x1 ∧ x1 ≤ 40) (r_x2 : 0 ≤ x2 ∧ x2 ≤ 40) (r_x3 : -2147483648 ≤ x3 ∧ x3 ≤ 2147483647) (σ0 : Nat → va_E) (G0 : GT K h q σ0) (hc : x2 ≤ (Nj1 : Int)) (hend : ∀ (z : Int) (lv : List (Nat × Value)) (pc : Nat), (-2147483648 ≤ z ∧ z ≤ 2147483647) → decode cX12_crc pc = .ok (.ireturn, 1) → V p l e R s m args below meth c 7 D A Q (0, 0) (fd dom σ0) lv pc [.int (iI z)]) : V p l e R s m args below meth c 7 D A Q (0, 0) (fd dom σ0) [(0, .ref (q j1)), (1, .int (iI x1)), (2, .int (iI x2)), (3, .int (iI x3))] 0 [] := by
  have hN_j1 := lenB hj_j1
  have J9 : ∀ (k9 : Nat) (z9_4 : Int) (z9_5 : Int), (2147483648 - z9_5).toNat ≤ k9 → (-2147483648 ≤ z9_4 ∧ z9_4 ≤ 2147483647) → (0 ≤ z9_5 ∧ z9_5 ≤ 320) → V p l e R s m args below meth c 7 D A Q (0, 0) (fd dom σ0) [(0, .ref (q j1)), (2, .int (iI x2)), (4, .int (iI z9_4)), (5, .int (iI z9_5))] 9 [] := by
    intro k9
    induction k9 with
    | zero => intro z9_4 z9_5 m9 r9_4 r9_5; omega
    | succ k9 IH9 =>
      intro z9_4 z9_5 m9 r9_4 r9_5
      have J70 : ∀ (z70_s0 : Int), (1 ≤ x2 ∧ x2 ≤ 40) → (0 ≤ z9_5 ∧ z9_5 ≤ 319) → (0 ≤ z70_s0 ∧ z70_s0 ≤ 16777215) → V p l e R s m args below meth c 7 D A Q (0, 0) (fd dom σ0) [(0, .ref (q j1)), (2, .int (iI x2)), (5, .int (iI z9_5))] 70 [.int (iI z70_s0)] := by
        intro z70_s0 rv70_x2 rv70_z9_5 r70_s0
        refine v_istore B (lv' := [(4, .int (iI z70_s0)), (0, .ref (q j1)), (2, .int (iI x2)), (5, .int (iI z9_5))]) dX12_crc_70 (by decide +kernel) rfl ?_
        refine v_iinc B (k := 3) (v := iI (z9_5 + 1)) (lv' := [(5, .int (iI (z9_5 + 1))), (4, .int (iI z70_s0)), (0, .ref (q j1)), (2, .int (iI x2))]) dX12_crc_72 rfl ((iI_add _ _).trans (congrArg iI (by omega))) (by decide +kernel) rfl ?_
        refine v_goto B (tgt := 9) dX12_crc_75 (by decide +kernel) ?_
        refine v_lv [2, 3, 1, 0] rfl ?_
        exact IH9 z70_s0 (z9_5 + 1) (by omega) ⟨by omega, by omega⟩ ⟨by omega, by omega⟩
      refine v_iload B dX12_crc_9 rfl ?_
      refine v_bipush B (v := iI 8) dX12_crc_11 (by decide +kernel) ?_
      refine v_iload_n B dX12_crc_13 rfl rfl ?_
      refine v_imul B (v := iI (8 * x2)) dX12_crc_14 ((iI_mul _ _).trans (congrArg iI (by omega))) ?_
      refine u_icmp_ge B (tgt := 78) (by omega) (by omega) dX12_crc_15 (by decide +kernel) (fun c1 => ?_) (fun c1 => ?_)
      · refine v_iload B dX12_crc_78 rfl ?_
        exact hend z9_4 _ _ ⟨by omega, by omega⟩ dX12_crc_80
      · refine v_aload_n B dX12_crc_18 rfl rfl ?_
        refine v_iload B dX12_crc_19 rfl ?_
        refine v_bipush B (v := iI 8) dX12_crc_21 (by decide +kernel) ?_
        obtain ⟨z2, e3⟩ : ∃ z : Int, z = z9_5 / 8 := ⟨_, rfl⟩
        refine v_idiv B (v := iI z2) dX12_crc_23 (fun q => absurd ((iI_eq (a := 8) (b := 0) (by omega) (by omega)).mp q) (by omega)) ((iI_ediv (a := z9_5) (b := 8) (by omega) (by omega)).trans (congrArg iI e3.symm)) ?_
        obtain ⟨f4, h5, e6⟩ := G0.byte hj_j1
        obtain ⟨z7, e8, r9⟩ := e6 (z2 : Int).toNat
        refine u_bald B Z (t0 := 2) (Y.byte hj_j1) h5 rfl (by omega) e8 dX12_crc_24 ?_
        refine v_iload B dX12_crc_25 rfl ?_
        refine v_bipush B (v := iI 8) dX12_crc_27 (by decide +kernel) ?_
        obtain ⟨z10, e11⟩ : ∃ z : Int, z = z9_5 % 8 := ⟨_, rfl⟩
        refine v_irem B (v := iI z10) dX12_crc_29 (fun q => absurd ((iI_eq (a := 8) (b := 0) (by omega) (by omega)).mp q) (by omega)) ((iI_rem (a := z9_5) (b := 8) (by omega) (by omega)).trans (congrArg iI e11.symm)) ?_
        obtain ⟨z12, e13, r14⟩ := iI_any (iI z7 >>> (iI z10 &&& 31))
        refine v_ishr B (v := iI z12) dX12_crc_30 e13 ?_
        refine v_iconst B (v := iI 1) dX12_crc_31 rfl ?_
        obtain ⟨z15, e16, r17⟩ := iI_and z12 (c := 1) (by decide) (by decide)
        refine v_iand B (v := iI z15) dX12_crc_32 e16 ?_
        refine v_istore B (lv' := [(6, .int (iI z15)), (0, .ref (q j1)), (2, .int (iI x2)), (4, .int (iI z9_4)), (5, .int (iI z9_5))]) dX12_crc_33 (by decide +kernel) rfl ?_
        refine v_iload B dX12_crc_35 rfl ?_
        refine v_iload B dX12_crc_37 rfl ?_
        refine v_bipush B (v := iI 23) dX12_crc_39 (by decide +kernel) ?_
        obtain ⟨z18, e19⟩ : ∃ z : Int, z = z9_4 / 8388608 := ⟨_, rfl⟩
        refine v_ishr B (v := iI z18) dX12_crc_41 ((iI_shr (a := z9_4) (by omega) 23 (by decide)).trans (congrArg iI (by omega))) ?_
        refine v_iconst B (v := iI 1) dX12_crc_42 rfl ?_
        obtain ⟨z20, e21, r22⟩ := iI_and z18 (c := 1) (by decide) (by decide)
        refine v_iand B (v := iI z20) dX12_crc_43 e21 ?_
        refine u_icmp_ne B (tgt := 58) (by omega) (by omega) dX12_crc_44 (by decide +kernel) (fun c23 => ?_) (fun c23 => ?_)
        · refine v_iload B dX12_crc_58 rfl ?_
          refine v_iconst B (v := iI 1) dX12_crc_60 rfl ?_
          obtain ⟨z24, e25, r26⟩ := iI_any (iI z9_4 <<< (iI 1 &&& 31))
          refine v_ishl B (v := iI z24) dX12_crc_61 e25 ?_
          refine v_ldcw B (v := iI 16777215) (u_ci (List.mem_of_getElem? (i := 1) rfl) (by decide +kernel)) dX12_crc_62 ?_
          obtain ⟨z27, e28, r29⟩ := iI_and z24 (c := 16777215) (by decide) (by decide)
          refine v_iand B (v := iI z27) dX12_crc_65 e28 ?_
          refine v_sipush B (v := iI 1627) dX12_crc_66 (by decide +kernel) ?_
          obtain ⟨z30, e31, r32⟩ := iI_xor (a := z27) (b := 1627) 24 (by decide) (by omega) (by omega)
          refine v_ixor B (v := iI z30) dX12_crc_69 e31 ?_
          refine v_lv [1, 2, 4] rfl ?_
          exact J70 z30 ⟨by omega, by omega⟩ ⟨by omega, by omega⟩ ⟨by omega, by omega⟩
        · refine v_iload B dX12_crc_47 rfl ?_
          refine v_iconst B (v := iI 1) dX12_crc_49 rfl ?_
          obtain ⟨z33, e34, r35⟩ := iI_any (iI z9_4 <<< (iI 1 &&& 31))
          refine v_ishl B (v := iI z33) dX12_crc_50 e34 ?_
          refine v_ldcw B (v := iI 16777215) (u_ci (List.mem_of_getElem? (i := 1) rfl) (by decide +kernel)) dX12_crc_51 ?_
          obtain ⟨z36, e37, r38⟩ := iI_and z33 (c := 16777215) (by decide) (by decide)
          refine v_iand B (v := iI z36) dX12_crc_54 e37 ?_
          refine v_goto B (tgt := 70) dX12_crc_55 (by decide +kernel) ?_
          refine v_lv [1, 2, 4] rfl ?_
          exact J70 z36 ⟨by omega, by omega⟩ ⟨by omega, by omega⟩ ⟨by omega, by omega⟩
  refine v_iload_n B dX12_crc_0 rfl rfl ?_
  refine v_istore B (lv' := [(4, .int (iI x3)), (0, .ref (q j1)), (1, .int (iI x1)), (2, .int (iI x2)), (3, .int (iI x3))]) dX12_crc_1 (by decide +kernel) rfl ?_
  refine v_bipush B (v := iI 8) dX12_crc_3 (by decide +kernel) ?_
  refine v_iload_n B dX12_crc_5 rfl rfl ?_
  refine v_imul B (v := iI (8 * x1)) dX12_crc_6 ((iI_mul _ _).trans (congrArg iI (by omega))) ?_
  refine v_istore B (lv' := [(5, .int (iI (8 * x1))), (4, .int (iI x3)), (0, .ref (q j1)), (1, .int (iI x1)), (2, .int (iI x2)), (3, .int (iI x3))]) dX12_crc_7 (by decide +kernel) rfl ?_
  refine v_lv [2, 4, 1, 0] rfl ?_
  exact J9 _ x3 (8 * x1) (Nat.le_refl _) ⟨by omega, by omega⟩ ⟨by omega, by omega⟩
set_option maxRecDepth 100000 in
theorem c_M_crc (l : Launch) (D : va_G) (K : Nat → ClassId) {τ : Nat → Option Ty} {dom : List Nat} (Z : Sk τ dom) (zb zL : Nat) (zx : Nat → Int32) (zs : Nat → Nat) (h : Nat) (q : Nat → Nat) (Y : MS τ h q) (j1 Nj1 : Nat) (x1 : Int) (x2 : Int) (x3 : Int) (hj_j1 : tabM[j1]? = some (2, Nj1, -128, 127)) (r_x1 : 0 ≤ x1 ∧ x1 ≤ 40) (r_x2 : 0 ≤ x2 ∧ x2 ≤ 40) (r_x3 : -2147483648 ≤ x3 ∧ x3 ≤ 2147483647) (σ0 : Nat → va_E) (G0 : GT K h q σ0) (hc : x2 ≤ (Nj1 : Int)) : MZ l yX12_crc wp_M_crc ({ frames := 0, cells := 0, slots := 0, locals := 0 }) D (tysA K) [.ref (q j1), .int (iI x1), .int (iI x2), .int (iI x3)] (fd dom σ0) zb zL zx zs (Qi D (fun r σ' => σ0 = σ' ∧ ∃ z : Int, r = iI z ∧ (-2147483648 ≤ z ∧ z ≤ 2147483647)) (fun σ' => fd dom σ')) 0 0 := by
  refine mz_of (cc := cX12_crc) (maxL := 7) (ret := (some .int)) (by decide +kernel) rfl (Nat.le_of_ble_eq_true rfl) ?_
  intro p e s m below meth c A B hr hlk _ hz
  exact b_M_crc ⟨Nat.le_refl _, Nat.le_refl _⟩ B Z hz h q Y j1 Nj1 x1 x2 x3 hj_j1 r_x1 r_x2 r_x3 σ0 G0 hc (fun z lv pc hZ hd => v_iret B hr hlk σ0 ⟨rfl, z, rfl, hZ⟩ rfl (Nat.le_refl _) (Nat.le_refl _) hd)

def wp_M_whiten : List Cond := .code yX12_whiten cX12_whiten 7 none :: (([] : List Cond) ++ ([]))
set_option maxHeartbeats 4000000 in
set_option maxRecDepth 100000 in
theorem b_M_whiten {p : Program} {l : Launch} {e : Env} {R : Room} {s : State} {m : MethodId} {args : Array Value} {below : List Frame} {meth : Method} {c : Code} {D : va_G} {K : Nat → ClassId} {A : Nat → Prop} {Q : State → Prop} {τ : Nat → Option Ty} {dom : List Nat} {zb zL : Nat} {zx : Nat → Int32} {zs : Nat → Nat} (hR : 0 ≤ R.frames ∧ 0 ≤ R.locals) (B : Bx p s m args c cX12_whiten 7 RX12 wp_M_whiten D (tysA K) A) (Z : Sk τ dom) (hz : ZL zb zL zx zs A s s.heap) (h : Nat) (q : Nat → Nat) (Y : MS τ h q) (j1 Nj1 : Nat) (x1 : Int) (x2 : Int) (x3 : Int) (hj_j1 : tabM[j1]? = some (2, Nj1, -128, 127)) (r_x1 : 0 ≤ x1 ∧ x1 ≤ 40) (r_x2 : 0 ≤ x2 ∧ x2 ≤ 40) (r_x3 : -2147483648 ≤ x3 ∧ x3 ≤ 2147483647) (σ0 : Nat → va_E) (G0 : GM K h q σ0) (hc : x2 ≤ (Nj1 : Int)) (hend : ∀ (σ' : Nat → va_E) (lv : List (Nat × Value)) (pc : Nat), GM K h q σ' → Fr τ [(100 + j1, 0)] σ0 σ' → decode cX12_whiten pc = .ok (.return_, 1) → V p l e R s m args below meth c 7 D A Q (0, 0) (fd dom σ') lv pc []) : V p l e R s m args below meth c 7 D A Q (0, 0) (fd dom σ0) [(0, .ref (q j1)), (1, .int (iI x1)), (2, .int (iI x2)), (3, .int (iI x3))] 0 [] := by
  have F0 : Fr τ [(100 + j1, 0)] σ0 σ0 := Fr.rf
  have hN_j1 := lenB hj_j1
  have J12 : ∀ (k12 : Nat) (σ_12 : Nat → va_E) (z12_4 : Int) (z12_5 : Int), (2147483648 - z12_5).toNat ≤ k12 → GM K h q σ_12 → Fr τ [(100 + j1, 0)] σ0 σ_12 → (-2147483648 ≤ z12_4 ∧ z12_4 ≤ 2147483647) → (0 ≤ z12_5 ∧ z12_5 ≤ 320) → V p l e R s m args below meth c 7 D A Q (0, 0) (fd dom σ_12) [(0, .ref (q j1)), (2, .int (iI x2)), (4, .int (iI z12_4)), (5, .int (iI z12_5))] 12 [] := by
    intro k12
    induction k12 with
    | zero => intro σ_12 z12_4 z12_5 m12 G_12 F_12 r12_4 r12_5; omega
    | succ k12 IH12 =>
      intro σ_12 z12_4 z12_5 m12 G_12 F_12 r12_4 r12_5
      have J67 : ∀ (σ_67 : Nat → va_E) (z67_s0 : Int), GM K h q σ_67 → Fr τ [(100 + j1, 0)] σ0 σ_67 → (1 ≤ x2 ∧ x2 ≤ 40) → (0 ≤ z12_5 ∧ z12_5 ≤ 319) → (-2147483648 ≤ z67_s0 ∧ z67_s0 ≤ 2147483647) → V p l e R s m args below meth c 7 D A Q (0, 0) (fd dom σ_67) [(0, .ref (q j1)), (2, .int (iI x2)), (5, .int (iI z12_5))] 67 [.int (iI z67_s0)] := by
        intro σ_67 z67_s0 G_67 F_67 rv67_x2 rv67_z12_5 r67_s0
        refine v_istore B (lv' := [(4, .int (iI z67_s0)), (0, .ref (q j1)), (2, .int (iI x2)), (5, .int (iI z12_5))]) dX12_whiten_67 (by decide +kernel) rfl ?_
        refine v_iinc B (k := 3) (v := iI (z12_5 + 1)) (lv' := [(5, .int (iI (z12_5 + 1))), (4, .int (iI z67_s0)), (0, .ref (q j1)), (2, .int (iI x2))]) dX12_whiten_69 rfl ((iI_add _ _).trans (congrArg iI (by omega))) (by decide +kernel) rfl ?_
        refine v_goto B (tgt := 12) dX12_whiten_72 (by decide +kernel) ?_
        refine v_lv [2, 3, 1, 0] rfl ?_
        exact IH12 σ_67 z67_s0 (z12_5 + 1) (by omega) G_67 F_67 ⟨by omega, by omega⟩ ⟨by omega, by omega⟩
      refine v_iload B dX12_whiten_12 rfl ?_
      refine v_bipush B (v := iI 8) dX12_whiten_14 (by decide +kernel) ?_
      refine v_iload_n B dX12_whiten_16 rfl rfl ?_
      refine v_imul B (v := iI (8 * x2)) dX12_whiten_17 ((iI_mul _ _).trans (congrArg iI (by omega))) ?_
      refine u_icmp_ge B (tgt := 75) (by omega) (by omega) dX12_whiten_18 (by decide +kernel) (fun c1 => ?_) (fun c1 => ?_)
      · exact hend σ_12 _ _ G_12 F_12 dX12_whiten_75
      · refine v_iload B dX12_whiten_21 rfl ?_
        refine v_iconst B (v := iI 1) dX12_whiten_23 rfl ?_
        obtain ⟨z2, e3, r4⟩ := iI_and z12_4 (c := 1) (by decide) (by decide)
        refine v_iand B (v := iI z2) dX12_whiten_24 e3 ?_
        refine v_istore B (lv' := [(6, .int (iI z2)), (0, .ref (q j1)), (2, .int (iI x2)), (4, .int (iI z12_4)), (5, .int (iI z12_5))]) dX12_whiten_25 (by decide +kernel) rfl ?_
        refine v_aload_n B dX12_whiten_27 rfl rfl ?_
        refine v_iload B dX12_whiten_28 rfl ?_
        refine v_bipush B (v := iI 8) dX12_whiten_30 (by decide +kernel) ?_
        obtain ⟨z5, e6⟩ : ∃ z : Int, z = z12_5 / 8 := ⟨_, rfl⟩
        refine v_idiv B (v := iI z5) dX12_whiten_32 (fun q => absurd ((iI_eq (a := 8) (b := 0) (by omega) (by omega)).mp q) (by omega)) ((iI_ediv (a := z12_5) (b := 8) (by omega) (by omega)).trans (congrArg iI e6.symm)) ?_
        refine v_dup2 B dX12_whiten_33 rfl rfl ?_
        obtain ⟨f7, h8, e9⟩ := G_12.t.byte hj_j1
        obtain ⟨z10, e11, r12⟩ := e9 (z5 : Int).toNat
        refine u_bald B Z (t0 := 2) (Y.byte hj_j1) h8 rfl (by omega) e11 dX12_whiten_34 ?_
        refine v_iload B dX12_whiten_35 rfl ?_
        refine v_iload B dX12_whiten_37 rfl ?_
        refine v_bipush B (v := iI 8) dX12_whiten_39 (by decide +kernel) ?_
        obtain ⟨z13, e14⟩ : ∃ z : Int, z = z12_5 % 8 := ⟨_, rfl⟩
        refine v_irem B (v := iI z13) dX12_whiten_41 (fun q => absurd ((iI_eq (a := 8) (b := 0) (by omega) (by omega)).mp q) (by omega)) ((iI_rem (a := z12_5) (b := 8) (by omega) (by omega)).trans (congrArg iI e14.symm)) ?_
        obtain ⟨z15, e16, r17⟩ := iI_shlv (a := z2) (c := z13) (A := 1) 7 (by decide) (by omega) (by omega)
        refine v_ishl B (v := iI z15) dX12_whiten_42 e16 ?_
        obtain ⟨z18, e19, r20⟩ := iI_i8 z15
        refine v_i2b B (v := iI z18) dX12_whiten_43 e19 ?_
        obtain ⟨z21, e22, r23⟩ := iI_any (iI z10 ^^^ iI z18)
        refine v_ixor B (v := iI z21) dX12_whiten_44 e22 ?_
        obtain ⟨z24, e25, r26⟩ := iI_i8 z21
        refine v_i2b B (v := iI z24) dX12_whiten_45 e25 ?_
        refine u_bast B Z (t0 := 2) (x := iI z24) (y := iI z24) (Y.byte hj_j1) h8 rfl (by omega) (nar8 (by omega)) dX12_whiten_46 (fun σ27 h28 n29 => ?_)
        have F30 := F_12.put (Y.byte hj_j1) (by simp) n29
        have G31 := G_12.putB Y hj_j1 ⟨_, h28, el_upd (z := z24) e9 ⟨by omega, by omega⟩ _⟩ n29
        refine v_iload B dX12_whiten_47 rfl ?_
        refine v_iconst B (v := iI 1) dX12_whiten_49 rfl ?_
        refine u_icmp_ne B (tgt := 63) (by omega) (by omega) dX12_whiten_50 (by decide +kernel) (fun c32 => ?_) (fun c32 => ?_)
        · refine v_iload B dX12_whiten_63 rfl ?_
          refine v_iconst B (v := iI 1) dX12_whiten_65 rfl ?_
          obtain ⟨z33, e34⟩ : ∃ z : Int, z = z12_4 / 2 := ⟨_, rfl⟩
          refine v_ishr B (v := iI z33) dX12_whiten_66 ((iI_shr (a := z12_4) (by omega) 1 (by decide)).trans (congrArg iI (by omega))) ?_
          refine v_lv [1, 2, 4] rfl ?_
          exact J67 σ27 z33 G31 F30 ⟨by omega, by omega⟩ ⟨by omega, by omega⟩ ⟨by omega, by omega⟩
        · refine v_iload B dX12_whiten_53 rfl ?_
          refine v_iconst B (v := iI 1) dX12_whiten_55 rfl ?_
          obtain ⟨z35, e36⟩ : ∃ z : Int, z = z12_4 / 2 := ⟨_, rfl⟩
          refine v_ishr B (v := iI z35) dX12_whiten_56 ((iI_shr (a := z12_4) (by omega) 1 (by decide)).trans (congrArg iI (by omega))) ?_
          refine v_bipush B (v := iI 68) dX12_whiten_57 (by decide +kernel) ?_
          obtain ⟨z37, e38, r39⟩ := iI_any (iI z35 ^^^ iI 68)
          refine v_ixor B (v := iI z37) dX12_whiten_59 e38 ?_
          refine v_goto B (tgt := 67) dX12_whiten_60 (by decide +kernel) ?_
          refine v_lv [1, 2, 4] rfl ?_
          exact J67 σ27 z37 G31 F30 ⟨by omega, by omega⟩ ⟨by omega, by omega⟩ ⟨by omega, by omega⟩
  refine v_bipush B (v := iI 64) dX12_whiten_0 (by decide +kernel) ?_
  refine v_iload_n B dX12_whiten_2 rfl rfl ?_
  obtain ⟨z40, e41, r42⟩ := iI_any (iI 64 + iI x3)
  refine v_iadd B (v := iI z40) dX12_whiten_3 e41 ?_
  refine v_istore B (lv' := [(4, .int (iI z40)), (0, .ref (q j1)), (1, .int (iI x1)), (2, .int (iI x2)), (3, .int (iI x3))]) dX12_whiten_4 (by decide +kernel) rfl ?_
  refine v_bipush B (v := iI 8) dX12_whiten_6 (by decide +kernel) ?_
  refine v_iload_n B dX12_whiten_8 rfl rfl ?_
  refine v_imul B (v := iI (8 * x1)) dX12_whiten_9 ((iI_mul _ _).trans (congrArg iI (by omega))) ?_
  refine v_istore B (lv' := [(5, .int (iI (8 * x1))), (4, .int (iI z40)), (0, .ref (q j1)), (1, .int (iI x1)), (2, .int (iI x2)), (3, .int (iI x3))]) dX12_whiten_10 (by decide +kernel) rfl ?_
  refine v_lv [2, 4, 1, 0] rfl ?_
  exact J12 _ σ0 z40 (8 * x1) (Nat.le_refl _) G0 F0 ⟨by omega, by omega⟩ ⟨by omega, by omega⟩
set_option maxRecDepth 100000 in
theorem c_M_whiten (l : Launch) (D : va_G) (K : Nat → ClassId) {τ : Nat → Option Ty} {dom : List Nat} (Z : Sk τ dom) (zb zL : Nat) (zx : Nat → Int32) (zs : Nat → Nat) (h : Nat) (q : Nat → Nat) (Y : MS τ h q) (j1 Nj1 : Nat) (x1 : Int) (x2 : Int) (x3 : Int) (hj_j1 : tabM[j1]? = some (2, Nj1, -128, 127)) (r_x1 : 0 ≤ x1 ∧ x1 ≤ 40) (r_x2 : 0 ≤ x2 ∧ x2 ≤ 40) (r_x3 : -2147483648 ≤ x3 ∧ x3 ≤ 2147483647) (σ0 : Nat → va_E) (G0 : GM K h q σ0) (hc : x2 ≤ (Nj1 : Int)) : MZ l yX12_whiten wp_M_whiten ({ frames := 0, cells := 0, slots := 0, locals := 0 }) D (tysA K) [.ref (q j1), .int (iI x1), .int (iI x2), .int (iI x3)] (fd dom σ0) zb zL zx zs (Qv D (fun σ' => GM K h q σ' ∧ Fr τ [(100 + j1, 0)] σ0 σ') (fun σ' => fd dom σ')) 0 0 := by
  refine mz_of (cc := cX12_whiten) (maxL := 7) (ret := none) (by decide +kernel) rfl (Nat.le_of_ble_eq_true rfl) ?_
  intro p e s m below meth c A B hr hlk _ hz
  exact b_M_whiten ⟨Nat.le_refl _, Nat.le_refl _⟩ B Z hz h q Y j1 Nj1 x1 x2 x3 hj_j1 r_x1 r_x2 r_x3 σ0 G0 hc (fun σ' lv pc G F hd => v_vret B hr hlk σ' ⟨G, F⟩ rfl (Nat.le_refl _) (Nat.le_refl _) hd)

def wp_M_crcByte : List Cond := .code yX12_crcByte cX12_crcByte 4 (some .int) :: (([] : List Cond) ++ ([]))
set_option maxHeartbeats 4000000 in
set_option maxRecDepth 100000 in
theorem b_M_crcByte {p : Program} {l : Launch} {e : Env} {R : Room} {s : State} {m : MethodId} {args : Array Value} {below : List Frame} {meth : Method} {c : Code} {D : va_G} {K : Nat → ClassId} {A : Nat → Prop} {Q : State → Prop} {τ : Nat → Option Ty} {dom : List Nat} {zb zL : Nat} {zx : Nat → Int32} {zs : Nat → Nat} (hR : 0 ≤ R.frames ∧ 0 ≤ R.locals) (B : Bx p s m args c cX12_crcByte 4 RX12 wp_M_crcByte D (tysA K) A) (Z : Sk τ dom) (hz : ZL zb zL zx zs A s s.heap) (h : Nat) (q : Nat → Nat) (Y : MS τ h q) (x0 : Int) (x1 : Int) (r_x0 : -2147483648 ≤ x0 ∧ x0 ≤ 2147483647) (r_x1 : 0 ≤ x1 ∧ x1 ≤ 2) (σ0 : Nat → va_E) (G0 : GT K h q σ0) (hend : ∀ (z : Int) (lv : List (Nat × Value)) (pc : Nat), (0 ≤ z ∧ z ≤ 255) → decode cX12_crcByte pc = .ok (.ireturn, 1) → V p l e R s m args below meth c 4 D A Q (0, 0) (fd dom σ0) lv pc [.int (iI z)]) : V p l e R s m args below meth c 4 D A Q (0, 0) (fd dom σ0) [(0, .int (iI x0)), (1, .int (iI x1))] 0 [] := by
  have J4 : ∀ (k4 : Nat) (z4_2 : Int) (z4_3 : Int), (2147483648 - z4_3).toNat ≤ k4 → (0 ≤ z4_2 ∧ z4_2 ≤ 255) → (0 ≤ z4_3 ∧ z4_3 ≤ 8) → V p l e R s m args below meth c 4 D A Q (0, 0) (fd dom σ0) [(0, .int (iI x0)), (1, .int (iI x1)), (2, .int (iI z4_2)), (3, .int (iI z4_3))] 4 [] := by
    intro k4
    induction k4 with
    | zero => intro z4_2 z4_3 m4 r4_2 r4_3; omega
    | succ k4 IH4 =>
      intro z4_2 z4_3 m4 r4_2 r4_3
      refine v_iload_n B dX12_crcByte_4 rfl rfl ?_
      refine v_bipush B (v := iI 8) dX12_crcByte_5 (by decide +kernel) ?_
      refine u_icmp_ge B (tgt := 34) (by omega) (by omega) dX12_crcByte_7 (by decide +kernel) (fun c1 => ?_) (fun c1 => ?_)
      · refine v_iload_n B dX12_crcByte_34 rfl rfl ?_
        exact hend z4_2 _ _ ⟨by omega, by omega⟩ dX12_crcByte_35
      · refine v_iload_n B dX12_crcByte_10 rfl rfl ?_
        refine v_iload_n B dX12_crcByte_11 rfl rfl ?_
        refine v_bipush B (v := iI 23) dX12_crcByte_12 (by decide +kernel) ?_
        refine v_bipush B (v := iI 8) dX12_crcByte_14 (by decide +kernel) ?_
        refine v_iload_n B dX12_crcByte_16 rfl rfl ?_
        refine v_imul B (v := iI (8 * x1)) dX12_crcByte_17 ((iI_mul _ _).trans (congrArg iI (by omega))) ?_
        refine v_isub B (v := iI ((-8) * x1 + 23)) dX12_crcByte_18 ((iI_sub _ _).trans (congrArg iI (by omega))) ?_
        refine v_iload_n B dX12_crcByte_19 rfl rfl ?_
        refine v_isub B (v := iI ((-8) * x1 + (-1) * z4_3 + 23)) dX12_crcByte_20 ((iI_sub _ _).trans (congrArg iI (by omega))) ?_
        obtain ⟨z2, e3, r4⟩ := iI_any (iI x0 >>> (iI ((-8) * x1 + (-1) * z4_3 + 23) &&& 31))
        refine v_ishr B (v := iI z2) dX12_crcByte_21 e3 ?_
        refine v_iconst B (v := iI 1) dX12_crcByte_22 rfl ?_
        obtain ⟨z5, e6, r7⟩ := iI_and z2 (c := 1) (by decide) (by decide)
        refine v_iand B (v := iI z5) dX12_crcByte_23 e6 ?_
        refine v_iload_n B dX12_crcByte_24 rfl rfl ?_
        obtain ⟨z8, e9, r10⟩ := iI_shlv (a := z5) (c := z4_3) (A := 1) 7 (by decide) (by omega) (by omega)
        refine v_ishl B (v := iI z8) dX12_crcByte_25 e9 ?_
        obtain ⟨z11, e12, r13⟩ := iI_or (a := z4_2) (b := z8) 8 (by decide) (by omega) (by omega)
        refine v_ior B (v := iI z11) dX12_crcByte_26 e12 ?_
        refine v_istore_n B (lv' := [(2, .int (iI z11)), (0, .int (iI x0)), (1, .int (iI x1)), (3, .int (iI z4_3))]) dX12_crcByte_27 rfl (by decide +kernel) rfl ?_
        refine v_iinc B (k := 3) (v := iI (z4_3 + 1)) (lv' := [(3, .int (iI (z4_3 + 1))), (2, .int (iI z11)), (0, .int (iI x0)), (1, .int (iI x1))]) dX12_crcByte_28 rfl ((iI_add _ _).trans (congrArg iI (by omega))) (by decide +kernel) rfl ?_
        refine v_goto B (tgt := 4) dX12_crcByte_31 (by decide +kernel) ?_
        refine v_lv [2, 3, 1, 0] rfl ?_
        exact IH4 z11 (z4_3 + 1) (by omega) ⟨by omega, by omega⟩ ⟨by omega, by omega⟩
  refine v_iconst B (v := iI 0) dX12_crcByte_0 rfl ?_
  refine v_istore_n B (lv' := [(2, .int (iI 0)), (0, .int (iI x0)), (1, .int (iI x1))]) dX12_crcByte_1 rfl (by decide +kernel) rfl ?_
  refine v_iconst B (v := iI 0) dX12_crcByte_2 rfl ?_
  refine v_istore_n B (lv' := [(3, .int (iI 0)), (2, .int (iI 0)), (0, .int (iI x0)), (1, .int (iI x1))]) dX12_crcByte_3 rfl (by decide +kernel) rfl ?_
  refine v_lv [2, 3, 1, 0] rfl ?_
  exact J4 _ 0 0 (Nat.le_refl _) ⟨by omega, by omega⟩ ⟨by omega, by omega⟩
set_option maxRecDepth 100000 in
theorem c_M_crcByte (l : Launch) (D : va_G) (K : Nat → ClassId) {τ : Nat → Option Ty} {dom : List Nat} (Z : Sk τ dom) (zb zL : Nat) (zx : Nat → Int32) (zs : Nat → Nat) (h : Nat) (q : Nat → Nat) (Y : MS τ h q) (x0 : Int) (x1 : Int) (r_x0 : -2147483648 ≤ x0 ∧ x0 ≤ 2147483647) (r_x1 : 0 ≤ x1 ∧ x1 ≤ 2) (σ0 : Nat → va_E) (G0 : GT K h q σ0) : MZ l yX12_crcByte wp_M_crcByte ({ frames := 0, cells := 0, slots := 0, locals := 0 }) D (tysA K) [.int (iI x0), .int (iI x1)] (fd dom σ0) zb zL zx zs (Qi D (fun r σ' => σ0 = σ' ∧ ∃ z : Int, r = iI z ∧ (0 ≤ z ∧ z ≤ 255)) (fun σ' => fd dom σ')) 0 0 := by
  refine mz_of (cc := cX12_crcByte) (maxL := 4) (ret := (some .int)) (by decide +kernel) rfl (Nat.le_of_ble_eq_true rfl) ?_
  intro p e s m below meth c A B hr hlk _ hz
  exact b_M_crcByte ⟨Nat.le_refl _, Nat.le_refl _⟩ B Z hz h q Y x0 x1 r_x0 r_x1 σ0 G0 (fun z lv pc hZ hd => v_iret B hr hlk σ0 ⟨rfl, z, rfl, hZ⟩ rfl (Nat.le_refl _) (Nat.le_refl _) hd)

def wp_M_bytesOf : List Cond := .code yX12_bytesOf cX12_bytesOf 1 (some .int) :: (([] : List Cond) ++ ([]))
set_option maxHeartbeats 4000000 in
set_option maxRecDepth 100000 in
theorem b_M_bytesOf {p : Program} {l : Launch} {e : Env} {R : Room} {s : State} {m : MethodId} {args : Array Value} {below : List Frame} {meth : Method} {c : Code} {D : va_G} {K : Nat → ClassId} {A : Nat → Prop} {Q : State → Prop} {τ : Nat → Option Ty} {dom : List Nat} {zb zL : Nat} {zx : Nat → Int32} {zs : Nat → Nat} (hR : 0 ≤ R.frames ∧ 0 ≤ R.locals) (B : Bx p s m args c cX12_bytesOf 1 RX12 wp_M_bytesOf D (tysA K) A) (Z : Sk τ dom) (hz : ZL zb zL zx zs A s s.heap) (h : Nat) (q : Nat → Nat) (Y : MS τ h q) (x0 : Int) (r_x0 : -2147483648 ≤ x0 ∧ x0 ≤ 2147483647) (σ0 : Nat → va_E) (G0 : GT K h q σ0) (hend : ∀ (z : Int) (lv : List (Nat × Value)) (pc : Nat), (-1 ≤ z ∧ z ≤ 12) → decode cX12_bytesOf pc = .ok (.ireturn, 1) → V p l e R s m args below meth c 1 D A Q (0, 0) (fd dom σ0) lv pc [.int (iI z)]) : V p l e R s m args below meth c 1 D A Q (0, 0) (fd dom σ0) [(0, .int (iI x0))] 0 [] := by
  refine v_iload_n B dX12_bytesOf_0 rfl rfl ?_
  refine u_tsw B (tgtd := 83) (by omega) dX12_bytesOf_1 (by decide +kernel) ?_ ?_ (tswM (by decide +kernel)) (by decide +kernel)
  · intro i1 o2 g3 o4 x5 t6
    match i1, o4, x5 with
    | 0, o4, x5 =>
      replace o4 : o2 = 67 := by simp at o4; omega
      obtain rfl : g3 = 68 := by omega
      refine v_bipush B (v := iI 7) dX12_bytesOf_68 (by decide +kernel) ?_
      exact hend 7 _ _ ⟨by omega, by omega⟩ dX12_bytesOf_70
    | 1, o4, x5 =>
      replace o4 : o2 = 70 := by simp at o4; omega
      obtain rfl : g3 = 71 := by omega
      refine v_iconst B (v := iI 1) dX12_bytesOf_71 rfl ?_
      exact hend 1 _ _ ⟨by omega, by omega⟩ dX12_bytesOf_72
    | 2, o4, x5 =>
      replace o4 : o2 = 72 := by simp at o4; omega
      obtain rfl : g3 = 73 := by omega
      refine v_bipush B (v := iI 12) dX12_bytesOf_73 (by decide +kernel) ?_
      exact hend 12 _ _ ⟨by omega, by omega⟩ dX12_bytesOf_75
    | 3, o4, x5 =>
      replace o4 : o2 = 72 := by simp at o4; omega
      obtain rfl : g3 = 73 := by omega
      refine v_bipush B (v := iI 12) dX12_bytesOf_73 (by decide +kernel) ?_
      exact hend 12 _ _ ⟨by omega, by omega⟩ dX12_bytesOf_75
    | 4, o4, x5 =>
      replace o4 : o2 = 75 := by simp at o4; omega
      obtain rfl : g3 = 76 := by omega
      refine v_iconst B (v := iI 0) dX12_bytesOf_76 rfl ?_
      exact hend 0 _ _ ⟨by omega, by omega⟩ dX12_bytesOf_77
    | 5, o4, x5 =>
      replace o4 : o2 = 75 := by simp at o4; omega
      obtain rfl : g3 = 76 := by omega
      refine v_iconst B (v := iI 0) dX12_bytesOf_76 rfl ?_
      exact hend 0 _ _ ⟨by omega, by omega⟩ dX12_bytesOf_77
    | 6, o4, x5 =>
      replace o4 : o2 = 70 := by simp at o4; omega
      obtain rfl : g3 = 71 := by omega
      refine v_iconst B (v := iI 1) dX12_bytesOf_71 rfl ?_
      exact hend 1 _ _ ⟨by omega, by omega⟩ dX12_bytesOf_72
    | 7, o4, x5 =>
      replace o4 : o2 = 77 := by simp at o4; omega
      obtain rfl : g3 = 78 := by omega
      refine v_bipush B (v := iI 8) dX12_bytesOf_78 (by decide +kernel) ?_
      exact hend 8 _ _ ⟨by omega, by omega⟩ dX12_bytesOf_80
    | 8, o4, x5 =>
      replace o4 : o2 = 77 := by simp at o4; omega
      obtain rfl : g3 = 78 := by omega
      refine v_bipush B (v := iI 8) dX12_bytesOf_78 (by decide +kernel) ?_
      exact hend 8 _ _ ⟨by omega, by omega⟩ dX12_bytesOf_80
    | 9, o4, x5 =>
      replace o4 : o2 = 82 := by simp at o4; omega
      obtain rfl : g3 = 83 := by omega
      refine v_iconst B (v := iI (-1)) dX12_bytesOf_83 rfl ?_
      exact hend (-1) _ _ ⟨by omega, by omega⟩ dX12_bytesOf_84
    | 10, o4, x5 =>
      replace o4 : o2 = 82 := by simp at o4; omega
      obtain rfl : g3 = 83 := by omega
      refine v_iconst B (v := iI (-1)) dX12_bytesOf_83 rfl ?_
      exact hend (-1) _ _ ⟨by omega, by omega⟩ dX12_bytesOf_84
    | 11, o4, x5 =>
      replace o4 : o2 = 80 := by simp at o4; omega
      obtain rfl : g3 = 81 := by omega
      refine v_iconst B (v := iI 5) dX12_bytesOf_81 rfl ?_
      exact hend 5 _ _ ⟨by omega, by omega⟩ dX12_bytesOf_82
    | 12, o4, x5 =>
      replace o4 : o2 = 70 := by simp at o4; omega
      obtain rfl : g3 = 71 := by omega
      refine v_iconst B (v := iI 1) dX12_bytesOf_71 rfl ?_
      exact hend 1 _ _ ⟨by omega, by omega⟩ dX12_bytesOf_72
    | i1 + 13, o4, x5 => exact absurd (o4.symm.trans (Array.getElem?_eq_none (by simp))) (by simp)
  · intro x5
    refine v_iconst B (v := iI (-1)) dX12_bytesOf_83 rfl ?_
    exact hend (-1) _ _ ⟨by omega, by omega⟩ dX12_bytesOf_84
set_option maxRecDepth 100000 in
theorem c_M_bytesOf (l : Launch) (D : va_G) (K : Nat → ClassId) {τ : Nat → Option Ty} {dom : List Nat} (Z : Sk τ dom) (zb zL : Nat) (zx : Nat → Int32) (zs : Nat → Nat) (h : Nat) (q : Nat → Nat) (Y : MS τ h q) (x0 : Int) (r_x0 : -2147483648 ≤ x0 ∧ x0 ≤ 2147483647) (σ0 : Nat → va_E) (G0 : GT K h q σ0) : MZ l yX12_bytesOf wp_M_bytesOf ({ frames := 0, cells := 0, slots := 0, locals := 0 }) D (tysA K) [.int (iI x0)] (fd dom σ0) zb zL zx zs (Qi D (fun r σ' => σ0 = σ' ∧ ∃ z : Int, r = iI z ∧ (-1 ≤ z ∧ z ≤ 12)) (fun σ' => fd dom σ')) 0 0 := by
  refine mz_of (cc := cX12_bytesOf) (maxL := 1) (ret := (some .int)) (by decide +kernel) rfl (Nat.le_of_ble_eq_true rfl) ?_
  intro p e s m below meth c A B hr hlk _ hz
  exact b_M_bytesOf ⟨Nat.le_refl _, Nat.le_refl _⟩ B Z hz h q Y x0 r_x0 σ0 G0 (fun z lv pc hZ hd => v_iret B hr hlk σ0 ⟨rfl, z, rfl, hZ⟩ rfl (Nat.le_refl _) (Nat.le_refl _) hd)

def wp_M_areRows : List Cond := .code yX12_areRows cX12_areRows 4 (some .boolean) :: (([] : List Cond) ++ ([]))
set_option maxHeartbeats 4000000 in
set_option maxRecDepth 100000 in
theorem b_M_areRows {p : Program} {l : Launch} {e : Env} {R : Room} {s : State} {m : MethodId} {args : Array Value} {below : List Frame} {meth : Method} {c : Code} {D : va_G} {K : Nat → ClassId} {A : Nat → Prop} {Q : State → Prop} {τ : Nat → Option Ty} {dom : List Nat} {zb zL : Nat} {zx : Nat → Int32} {zs : Nat → Nat} (hR : 0 ≤ R.frames ∧ 0 ≤ R.locals) (B : Bx p s m args c cX12_areRows 4 RX12 wp_M_areRows D (tysA K) A) (Z : Sk τ dom) (hz : ZL zb zL zx zs A s s.heap) (h : Nat) (q : Nat → Nat) (Y : MS τ h q) (x0 : Int) (x1 : Int) (x2 : Int) (x3 : Int) (r_x0 : -4 ≤ x0 ∧ x0 ≤ 96) (r_x1 : 1 ≤ x1 ∧ x1 ≤ 2) (r_x2 : 0 ≤ x2 ∧ x2 ≤ 255) (r_x3 : 2 ≤ x3 ∧ x3 ≤ 4) (σ0 : Nat → va_E) (G0 : GT K h q σ0) (hend : ∀ (z : Int) (lv : List (Nat × Value)) (pc : Nat), (0 ≤ z ∧ z ≤ 1) → (z = 1 → x3 ≤ x2 ∧ x1 < x0 ∧ (x0 + (-1) * x1) % x2 = 0) → decode cX12_areRows pc = .ok (.ireturn, 1) → V p l e R s m args below meth c 4 D A Q (0, 0) (fd dom σ0) lv pc [.int (iI z)]) : V p l e R s m args below meth c 4 D A Q (0, 0) (fd dom σ0) [(0, .int (iI x0)), (1, .int (iI x1)), (2, .int (iI x2)), (3, .int (iI x3))] 0 [] := by
  refine v_iload_n B dX12_areRows_0 rfl rfl ?_
  refine v_iload_n B dX12_areRows_1 rfl rfl ?_
  refine u_icmp_lt B (tgt := 22) (by omega) (by omega) dX12_areRows_2 (by decide +kernel) (fun c1 => ?_) (fun c1 => ?_)
  · refine v_iconst B (v := iI 0) dX12_areRows_22 rfl ?_
    exact hend 0 _ _ ⟨by omega, by omega⟩ (fun q => by first | omega | (refine ⟨by omega, by omega, ?_⟩; omega)) dX12_areRows_23
  · refine v_iload_n B dX12_areRows_5 rfl rfl ?_
    refine v_iload_n B dX12_areRows_6 rfl rfl ?_
    refine u_icmp_le B (tgt := 22) (by omega) (by omega) dX12_areRows_7 (by decide +kernel) (fun c2 => ?_) (fun c2 => ?_)
    · refine v_iconst B (v := iI 0) dX12_areRows_22 rfl ?_
      exact hend 0 _ _ ⟨by omega, by omega⟩ (fun q => by first | omega | (refine ⟨by omega, by omega, ?_⟩; omega)) dX12_areRows_23
    · refine v_iload_n B dX12_areRows_10 rfl rfl ?_
      refine v_iload_n B dX12_areRows_11 rfl rfl ?_
      refine v_isub B (v := iI (x0 + (-1) * x1)) dX12_areRows_12 ((iI_sub _ _).trans (congrArg iI (by omega))) ?_
      refine v_iload_n B dX12_areRows_13 rfl rfl ?_
      obtain ⟨z3, e4⟩ : ∃ z : Int, z = (x0 + (-1) * x1) % x2 := ⟨_, rfl⟩
      have r5 : 0 ≤ z3 := e4 ▸ Int.emod_nonneg _ (by omega)
      have r6 : z3 < x2 := e4 ▸ Int.emod_lt_of_pos _ (by omega)
      refine v_irem B (v := iI z3) dX12_areRows_14 (fun q => absurd ((iI_eq (a := x2) (b := 0) (by omega) (by omega)).mp q) (by omega)) ((iI_rem (a := (x0 + (-1) * x1)) (b := x2) (by omega) (by omega)).trans (congrArg iI e4.symm)) ?_
      refine u_if_ne B (tgt := 22) (by omega) dX12_areRows_15 (by decide +kernel) (fun c7 => ?_) (fun c7 => ?_)
      · refine v_iconst B (v := iI 0) dX12_areRows_22 rfl ?_
        exact hend 0 _ _ ⟨by omega, by omega⟩ (fun q => by first | omega | (refine ⟨by omega, by omega, ?_⟩; omega)) dX12_areRows_23
      · refine v_iconst B (v := iI 1) dX12_areRows_18 rfl ?_
        refine v_goto B (tgt := 23) dX12_areRows_19 (by decide +kernel) ?_
        exact hend 1 _ _ ⟨by omega, by omega⟩ (fun q => by first | omega | (refine ⟨by omega, by omega, ?_⟩; omega)) dX12_areRows_23
set_option maxRecDepth 100000 in
theorem c_M_areRows (l : Launch) (D : va_G) (K : Nat → ClassId) {τ : Nat → Option Ty} {dom : List Nat} (Z : Sk τ dom) (zb zL : Nat) (zx : Nat → Int32) (zs : Nat → Nat) (h : Nat) (q : Nat → Nat) (Y : MS τ h q) (x0 : Int) (x1 : Int) (x2 : Int) (x3 : Int) (r_x0 : -4 ≤ x0 ∧ x0 ≤ 96) (r_x1 : 1 ≤ x1 ∧ x1 ≤ 2) (r_x2 : 0 ≤ x2 ∧ x2 ≤ 255) (r_x3 : 2 ≤ x3 ∧ x3 ≤ 4) (σ0 : Nat → va_E) (G0 : GT K h q σ0) : MZ l yX12_areRows wp_M_areRows ({ frames := 0, cells := 0, slots := 0, locals := 0 }) D (tysA K) [.int (iI x0), .int (iI x1), .int (iI x2), .int (iI x3)] (fd dom σ0) zb zL zx zs (Qi D (fun r σ' => σ0 = σ' ∧ ∃ z : Int, r = iI z ∧ (0 ≤ z ∧ z ≤ 1) ∧ (z = 1 → x3 ≤ x2 ∧ x1 < x0 ∧ (x0 + (-1) * x1) % x2 = 0)) (fun σ' => fd dom σ')) 0 0 := by
  refine mz_of (cc := cX12_areRows) (maxL := 4) (ret := (some .boolean)) (by decide +kernel) rfl (Nat.le_of_ble_eq_true rfl) ?_
  intro p e s m below meth c A B hr hlk _ hz
  exact b_M_areRows ⟨Nat.le_refl _, Nat.le_refl _⟩ B Z hz h q Y x0 x1 x2 x3 r_x0 r_x1 r_x2 r_x3 σ0 G0 (fun z lv pc hZ hP hd => v_zret B hr hlk (nar01 (by omega)) σ0 ⟨rfl, z, rfl, hZ, hP⟩ rfl (Nat.le_refl _) (Nat.le_refl _) hd)
