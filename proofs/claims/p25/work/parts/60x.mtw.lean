def Tw (σ : Nat → va_E) (a : Nat) (i z : Int) : Prop := ∀ (k : ClassId) (N : Nat) (f : Nat → Int32), σ a = .inl (k, N, .inl f) → (f i.toNat &&& iI 255) ||| ((f (i + 1).toNat &&& iI 255) <<< (iI 8 &&& 31)) = iI z
def wp_M_twoX : List Cond := .code yX12_two cX12_two 2 (some .int) :: (([] : List Cond) ++ ([]))
set_option maxHeartbeats 4000000 in
set_option maxRecDepth 100000 in
theorem b_M_twoX {p : Program} {l : Launch} {e : Env} {R : Room} {s : State} {m : MethodId} {args : Array Value} {below : List Frame} {meth : Method} {c : Code} {D : va_G} {K : Nat → ClassId} {A : Nat → Prop} {Q : State → Prop} {τ : Nat → Option Ty} {dom : List Nat} {zb zL : Nat} {zx : Nat → Int32} {zs : Nat → Nat} (hR : 0 ≤ R.frames ∧ 0 ≤ R.locals) (B : Bx p s m args c cX12_two 2 RX12 wp_M_twoX D (tysA K) A) (Z : Sk τ dom) (hz : ZL zb zL zx zs A s s.heap) (h : Nat) (q : Nat → Nat) (Y : MS τ h q) (j1 Nj1 : Nat) (x1 : Int) (hj_j1 : tabM[j1]? = some (2, Nj1, -128, 127)) (r_x1 : 0 ≤ x1 ∧ x1 ≤ 1600) (σ0 : Nat → va_E) (G0 : GT K h q σ0) (hc : 0 ≤ x1 ∧ x1 + 2 ≤ (Nj1 : Int)) (hend : ∀ (z : Int) (lv : List (Nat × Value)) (pc : Nat), (0 ≤ z ∧ z ≤ 65535) → (Tw σ0 (q j1) x1 z) → decode cX12_two pc = .ok (.ireturn, 1) → V p l e R s m args below meth c 2 D A Q (0, 0) (fd dom σ0) lv pc [.int (iI z)]) : V p l e R s m args below meth c 2 D A Q (0, 0) (fd dom σ0) [(0, .ref (q j1)), (1, .int (iI x1))] 0 [] := by
  have hN_j1 := lenB hj_j1
  refine v_aload_n B dX12_two_0 rfl rfl ?_
  refine v_iload_n B dX12_two_1 rfl rfl ?_
  obtain ⟨f1, h2, e3⟩ := G0.byte hj_j1
  obtain ⟨z4, e5, r6⟩ := e3 (x1 : Int).toNat
  refine u_bald B Z (t0 := 2) (Y.byte hj_j1) h2 rfl (by omega) e5 dX12_two_2 ?_
  refine v_sipush B (v := iI 255) dX12_two_3 (by decide +kernel) ?_
  obtain ⟨z7, e8, r9⟩ := iI_and z4 (c := 255) (by decide) (by decide)
  refine v_iand B (v := iI z7) dX12_two_6 e8 ?_
  refine v_aload_n B dX12_two_7 rfl rfl ?_
  refine v_iload_n B dX12_two_8 rfl rfl ?_
  refine v_iconst B (v := iI 1) dX12_two_9 rfl ?_
  refine v_iadd B (v := iI (x1 + 1)) dX12_two_10 ((iI_add _ _).trans (congrArg iI (by omega))) ?_
  obtain ⟨z10, e11, r12⟩ := e3 ((x1 + 1) : Int).toNat
  refine u_bald B Z (t0 := 2) (Y.byte hj_j1) h2 rfl (by omega) e11 dX12_two_11 ?_
  refine v_sipush B (v := iI 255) dX12_two_12 (by decide +kernel) ?_
  obtain ⟨z13, e14, r15⟩ := iI_and z10 (c := 255) (by decide) (by decide)
  refine v_iand B (v := iI z13) dX12_two_15 e14 ?_
  refine v_bipush B (v := iI 8) dX12_two_16 (by decide +kernel) ?_
  refine v_ishl B (v := iI (256 * z13)) dX12_two_18 ((iI_shl z13 8 (by decide)).trans (congrArg iI (by omega))) ?_
  obtain ⟨z16, e17, r18⟩ := iI_or (a := z7) (b := (256 * z13)) 16 (by decide) (by omega) (by omega)
  refine v_ior B (v := iI z16) dX12_two_19 e17 ?_
  exact hend z16 _ _ ⟨by omega, by omega⟩ (fun k N g e => by obtain rfl := arr_inj (h2.symm.trans e); rw [e5, e8, e11, e14, show iI z13 <<< (iI 8 &&& 31) = iI (256 * z13) from (iI_shl z13 8 (by decide)).trans (congrArg iI (by omega))]; exact e17) dX12_two_20
set_option maxRecDepth 100000 in
theorem c_M_twoX (l : Launch) (D : va_G) (K : Nat → ClassId) {τ : Nat → Option Ty} {dom : List Nat} (Z : Sk τ dom) (zb zL : Nat) (zx : Nat → Int32) (zs : Nat → Nat) (h : Nat) (q : Nat → Nat) (Y : MS τ h q) (j1 Nj1 : Nat) (x1 : Int) (hj_j1 : tabM[j1]? = some (2, Nj1, -128, 127)) (r_x1 : 0 ≤ x1 ∧ x1 ≤ 1600) (σ0 : Nat → va_E) (G0 : GT K h q σ0) (hc : 0 ≤ x1 ∧ x1 + 2 ≤ (Nj1 : Int)) : MZ l yX12_two wp_M_twoX ({ frames := 0, cells := 0, slots := 0, locals := 0 }) D (tysA K) [.ref (q j1), .int (iI x1)] (fd dom σ0) zb zL zx zs (Qi D (fun r σ' => σ0 = σ' ∧ ∃ z : Int, r = iI z ∧ (0 ≤ z ∧ z ≤ 65535) ∧ (Tw σ0 (q j1) x1 z)) (fun σ' => fd dom σ')) 0 0 := by
  refine mz_of (cc := cX12_two) (maxL := 2) (ret := (some .int)) (by decide +kernel) rfl (Nat.le_of_ble_eq_true rfl) ?_
  intro p e s m below meth c A B hr hlk _ hz
  exact b_M_twoX ⟨Nat.le_refl _, Nat.le_refl _⟩ B Z hz h q Y j1 Nj1 x1 hj_j1 r_x1 σ0 G0 hc (fun z lv pc hZ hP hd => v_iret B hr hlk σ0 ⟨rfl, z, rfl, hZ, hP⟩ rfl (Nat.le_refl _) (Nat.le_refl _) hd)
