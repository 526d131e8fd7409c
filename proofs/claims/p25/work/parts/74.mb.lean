/-- the small world of the box: the object and one row -/
def MB (τ : Nat → Option Ty) (h : Nat) (q : Nat → Nat) : Prop := τ h = some (50, 0, 0) ∧ τ (q 3) = some (103, 0, 0)
theorem MB.o {τ : Nat → Option Ty} {h : Nat} {q : Nat → Nat} (Y : MB τ h q) : τ h = some (50, 0, 0) := Y.1
theorem gb_y3 {τ : Nat → Option Ty} {h : Nat} {q : Nat → Nat} (Y : MB τ h q) : τ (q 3) = some (103, 0, 0) := Y.2
def GB (K : Nat → ClassId) (h : Nat) (q : Nat → Nat) (σ : Nat → va_E) : Prop := (∃ th tp t pk an : Int, σ h = .inr (12, fsM q (iI th) (iI tp) (iI t) (iI pk) (iI an)) ∧ (-2147483648 ≤ th ∧ th ≤ 2147483647) ∧ (0 ≤ tp ∧ tp ≤ 100) ∧ (-2147483648 ≤ t ∧ t ≤ 2147483647) ∧ (0 ≤ pk ∧ pk ≤ 16) ∧ (-2147483648 ≤ an ∧ an ≤ 2147483647)) ∧ okMi (K 0) 256 (0) (255) (σ (q 3))
theorem GB.o {K : Nat → ClassId} {h : Nat} {q : Nat → Nat} {σ : Nat → va_E} (G : GB K h q σ) : ∃ th tp t pk an : Int, σ h = .inr (12, fsM q (iI th) (iI tp) (iI t) (iI pk) (iI an)) ∧ (-2147483648 ≤ th ∧ th ≤ 2147483647) ∧ (0 ≤ tp ∧ tp ≤ 100) ∧ (-2147483648 ≤ t ∧ t ≤ 2147483647) ∧ (0 ≤ pk ∧ pk ≤ 16) ∧ (-2147483648 ≤ an ∧ an ≤ 2147483647) := G.1
theorem GB.t {K : Nat → ClassId} {h : Nat} {q : Nat → Nat} {σ : Nat → va_E} (G : GB K h q σ) : GB K h q σ := G
theorem gb_a3 {K : Nat → ClassId} {h : Nat} {q : Nat → Nat} {σ : Nat → va_E} (G : GB K h q σ) : okMi (K 0) 256 (0) (255) (σ (q 3)) := G.2
theorem gb_p3 {τ : Nat → Option Ty} {K : Nat → ClassId} {h : Nat} {q : Nat → Nat} {σ σ' : Nat → va_E} (Y : MB τ h q) (G : GB K h q σ) (hok : okMi (K 0) 256 (0) (255) (σ' (q 3))) (hne : ∀ b : Nat, b ≠ q 3 → σ' b = σ b) : GB K h q σ' := ⟨by rw [hne h (ne_ty Y.1 Y.2 (by decide))]; exact G.1, hok⟩
def wp_B_twice : List Cond := .code yX12_twice cX12_twice 1 (some .int) :: (([] : List Cond) ++ ([]))
set_option maxHeartbeats 4000000 in
set_option maxRecDepth 100000 in
theorem b_B_twice {p : Program} {l : Launch} {e : Env} {R : Room} {s : State} {m : MethodId} {args : Array Value} {below : List Frame} {meth : Method} {c : Code} {D : va_G} {K : Nat → ClassId} {A : Nat → Prop} {Q : State → Prop} {τ : Nat → Option Ty} {dom : List Nat} {zb zL : Nat} {zx : Nat → Int32} {zs : Nat → Nat} (hR : 0 ≤ R.frames ∧ 0 ≤ R.locals) (B : Bx p s m args c cX12_twice 1 RX12 wp_B_twice D (tysA K) A) (Z : Sk τ dom) (hz : ZL zb zL zx zs A s s.heap) (h : Nat) (q : Nat → Nat) (Y : MB τ h q) (x0 : Int) (r_x0 : -2147483648 ≤ x0 ∧ x0 ≤ 2147483647) (σ0 : Nat → va_E) (G0 : GB K h q σ0) (hend : ∀ (z : Int) (lv : List (Nat × Value)) (pc : Nat), (0 ≤ z ∧ z ≤ 255) → decode cX12_twice pc = .ok (.ireturn, 1) → V p l e R s m args below meth c 1 D A Q (0, 0) (fd dom σ0) lv pc [.int (iI z)]) : V p l e R s m args below meth c 1 D A Q (0, 0) (fd dom σ0) [(0, .int (iI x0))] 0 [] := by
  refine v_iload_n B dX12_twice_0 rfl rfl ?_
  refine v_iconst B (v := iI 1) dX12_twice_1 rfl ?_
  obtain ⟨z1, e2, r3⟩ := iI_any (iI x0 <<< (iI 1 &&& 31))
  refine v_ishl B (v := iI z1) dX12_twice_2 e2 ?_
  refine v_iload_n B dX12_twice_3 rfl rfl ?_
  refine v_bipush B (v := iI 7) dX12_twice_4 (by decide +kernel) ?_
  obtain ⟨z4, e5⟩ : ∃ z : Int, z = x0 / 128 := ⟨_, rfl⟩
  refine v_ishr B (v := iI z4) dX12_twice_6 ((iI_shr (a := x0) (by omega) 7 (by decide)).trans (congrArg iI (by omega))) ?_
  refine v_sipush B (v := iI 283) dX12_twice_7 (by decide +kernel) ?_
  obtain ⟨z6, e7, r8⟩ := iI_any (iI z4 * iI 283)
  refine v_imul B (v := iI z6) dX12_twice_10 e7 ?_
  obtain ⟨z9, e10, r11⟩ := iI_any (iI z1 ^^^ iI z6)
  refine v_ixor B (v := iI z9) dX12_twice_11 e10 ?_
  refine v_sipush B (v := iI 255) dX12_twice_12 (by decide +kernel) ?_
  obtain ⟨z12, e13, r14⟩ := iI_and z9 (c := 255) (by decide) (by decide)
  refine v_iand B (v := iI z12) dX12_twice_15 e13 ?_
  exact hend z12 _ _ ⟨by omega, by omega⟩ dX12_twice_16
set_option maxRecDepth 100000 in
theorem c_B_twice (l : Launch) (D : va_G) (K : Nat → ClassId) {τ : Nat → Option Ty} {dom : List Nat} (Z : Sk τ dom) (zb zL : Nat) (zx : Nat → Int32) (zs : Nat → Nat) (h : Nat) (q : Nat → Nat) (Y : MB τ h q) (x0 : Int) (r_x0 : -2147483648 ≤ x0 ∧ x0 ≤ 2147483647) (σ0 : Nat → va_E) (G0 : GB K h q σ0) : MZ l yX12_twice wp_B_twice ({ frames := 0, cells := 0, slots := 0, locals := 0 }) D (tysA K) [.int (iI x0)] (fd dom σ0) zb zL zx zs (Qi D (fun r σ' => σ0 = σ' ∧ ∃ z : Int, r = iI z ∧ (0 ≤ z ∧ z ≤ 255)) (fun σ' => fd dom σ')) 0 0 := by
  refine mz_of (cc := cX12_twice) (maxL := 1) (ret := (some .int)) (by decide +kernel) rfl (Nat.le_of_ble_eq_true rfl) ?_
  intro p e s m below meth c A B hr hlk _ hz
  exact b_B_twice ⟨Nat.le_refl _, Nat.le_refl _⟩ B Z hz h q Y x0 r_x0 σ0 G0 (fun z lv pc hZ hd => v_iret B hr hlk σ0 ⟨rfl, z, rfl, hZ⟩ rfl (Nat.le_refl _) (Nat.le_refl _) hd)

def wp_B_times : List Cond := .code yX12_times cX12_times 5 (some .int) :: (([.methodLink RX12 14 yX12_twice, .static yX12_twice, .initialized RX12, .code yX12_twice cX12_twice 1 (some .int)] : List Cond) ++ ([]))
set_option maxRecDepth 100000 in
theorem gd_B_times_B_twice_14 : GoodIn wp_B_times (va_wsS RX12 14 yX12_twice wp_B_twice) := goodIn_app (goodIn_r _ [1, 2, 3] rfl rfl) (goodIn_ca (goodIn_r _ [4] rfl rfl) (goodIn_nil))
set_option maxHeartbeats 4000000 in
set_option maxRecDepth 100000 in
theorem b_B_times {p : Program} {l : Launch} {e : Env} {R : Room} {s : State} {m : MethodId} {args : Array Value} {below : List Frame} {meth : Method} {c : Code} {D : va_G} {K : Nat → ClassId} {A : Nat → Prop} {Q : State → Prop} {τ : Nat → Option Ty} {dom : List Nat} {zb zL : Nat} {zx : Nat → Int32} {zs : Nat → Nat} (hR : 1 ≤ R.frames ∧ 20 ≤ R.locals) (B : Bx p s m args c cX12_times 5 RX12 wp_B_times D (tysA K) A) (Z : Sk τ dom) (hz : ZL zb zL zx zs A s s.heap) (h : Nat) (q : Nat → Nat) (Y : MB τ h q) (x0 : Int) (x1 : Int) (r_x0 : -2147483648 ≤ x0 ∧ x0 ≤ 2147483647) (r_x1 : -2147483648 ≤ x1 ∧ x1 ≤ 2147483647) (σ0 : Nat → va_E) (G0 : GB K h q σ0) (hend : ∀ (z : Int) (lv : List (Nat × Value)) (pc : Nat), (-2147483648 ≤ z ∧ z ≤ 2147483647) → decode cX12_times pc = .ok (.ireturn, 1) → V p l e R s m args below meth c 5 D A Q (0, 0) (fd dom σ0) lv pc [.int (iI z)]) : V p l e R s m args below meth c 5 D A Q (0, 0) (fd dom σ0) [(0, .int (iI x0)), (1, .int (iI x1))] 0 [] := by
  have J7 : ∀ (k7 : Nat) (z7_2 : Int) (z7_3 : Int) (z7_4 : Int), (2147483648 - z7_4).toNat ≤ k7 → (-2147483648 ≤ z7_2 ∧ z7_2 ≤ 2147483647) → (-2147483648 ≤ z7_3 ∧ z7_3 ≤ 2147483647) → (0 ≤ z7_4 ∧ z7_4 ≤ 8) → V p l e R s m args below meth c 5 D A Q (0, 0) (fd dom σ0) [(1, .int (iI x1)), (2, .int (iI z7_2)), (3, .int (iI z7_3)), (4, .int (iI z7_4))] 7 [] := by
    intro k7
    induction k7 with
    | zero => intro z7_2 z7_3 z7_4 m7 r7_2 r7_3 r7_4; omega
    | succ k7 IH7 =>
      intro z7_2 z7_3 z7_4 m7 r7_2 r7_3 r7_4
      have J28 : ∀ (z28_2 : Int), (0 ≤ z7_4 ∧ z7_4 ≤ 7) → (-2147483648 ≤ z28_2 ∧ z28_2 ≤ 2147483647) → V p l e R s m args below meth c 5 D A Q (0, 0) (fd dom σ0) [(1, .int (iI x1)), (2, .int (iI z28_2)), (3, .int (iI z7_3)), (4, .int (iI z7_4))] 28 [] := by
        intro z28_2 rv28_z7_4 r28_2
        refine v_iload_n B dX12_times_28 rfl rfl ?_
        refine u_callSi B Z hz (n := 1) (As := [.int (iI z7_3)]) (rest := []) (c_B_twice l D K Z _ _ _ _ h q Y z7_3 ⟨by omega, by omega⟩ σ0 (G0)) gd_B_times_B_twice_14 rfl rfl rfl (by decide +kernel) ⟨Nat.le_trans (by decide +kernel) hR.1, Nat.le_trans (by decide +kernel) hR.2⟩ rfl rfl (Nat.le_of_ble_eq_true rfl) dX12_times_29 ⟨Nat.zero_le _, Nat.zero_le _⟩ (fun v3 σ1 p2 => ?_)
        obtain ⟨rfl, z4, e5, r6⟩ := p2
        subst e5
        refine v_istore_n B (lv' := [(3, .int (iI z4)), (1, .int (iI x1)), (2, .int (iI z28_2)), (4, .int (iI z7_4))]) dX12_times_32 rfl (by decide +kernel) rfl ?_
        refine v_iinc B (k := 3) (v := iI (z7_4 + 1)) (lv' := [(4, .int (iI (z7_4 + 1))), (3, .int (iI z4)), (1, .int (iI x1)), (2, .int (iI z28_2))]) dX12_times_33 rfl ((iI_add _ _).trans (congrArg iI (by omega))) (by decide +kernel) rfl ?_
        refine v_goto B (tgt := 7) dX12_times_36 (by decide +kernel) ?_
        refine v_lv [2, 3, 1, 0] rfl ?_
        exact IH7 z28_2 z4 (z7_4 + 1) (by omega) ⟨by omega, by omega⟩ ⟨by omega, by omega⟩ ⟨by omega, by omega⟩
      refine v_iload B dX12_times_7 rfl ?_
      refine v_bipush B (v := iI 8) dX12_times_9 (by decide +kernel) ?_
      refine u_icmp_ge B (tgt := 39) (by omega) (by omega) dX12_times_11 (by decide +kernel) (fun c7 => ?_) (fun c7 => ?_)
      · refine v_iload_n B dX12_times_39 rfl rfl ?_
        exact hend z7_2 _ _ ⟨by omega, by omega⟩ dX12_times_40
      · refine v_iload_n B dX12_times_14 rfl rfl ?_
        refine v_iload B dX12_times_15 rfl ?_
        obtain ⟨z8, e9, r10⟩ := iI_any (iI x1 >>> (iI z7_4 &&& 31))
        refine v_ishr B (v := iI z8) dX12_times_17 e9 ?_
        refine v_iconst B (v := iI 1) dX12_times_18 rfl ?_
        obtain ⟨z11, e12, r13⟩ := iI_and z8 (c := 1) (by decide) (by decide)
        refine v_iand B (v := iI z11) dX12_times_19 e12 ?_
        refine v_iconst B (v := iI 1) dX12_times_20 rfl ?_
        refine u_icmp_ne B (tgt := 28) (by omega) (by omega) dX12_times_21 (by decide +kernel) (fun c14 => ?_) (fun c14 => ?_)
        · exact J28 z7_2 ⟨by omega, by omega⟩ ⟨by omega, by omega⟩
        · refine v_iload_n B dX12_times_24 rfl rfl ?_
          refine v_iload_n B dX12_times_25 rfl rfl ?_
          obtain ⟨z15, e16, r17⟩ := iI_any (iI z7_2 ^^^ iI z7_3)
          refine v_ixor B (v := iI z15) dX12_times_26 e16 ?_
          refine v_istore_n B (lv' := [(2, .int (iI z15)), (1, .int (iI x1)), (3, .int (iI z7_3)), (4, .int (iI z7_4))]) dX12_times_27 rfl (by decide +kernel) rfl ?_
          refine v_lv [1, 0, 2, 3] rfl ?_
          exact J28 z15 ⟨by omega, by omega⟩ ⟨by omega, by omega⟩
  refine v_iconst B (v := iI 0) dX12_times_0 rfl ?_
  refine v_istore_n B (lv' := [(2, .int (iI 0)), (0, .int (iI x0)), (1, .int (iI x1))]) dX12_times_1 rfl (by decide +kernel) rfl ?_
  refine v_iload_n B dX12_times_2 rfl rfl ?_
  refine v_istore_n B (lv' := [(3, .int (iI x0)), (2, .int (iI 0)), (0, .int (iI x0)), (1, .int (iI x1))]) dX12_times_3 rfl (by decide +kernel) rfl ?_
  refine v_iconst B (v := iI 0) dX12_times_4 rfl ?_
  refine v_istore B (lv' := [(4, .int (iI 0)), (3, .int (iI x0)), (2, .int (iI 0)), (0, .int (iI x0)), (1, .int (iI x1))]) dX12_times_5 (by decide +kernel) rfl ?_
  refine v_lv [4, 2, 1, 0] rfl ?_
  exact J7 _ 0 x0 0 (Nat.le_refl _) ⟨by omega, by omega⟩ ⟨by omega, by omega⟩ ⟨by omega, by omega⟩
set_option maxRecDepth 100000 in
theorem c_B_times (l : Launch) (D : va_G) (K : Nat → ClassId) {τ : Nat → Option Ty} {dom : List Nat} (Z : Sk τ dom) (zb zL : Nat) (zx : Nat → Int32) (zs : Nat → Nat) (h : Nat) (q : Nat → Nat) (Y : MB τ h q) (x0 : Int) (x1 : Int) (r_x0 : -2147483648 ≤ x0 ∧ x0 ≤ 2147483647) (r_x1 : -2147483648 ≤ x1 ∧ x1 ≤ 2147483647) (σ0 : Nat → va_E) (G0 : GB K h q σ0) : MZ l yX12_times wp_B_times ({ frames := 1, cells := 0, slots := 0, locals := 20 }) D (tysA K) [.int (iI x0), .int (iI x1)] (fd dom σ0) zb zL zx zs (Qi D (fun r σ' => σ0 = σ' ∧ ∃ z : Int, r = iI z ∧ (-2147483648 ≤ z ∧ z ≤ 2147483647)) (fun σ' => fd dom σ')) 0 0 := by
  refine mz_of (cc := cX12_times) (maxL := 5) (ret := (some .int)) (by decide +kernel) rfl (Nat.le_of_ble_eq_true rfl) ?_
  intro p e s m below meth c A B hr hlk _ hz
  exact b_B_times ⟨Nat.le_refl _, Nat.le_refl _⟩ B Z hz h q Y x0 x1 r_x0 r_x1 σ0 G0 (fun z lv pc hZ hd => v_iret B hr hlk σ0 ⟨rfl, z, rfl, hZ⟩ rfl (Nat.le_refl _) (Nat.le_refl _) hd)

def wp_B_fillBox : List Cond := .code yX12_fillBox cX12_fillBox 5 none :: (([.fieldLink RX12 22 "LowEnergyModel" "box" "[I", .methodLink RX12 18 yX12_times, .static yX12_times, .initialized RX12, .code yX12_times cX12_times 5 (some .int), .methodLink RX12 14 yX12_twice, .static yX12_twice, .code yX12_twice cX12_twice 1 (some .int)] : List Cond) ++ (wsX120 ++ ([])))
theorem hi_B_fillBox_X12 : ∀ x ∈ u_ws RX12 TX12 123, x ∈ wp_B_fillBox := fun _ h => List.mem_cons_of_mem _ (List.mem_append_right _ (List.mem_append_left _ h))
set_option maxRecDepth 100000 in
theorem gd_B_fillBox_B_times_18 : GoodIn wp_B_fillBox (va_wsS RX12 18 yX12_times wp_B_times) := goodIn_app (goodIn_r _ [2, 3, 4] rfl rfl) (goodIn_ca (goodIn_r _ [5, 6, 7, 4, 8] rfl rfl) (goodIn_nil))
set_option maxHeartbeats 4000000 in
set_option maxRecDepth 100000 in
theorem b_B_fillBox {p : Program} {l : Launch} {e : Env} {R : Room} {s : State} {m : MethodId} {args : Array Value} {below : List Frame} {meth : Method} {c : Code} {D : va_G} {K : Nat → ClassId} {A : Nat → Prop} {Q : State → Prop} {τ : Nat → Option Ty} {dom : List Nat} {zb zL : Nat} {zx : Nat → Int32} {zs : Nat → Nat} (hR : 2 ≤ R.frames ∧ 44 ≤ R.locals) (B : Bx p s m args c cX12_fillBox 5 RX12 wp_B_fillBox D (tysA K) A) (Z : Sk τ dom) (hz : ZL zb zL zx zs A s s.heap) (h : Nat) (q : Nat → Nat) (Y : MB τ h q)   (σ0 : Nat → va_E) (G0 : GB K h q σ0) (hend : ∀ (σ' : Nat → va_E) (lv : List (Nat × Value)) (pc : Nat), GB K h q σ' → Fr τ [(103, 0)] σ0 σ' → decode cX12_fillBox pc = .ok (.return_, 1) → V p l e R s m args below meth c 5 D A Q (0, 0) (fd dom σ') lv pc []) : V p l e R s m args below meth c 5 D A Q (0, 0) (fd dom σ0) [(0, .ref h)] 0 [] := by
  have F0 : Fr τ [(103, 0)] σ0 σ0 := Fr.rf
  obtain ⟨z1, z2, z3, z4, z5, h6, r7, r8, r9, r10, r11⟩ := G0.t.o
  have J2 : ∀ (k2 : Nat) (σ_2 : Nat → va_E) (z2_1 : Int), (2147483648 - z2_1).toNat ≤ k2 → GB K h q σ_2 → Fr τ [(103, 0)] σ0 σ_2 → (σ_2 h = .inr (12, fsM q (iI z1) (iI z2) (iI z3) (iI z4) (iI z5))) → (0 ≤ z2_1 ∧ z2_1 ≤ 256) → V p l e R s m args below meth c 5 D A Q (0, 0) (fd dom σ_2) [(0, .ref h), (1, .int (iI z2_1))] 2 [] := by
    intro k2
    induction k2 with
    | zero => intro σ_2 z2_1 m2 G_2 F_2 hc2_h r2_1; omega
    | succ k2 IH2 =>
      intro σ_2 z2_1 m2 G_2 F_2 hc2_h r2_1
      have J42 : ∀ (k42 : Nat) (z42_2 : Int) (z42_3 : Int) (z42_4 : Int), (2147483648 - z42_4).toNat ≤ k42 → (0 ≤ z2_1 ∧ z2_1 ≤ 255) → (0 ≤ z42_2 ∧ z42_2 ≤ 255) → (0 ≤ z42_3 ∧ z42_3 ≤ 255) → (1 ≤ z42_4 ∧ z42_4 ≤ 5) → V p l e R s m args below meth c 5 D A Q (0, 0) (fd dom σ_2) [(0, .ref h), (1, .int (iI z2_1)), (2, .int (iI z42_2)), (3, .int (iI z42_3)), (4, .int (iI z42_4))] 42 [] := by
        intro k42
        induction k42 with
        | zero => intro z42_2 z42_3 z42_4 m42 rv42_z2_1 r42_2 r42_3 r42_4; omega
        | succ k42 IH42 =>
          intro z42_2 z42_3 z42_4 m42 rv42_z2_1 r42_2 r42_3 r42_4
          refine v_iload B dX12_fillBox_42 rfl ?_
          refine v_iconst B (v := iI 5) dX12_fillBox_44 rfl ?_
          refine u_icmp_ge B (tgt := 73) (by omega) (by omega) dX12_fillBox_45 (by decide +kernel) (fun c12 => ?_) (fun c12 => ?_)
          · refine v_aload_n B dX12_fillBox_73 rfl rfl ?_
            refine u_get B Z (C := RX12) (T := TX12) (N := 123) (ci := 12) hi_B_fillBox_X12 Y.o hc2_h rfl 3 (by decide +kernel) (List.mem_of_getElem? (i := 1) rfl) rfl dX12_fillBox_74 ?_
            refine v_iload_n B dX12_fillBox_77 rfl rfl ?_
            refine v_iload_n B dX12_fillBox_78 rfl rfl ?_
            refine v_bipush B (v := iI 99) dX12_fillBox_79 (by decide +kernel) ?_
            obtain ⟨z13, e14, r15⟩ := iI_xor (a := z42_3) (b := 99) 8 (by decide) (by omega) (by omega)
            refine v_ixor B (v := iI z13) dX12_fillBox_81 e14 ?_
            obtain ⟨f16, h17, e18⟩ := gb_a3 G_2.t
            refine u_iast B Z (t0 := 0) (x := iI z13) (gb_y3 Y) h17 rfl (by omega) dX12_fillBox_82 (fun σ19 h20 n21 => ?_)
            have e22 := el_upd (z := z13) e18 ⟨by omega, by omega⟩ (z2_1 : Int).toNat
            have F23 := F_2.put (gb_y3 Y) (by simp) n21
            have G24 := gb_p3 Y G_2 ⟨_, h20, e22⟩ n21
            refine v_iinc B (k := 1) (v := iI (z2_1 + 1)) (lv' := [(1, .int (iI (z2_1 + 1))), (0, .ref h), (2, .int (iI z42_2)), (3, .int (iI z42_3)), (4, .int (iI z42_4))]) dX12_fillBox_83 rfl ((iI_add _ _).trans (congrArg iI (by omega))) (by decide +kernel) rfl ?_
            refine v_goto B (tgt := 2) dX12_fillBox_86 (by decide +kernel) ?_
            refine v_lv [1, 0] rfl ?_
            have h25 := (n21 h (ne_ty Y.o (gb_y3 Y) (by decide))).trans (hc2_h)
            exact IH2 σ19 (z2_1 + 1) (by omega) G24 F23 h25 ⟨by omega, by omega⟩
          · refine v_iload_n B dX12_fillBox_48 rfl rfl ?_
            refine v_iload_n B dX12_fillBox_49 rfl rfl ?_
            refine v_iload B dX12_fillBox_50 rfl ?_
            obtain ⟨z26, e27, r28⟩ := iI_shlv (a := z42_2) (c := z42_4) (A := 255) 4 (by decide) (by omega) (by omega)
            refine v_ishl B (v := iI z26) dX12_fillBox_52 e27 ?_
            refine v_iload_n B dX12_fillBox_53 rfl rfl ?_
            refine v_bipush B (v := iI 8) dX12_fillBox_54 (by decide +kernel) ?_
            refine v_iload B dX12_fillBox_56 rfl ?_
            refine v_isub B (v := iI ((-1) * z42_4 + 8)) dX12_fillBox_58 ((iI_sub _ _).trans (congrArg iI (by omega))) ?_
            obtain ⟨z29, e30, r31⟩ := iI_any (iI z42_2 >>> (iI ((-1) * z42_4 + 8) &&& 31))
            refine v_ishr B (v := iI z29) dX12_fillBox_59 e30 ?_
            obtain ⟨z32, e33, r34⟩ := iI_any (iI z26 ||| iI z29)
            refine v_ior B (v := iI z32) dX12_fillBox_60 e33 ?_
            refine v_sipush B (v := iI 255) dX12_fillBox_61 (by decide +kernel) ?_
            obtain ⟨z35, e36, r37⟩ := iI_and z32 (c := 255) (by decide) (by decide)
            refine v_iand B (v := iI z35) dX12_fillBox_64 e36 ?_
            obtain ⟨z38, e39, r40⟩ := iI_xor (a := z42_3) (b := z35) 8 (by decide) (by omega) (by omega)
            refine v_ixor B (v := iI z38) dX12_fillBox_65 e39 ?_
            refine v_istore_n B (lv' := [(3, .int (iI z38)), (0, .ref h), (1, .int (iI z2_1)), (2, .int (iI z42_2)), (4, .int (iI z42_4))]) dX12_fillBox_66 rfl (by decide +kernel) rfl ?_
            refine v_iinc B (k := 4) (v := iI (z42_4 + 1)) (lv' := [(4, .int (iI (z42_4 + 1))), (3, .int (iI z38)), (0, .ref h), (1, .int (iI z2_1)), (2, .int (iI z42_2))]) dX12_fillBox_67 rfl ((iI_add _ _).trans (congrArg iI (by omega))) (by decide +kernel) rfl ?_
            refine v_goto B (tgt := 42) dX12_fillBox_70 (by decide +kernel) ?_
            refine v_lv [2, 3, 4, 1, 0] rfl ?_
            exact IH42 z42_2 z38 (z42_4 + 1) (by omega) ⟨by omega, by omega⟩ ⟨by omega, by omega⟩ ⟨by omega, by omega⟩ ⟨by omega, by omega⟩
      have J13 : ∀ (k13 : Nat) (z13_2 : Int) (z13_3 : Int), (2147483648 - z13_3).toNat ≤ k13 → (0 ≤ z2_1 ∧ z2_1 ≤ 255) → (0 ≤ z13_2 ∧ z13_2 ≤ 255) → (1 ≤ z13_3 ∧ z13_3 ≤ 256) → V p l e R s m args below meth c 5 D A Q (0, 0) (fd dom σ_2) [(0, .ref h), (1, .int (iI z2_1)), (2, .int (iI z13_2)), (3, .int (iI z13_3))] 13 [] := by
        intro k13
        induction k13 with
        | zero => intro z13_2 z13_3 m13 rv13_z2_1 r13_2 r13_3; omega
        | succ k13 IH13 =>
          intro z13_2 z13_3 m13 rv13_z2_1 r13_2 r13_3
          have J31 : ∀ (z31_2 : Int), (1 ≤ z13_3 ∧ z13_3 ≤ 255) → (0 ≤ z31_2 ∧ z31_2 ≤ 255) → V p l e R s m args below meth c 5 D A Q (0, 0) (fd dom σ_2) [(0, .ref h), (1, .int (iI z2_1)), (2, .int (iI z31_2)), (3, .int (iI z13_3))] 31 [] := by
            intro z31_2 rv31_z13_3 r31_2
            refine v_iinc B (k := 3) (v := iI (z13_3 + 1)) (lv' := [(3, .int (iI (z13_3 + 1))), (0, .ref h), (1, .int (iI z2_1)), (2, .int (iI z31_2))]) dX12_fillBox_31 rfl ((iI_add _ _).trans (congrArg iI (by omega))) (by decide +kernel) rfl ?_
            refine v_goto B (tgt := 13) dX12_fillBox_34 (by decide +kernel) ?_
            refine v_lv [1, 2, 3, 0] rfl ?_
            exact IH13 z31_2 (z13_3 + 1) (by omega) ⟨by omega, by omega⟩ ⟨by omega, by omega⟩ ⟨by omega, by omega⟩
          refine v_iload_n B dX12_fillBox_13 rfl rfl ?_
          refine v_sipush B (v := iI 256) dX12_fillBox_14 (by decide +kernel) ?_
          refine u_icmp_ge B (tgt := 37) (by omega) (by omega) dX12_fillBox_17 (by decide +kernel) (fun c41 => ?_) (fun c41 => ?_)
          · refine v_iload_n B dX12_fillBox_37 rfl rfl ?_
            refine v_istore_n B (lv' := [(3, .int (iI z13_2)), (0, .ref h), (1, .int (iI z2_1)), (2, .int (iI z13_2))]) dX12_fillBox_38 rfl (by decide +kernel) rfl ?_
            refine v_iconst B (v := iI 1) dX12_fillBox_39 rfl ?_
            refine v_istore B (lv' := [(4, .int (iI 1)), (3, .int (iI z13_2)), (0, .ref h), (1, .int (iI z2_1)), (2, .int (iI z13_2))]) dX12_fillBox_40 (by decide +kernel) rfl ?_
            refine v_lv [2, 3, 4, 1, 0] rfl ?_
            exact J42 _ z13_2 z13_2 1 (Nat.le_refl _) ⟨by omega, by omega⟩ ⟨by omega, by omega⟩ ⟨by omega, by omega⟩ ⟨by omega, by omega⟩
          · refine v_iload_n B dX12_fillBox_20 rfl rfl ?_
            refine v_iload_n B dX12_fillBox_21 rfl rfl ?_
            refine u_callSi B Z hz (n := 2) (As := [.int (iI z2_1), .int (iI z13_3)]) (rest := []) (c_B_times l D K Z _ _ _ _ h q Y z2_1 z13_3 ⟨by omega, by omega⟩ ⟨by omega, by omega⟩ σ_2 (G_2.t)) gd_B_fillBox_B_times_18 rfl rfl rfl (by decide +kernel) ⟨Nat.le_trans (by decide +kernel) hR.1, Nat.le_trans (by decide +kernel) hR.2⟩ rfl rfl (Nat.le_of_ble_eq_true rfl) dX12_fillBox_22 ⟨Nat.zero_le _, Nat.zero_le _⟩ (fun v44 σ42 p43 => ?_)
            obtain ⟨rfl, z45, e46, r47⟩ := p43
            subst e46
            refine v_iconst B (v := iI 1) dX12_fillBox_25 rfl ?_
            refine u_icmp_ne B (tgt := 31) (by omega) (by omega) dX12_fillBox_26 (by decide +kernel) (fun c48 => ?_) (fun c48 => ?_)
            · exact J31 z13_2 ⟨by omega, by omega⟩ ⟨by omega, by omega⟩
            · refine v_iload_n B dX12_fillBox_29 rfl rfl ?_
              refine v_istore_n B (lv' := [(2, .int (iI z13_3)), (0, .ref h), (1, .int (iI z2_1)), (3, .int (iI z13_3))]) dX12_fillBox_30 rfl (by decide +kernel) rfl ?_
              refine v_lv [1, 2, 0, 3] rfl ?_
              exact J31 z13_3 ⟨by omega, by omega⟩ ⟨by omega, by omega⟩
      refine v_iload_n B dX12_fillBox_2 rfl rfl ?_
      refine v_sipush B (v := iI 256) dX12_fillBox_3 (by decide +kernel) ?_
      refine u_icmp_ge B (tgt := 89) (by omega) (by omega) dX12_fillBox_6 (by decide +kernel) (fun c49 => ?_) (fun c49 => ?_)
      · exact hend σ_2 _ _ G_2 F_2 dX12_fillBox_89
      · refine v_iconst B (v := iI 0) dX12_fillBox_9 rfl ?_
        refine v_istore_n B (lv' := [(2, .int (iI 0)), (0, .ref h), (1, .int (iI z2_1))]) dX12_fillBox_10 rfl (by decide +kernel) rfl ?_
        refine v_iconst B (v := iI 1) dX12_fillBox_11 rfl ?_
        refine v_istore_n B (lv' := [(3, .int (iI 1)), (2, .int (iI 0)), (0, .ref h), (1, .int (iI z2_1))]) dX12_fillBox_12 rfl (by decide +kernel) rfl ?_
        refine v_lv [2, 3, 1, 0] rfl ?_
        exact J13 _ 0 1 (Nat.le_refl _) ⟨by omega, by omega⟩ ⟨by omega, by omega⟩ ⟨by omega, by omega⟩
  refine v_iconst B (v := iI 0) dX12_fillBox_0 rfl ?_
  refine v_istore_n B (lv' := [(1, .int (iI 0)), (0, .ref h)]) dX12_fillBox_1 rfl (by decide +kernel) rfl ?_
  refine v_lv [1, 0] rfl ?_
  exact J2 _ σ0 0 (Nat.le_refl _) G0 F0 h6 ⟨by omega, by omega⟩
set_option maxRecDepth 100000 in
theorem c_B_fillBox (l : Launch) (D : va_G) (K : Nat → ClassId) {τ : Nat → Option Ty} {dom : List Nat} (Z : Sk τ dom) (zb zL : Nat) (zx : Nat → Int32) (zs : Nat → Nat) (h : Nat) (q : Nat → Nat) (Y : MB τ h q)   (σ0 : Nat → va_E) (G0 : GB K h q σ0) : MZ l yX12_fillBox wp_B_fillBox ({ frames := 2, cells := 0, slots := 0, locals := 44 }) D (tysA K) [.ref h] (fd dom σ0) zb zL zx zs (Qv D (fun σ' => GB K h q σ' ∧ Fr τ [(103, 0)] σ0 σ') (fun σ' => fd dom σ')) 0 0 := by
  refine mz_of (cc := cX12_fillBox) (maxL := 5) (ret := none) (by decide +kernel) rfl (Nat.le_of_ble_eq_true rfl) ?_
  intro p e s m below meth c A B hr hlk _ hz
  exact b_B_fillBox ⟨Nat.le_refl _, Nat.le_refl _⟩ B Z hz h q Y  σ0 G0 (fun σ' lv pc G F hd => v_vret B hr hlk σ' ⟨G, F⟩ rfl (Nat.le_refl _) (Nat.le_refl _) hd)

section VB
variable {p : Program} {l : Launch} {e : Env} {R : Room} {s : State} {m : MethodId} {args : Array Value} {below : List Frame} {meth : Method} {c : Code} {cc : ByteArray} {nL : Nat} {own : String} {Ts : List Cond} {D : va_G} {tys : List (ClassId × FieldType)} {A : Nat → Prop} {Q : State → Prop} {cs : Nat × Nat} {w : va_W} {lv : List (Nat × Value)} {pc : Nat} {st : List Value}
variable {b L : Nat} {xs : Nat → Int32} {sa : Nat → Nat} {K : Nat → ClassId}
theorem v_nd (kk : (w.map Prod.fst).Nodup → V p l e R s m args below meth c nL D A Q cs w lv pc st) : V p l e R s m args below meth c nL D A Q cs w lv pc st := fun H locs ls hP hD hS hl => kk (dD_nd hD) H locs ls hP hD hS hl
theorem v_fill (B : Bx p s m args c cc nL own Ts D (tysA K) A) (hz : ZL b L xs sa A s s.heap) {h index : Nat} {q : Nat → Nat} {wr : va_W} {rest : List Value} (hne : h ≠ q 3) (hG : GoodIn Ts (wsV own index RX12 yX12_fillBox wp_B_fillBox)) (hR : 3 ≤ R.frames ∧ 68 ≤ R.locals) (hsp : Sp w [(h, .inr (12, fsM q 0 0 0 0 0)), (q 3, .inl (K 0, 256, .inl (fun _ => 0)))] wr) (hst : st = .ref h :: rest) (hW : (rest.map fun v => v.category).sum ≤ 8) (hd : decode cc pc = .ok (.invokevirtual index, 3)) (hf : cs.1 ≤ R.cells ∧ cs.2 ≤ R.slots) (kk : ∀ f : Nat → Int32, (∀ i : Nat, ∃ z : Int, f i = iI z ∧ (0 ≤ z ∧ z ≤ 255)) → V p l e R s m args below meth c nL D A Q cs (wr ++ [(h, .inr (12, fsM q 0 0 0 0 0)), (q 3, .inl (K 0, 256, .inl f))]) lv (pc + 3) rest) : V p l e R s m args below meth c nL D A Q cs w lv pc st := by
  have e1 : (fun a => if a = h then (.inr (12, fsM q 0 0 0 0 0) : va_E) else .inl (K 0, 256, .inl (fun _ => 0))) h = .inr (12, fsM q 0 0 0 0 0) := if_pos rfl
  have e2 : (fun a => if a = h then (.inr (12, fsM q 0 0 0 0 0) : va_E) else .inl (K 0, 256, .inl (fun _ => 0))) (q 3) = .inl (K 0, 256, .inl (fun _ => 0)) := if_neg (fun e => hne e.symm)
  generalize (fun a => if a = h then (.inr (12, fsM q 0 0 0 0 0) : va_E) else .inl (K 0, 256, .inl (fun _ => 0))) = σ at e1 e2
  have t1 : (fun a => if a = h then some ((50, 0, 0) : Ty) else if a = q 3 then some (103, 0, 0) else none) h = some (50, 0, 0) := if_pos rfl
  have t2 : (fun a => if a = h then some ((50, 0, 0) : Ty) else if a = q 3 then some (103, 0, 0) else none) (q 3) = some (103, 0, 0) := (if_neg (fun e => hne e.symm)).trans (if_pos rfl)
  have t3 : ∀ (a : Nat) (t : Ty), (fun a => if a = h then some ((50, 0, 0) : Ty) else if a = q 3 then some (103, 0, 0) else none) a = some t → a ∈ [h, q 3] := fun a t ha => by
    by_cases c1 : a = h
    · rw [c1]; exact List.mem_cons_self
    · by_cases c2 : a = q 3
      · rw [c2]; exact List.mem_cons_of_mem _ List.mem_cons_self
      · simp [c1, c2] at ha
  generalize (fun a => if a = h then some ((50, 0, 0) : Ty) else if a = q 3 then some (103, 0, 0) else none) = τ at t1 t2 t3
  have Z : Sk τ [h, q 3] := ⟨by simp [hne], t3⟩
  have hw : fd [h, q 3] σ = [(h, .inr (12, fsM q 0 0 0 0 0)), (q 3, .inl (K 0, 256, .inl (fun _ => 0)))] := by
    show [(h, σ h), (q 3, σ (q 3))] = _
    rw [e1, e2]
  have G : GB K h q σ := ⟨⟨0, 0, 0, 0, 0, e1, by decide, by decide, by decide, by decide, by decide⟩, ⟨_, e2, zero_el 0 255 (by decide)⟩⟩
  have hM := c_B_fillBox l D K Z b L xs sa h q ⟨t1, t2⟩ σ G
  rw [hw] at hM
  refine v_callVvZ B hz (n := 0) (As := []) (rest := rest) (C := RX12) (a := h) hM hG rfl rfl rfl (by decide +kernel) ⟨Nat.le_trans (by decide +kernel) hR.1, Nat.le_trans (by decide +kernel) hR.2⟩ (k0 := 0) (ci := 12) (fs := fsM q 0 0 0 0 0) rfl rfl rfl hsp rfl hst hW hd hf (fun σ' hp => ?_)
  obtain ⟨G', F'⟩ := hp
  obtain ⟨f, hf1, hf2⟩ := gb_a3 G'
  have hh : σ' h = .inr (12, fsM q 0 0 0 0 0) := (F' h _ t1 (by rfl)).trans e1
  show V _ _ _ _ _ _ _ _ _ _ _ _ _ _ _ (wr ++ [(h, σ' h), (q 3, σ' (q 3))]) _ _ _
  rw [hh, hf1]
  exact kk f hf2
end VB
