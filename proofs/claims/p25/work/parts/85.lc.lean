set_option maxHeartbeats 4000000 in
set_option maxRecDepth 100000 in
theorem lc_tick {p : Program} {l : Launch} {e : Env} {s : State} {m : MethodId} {below : List Frame} {meth : Method} {c : Code} {D : va_G} {A : Nat → Prop} {Q : State → Prop} {zb zL : Nat} {zx : Nat → Int32} {zs : Nat → Nat} (hl0 : l.stackTraces = false) {K : Nat → ClassId} {τx τm : Nat → Option Ty} {dx dm : List Nat} (Zx : Sk τx dx) (Zm : Sk τm dm) {hx hm ho : Nat} {q : Nat → Nat} (tx : τx hx = some (41, 0, 0)) (Y : MS τm hm q) (B : Bx p s m #[.ref zb] c cL_law 7 RL lw_tbl D (tysA K) A) (hz : ZL zb zL zx zs A s s.heap) (z : Int) (n : Nat) (hi : 2 ≤ z ∧ z + 9 ≤ (zL : Int) ∧ (zL : Int) ≤ 4610) (hn : n ≤ 600) (σx σm : Nat → va_E) (g : Nat → Int64) (Gx : Good K τx σx) (Gm : GM K hm q σm) (kk : ∀ (σx σm : Nat → va_E) (g : Nat → Int64), Good K τx σx → GM K hm q σm → V p l e room_1 s m #[.ref zb] below meth c 7 D A Q (2000 + (n + 1), 40000 + 6 * (n + 1)) (wL K dx dm ho σx σm g) [(4, .int (iI z)), (3, .ref ho), (2, .ref hm), (1, .ref hx), (0, .ref zb)] 1455 []) : V p l e room_1 s m #[.ref zb] below meth c 7 D A Q (2000 + n, 40000 + 6 * n) (wL K dx dm ho σx σm g) [(4, .int (iI z)), (3, .ref ho), (2, .ref hm), (1, .ref hx), (0, .ref zb)] 569 [] := by
  refine v_aload_n B dL_law_569 rfl rfl ?_
  refine v_aload_n B dL_law_570 rfl rfl ?_
  refine v_iload B dL_law_571 rfl ?_
  refine v_iconst B (v := iI 1) dL_law_573 rfl ?_
  refine v_iadd B (v := iI (z + 1)) dL_law_574 (iI_add _ _) ?_
  obtain ⟨x1, e2, r3⟩ := iI_any (zx ((z + 1) : Int).toNat)
  refine u_sld B hz (z := (z + 1)) (v := x1) (by omega) e2 dL_law_575 ?_
  refine v_aload_n B dL_law_576 rfl rfl ?_
  refine v_perm (pL3 _ _ _) ?_
  refine v_callSiW B hz (n := 3) (As := [.ref hx, .int (iI x1), .ref ho]) (rest := []) (wc := fd dx σx ++ [(ho, .inl (K 1, 1, .inr (.inl g)))]) (wr := fd dm σm) (lk_tick l hl0 D K Zx zb zL zx zs hx ho x1 tx ⟨by omega, by omega⟩ σx Gx g) gl_lk_tick_71 rfl rfl rfl (by decide +kernel) ⟨by decide +kernel, by decide +kernel⟩ (sp_app _ _) rfl rfl (Nat.le_of_ble_eq_true rfl) dL_law_577 ⟨by show _ ≤ 601024; dsimp only; omega, by show _ ≤ 7293000; dsimp only; omega⟩ (fun r4 u5 hp6 => ?_)
  obtain ⟨σ7, g8⟩ := u5
  obtain ⟨z9, rfl, r11⟩ : ∃ z : Int, r4 = iI z ∧ InR z := iI_any r4
  refine v_perm (pL4 _ _ _) ?_
  show V _ _ _ _ _ _ _ _ _ _ _ _ _ _ (2000 + n + 1, 40000 + 6 * n + 6) (wL K dx dm ho σ7 σm g8) _ _ [.int (iI z9)]
  refine v_istore B (lv' := [(5, .int (iI z9)), (4, .int (iI z)), (3, .ref ho), (2, .ref hm), (1, .ref hx), (0, .ref zb)]) dL_law_580 (by decide +kernel) rfl ?_
  refine v_aload_n B dL_law_582 rfl rfl ?_
  refine v_aload_n B dL_law_583 rfl rfl ?_
  refine v_iload B dL_law_584 rfl ?_
  refine v_iconst B (v := iI 1) dL_law_586 rfl ?_
  refine v_iadd B (v := iI (z + 1)) dL_law_587 (iI_add _ _) ?_
  refine u_sld B hz (z := (z + 1)) (v := x1) (by omega) e2 dL_law_588 ?_
  refine l_calli B hz Zm (a := hm) (n := 1) (As := [.int (iI x1)]) (rest := []) (wo := fd dx σ7 ++ [(ho, .inl (K 1, 1, .inr (.inl g8)))]) (w2 := (fun σ9 => wL K dx dm ho σ7 σ9 g8)) (pL1 _ _ _) (c_M_tick l D K Zm zb zL zx zs hm q Y x1 ⟨by omega, by omega⟩ σm Gm) gl_M_tick_74 rfl rfl rfl (by decide +kernel) ⟨by decide +kernel, by decide +kernel⟩ Y.o (clsM Gm.t) rfl rfl rfl rfl (Nat.le_of_ble_eq_true rfl) dL_law_589 ⟨by show _ ≤ 601024; dsimp only; omega, by show _ ≤ 7293000; dsimp only; omega⟩ (fun σ9 => pm4 _ _ _) (fun r12 σ13 hp14 => ?_)
  obtain ⟨G18, -, z15, rfl, r17⟩ := hp14
  show V _ _ _ _ _ _ _ _ _ _ _ _ _ _ (2000 + n + 1, 40000 + 6 * n + 6) (wL K dx dm ho σ7 σ13 g8) _ _ [.int (iI z15)]
  refine v_istore B (lv' := [(6, .int (iI z15)), (5, .int (iI z9)), (4, .int (iI z)), (3, .ref ho), (2, .ref hm), (1, .ref hx), (0, .ref zb)]) dL_law_592 (by decide +kernel) rfl ?_
  refine v_goto B (tgt := 1455) dL_law_594 (by decide +kernel) ?_
  refine v_lv [2, 3, 4, 5, 6] rfl ?_
  refine v_widen (k := 2000 + (n + 1)) (n := 40000 + 6 * (n + 1)) (by show _ ≤ _; dsimp only; omega) (by show _ ≤ _; dsimp only; omega) ?_
  exact kk σ7 σ13 g8 hp6 G18

set_option maxHeartbeats 4000000 in
set_option maxRecDepth 100000 in
theorem lc_noise {p : Program} {l : Launch} {e : Env} {s : State} {m : MethodId} {below : List Frame} {meth : Method} {c : Code} {D : va_G} {A : Nat → Prop} {Q : State → Prop} {zb zL : Nat} {zx : Nat → Int32} {zs : Nat → Nat} (hl0 : l.stackTraces = false) {K : Nat → ClassId} {τx τm : Nat → Option Ty} {dx dm : List Nat} (Zx : Sk τx dx) (Zm : Sk τm dm) {hx hm ho : Nat} {q : Nat → Nat} (tx : τx hx = some (41, 0, 0)) (Y : MS τm hm q) (B : Bx p s m #[.ref zb] c cL_law 7 RL lw_tbl D (tysA K) A) (hz : ZL zb zL zx zs A s s.heap) (z : Int) (n : Nat) (hi : 2 ≤ z ∧ z + 9 ≤ (zL : Int) ∧ (zL : Int) ≤ 4610) (hn : n ≤ 600) (σx σm : Nat → va_E) (g : Nat → Int64) (Gx : Good K τx σx) (Gm : GM K hm q σm) (kk : ∀ (σx σm : Nat → va_E) (g : Nat → Int64), Good K τx σx → GM K hm q σm → V p l e room_1 s m #[.ref zb] below meth c 7 D A Q (2000 + (n + 1), 40000 + 6 * (n + 1)) (wL K dx dm ho σx σm g) [(4, .int (iI z)), (3, .ref ho), (2, .ref hm), (1, .ref hx), (0, .ref zb)] 1455 []) : V p l e room_1 s m #[.ref zb] below meth c 7 D A Q (2000 + n, 40000 + 6 * n) (wL K dx dm ho σx σm g) [(4, .int (iI z)), (3, .ref ho), (2, .ref hm), (1, .ref hx), (0, .ref zb)] 597 [] := by
  refine v_aload_n B dL_law_597 rfl rfl ?_
  refine v_aload_n B dL_law_598 rfl rfl ?_
  refine v_iload B dL_law_599 rfl ?_
  refine v_iconst B (v := iI 1) dL_law_601 rfl ?_
  refine v_iadd B (v := iI (z + 1)) dL_law_602 (iI_add _ _) ?_
  obtain ⟨x1, e2, r3⟩ := iI_any (zx ((z + 1) : Int).toNat)
  refine u_sld B hz (z := (z + 1)) (v := x1) (by omega) e2 dL_law_603 ?_
  refine v_aload_n B dL_law_604 rfl rfl ?_
  refine v_iload B dL_law_605 rfl ?_
  refine v_iconst B (v := iI 2) dL_law_607 rfl ?_
  refine v_iadd B (v := iI (z + 2)) dL_law_608 (iI_add _ _) ?_
  obtain ⟨x4, e5, r6⟩ := iI_any (zx ((z + 2) : Int).toNat)
  refine u_sld B hz (z := (z + 2)) (v := x4) (by omega) e5 dL_law_609 ?_
  refine l_calli B hz Zx (a := hx) (n := 2) (As := [.int (iI x1), .int (iI x4)]) (rest := []) (wo := fd dm σm ++ [(ho, .inl (K 1, 1, .inr (.inl g)))]) (w2 := (fun σ9 => wL K dx dm ho σ9 σm g)) (List.Perm.refl _) (c_Low_noise l D K Zx zb zL zx zs hx x1 x4 tx ⟨by omega, by omega⟩ ⟨by omega, by omega⟩ σx Gx) gl_Low_noise_75 rfl rfl rfl (by decide +kernel) ⟨by decide +kernel, by decide +kernel⟩ tx (cls_Low Gx tx) rfl rfl rfl rfl (Nat.le_of_ble_eq_true rfl) dL_law_610 ⟨by show _ ≤ 601024; dsimp only; omega, by show _ ≤ 7293000; dsimp only; omega⟩ (fun σ9 => List.perm_append_comm) (fun r7 σ8 hp9 => ?_)
  obtain ⟨G13, -, z10, rfl, r12⟩ := hp9
  show V _ _ _ _ _ _ _ _ _ _ _ _ _ _ (2000 + n, 40000 + 6 * n) (wL K dx dm ho σ8 σm g) _ _ [.int (iI z10)]
  refine v_pop B dL_law_613 rfl ?_
  refine v_aload_n B dL_law_614 rfl rfl ?_
  refine v_aload_n B dL_law_615 rfl rfl ?_
  refine v_iload B dL_law_616 rfl ?_
  refine v_iconst B (v := iI 1) dL_law_618 rfl ?_
  refine v_iadd B (v := iI (z + 1)) dL_law_619 (iI_add _ _) ?_
  refine u_sld B hz (z := (z + 1)) (v := x1) (by omega) e2 dL_law_620 ?_
  refine v_aload_n B dL_law_621 rfl rfl ?_
  refine v_iload B dL_law_622 rfl ?_
  refine v_iconst B (v := iI 2) dL_law_624 rfl ?_
  refine v_iadd B (v := iI (z + 2)) dL_law_625 (iI_add _ _) ?_
  refine u_sld B hz (z := (z + 2)) (v := x4) (by omega) e5 dL_law_626 ?_
  refine l_calli B hz Zm (a := hm) (n := 2) (As := [.int (iI x1), .int (iI x4)]) (rest := []) (wo := fd dx σ8 ++ [(ho, .inl (K 1, 1, .inr (.inl g)))]) (w2 := (fun σ9 => wL K dx dm ho σ8 σ9 g)) (pL1 _ _ _) (c_M_noise l D K Zm zb zL zx zs hm q Y x1 x4 ⟨by omega, by omega⟩ ⟨by omega, by omega⟩ σm Gm) gl_M_noise_78 rfl rfl rfl (by decide +kernel) ⟨by decide +kernel, by decide +kernel⟩ Y.o (clsM Gm.t) rfl rfl rfl rfl (Nat.le_of_ble_eq_true rfl) dL_law_627 ⟨by show _ ≤ 601024; dsimp only; omega, by show _ ≤ 7293000; dsimp only; omega⟩ (fun σ9 => pm4 _ _ _) (fun r16 σ17 hp18 => ?_)
  obtain ⟨G22, -, z19, rfl, r21⟩ := hp18
  show V _ _ _ _ _ _ _ _ _ _ _ _ _ _ (2000 + n, 40000 + 6 * n) (wL K dx dm ho σ8 σ17 g) _ _ [.int (iI z19)]
  refine v_pop B dL_law_630 rfl ?_
  refine v_goto B (tgt := 1455) dL_law_631 (by decide +kernel) ?_
  refine v_widen (k := 2000 + (n + 1)) (n := 40000 + 6 * (n + 1)) (by show _ ≤ _; dsimp only; omega) (by show _ ≤ _; dsimp only; omega) ?_
  exact kk σ8 σ17 g G13 G22

set_option maxHeartbeats 4000000 in
set_option maxRecDepth 100000 in
theorem lc_lose {p : Program} {l : Launch} {e : Env} {s : State} {m : MethodId} {below : List Frame} {meth : Method} {c : Code} {D : va_G} {A : Nat → Prop} {Q : State → Prop} {zb zL : Nat} {zx : Nat → Int32} {zs : Nat → Nat} (hl0 : l.stackTraces = false) {K : Nat → ClassId} {τx τm : Nat → Option Ty} {dx dm : List Nat} (Zx : Sk τx dx) (Zm : Sk τm dm) {hx hm ho : Nat} {q : Nat → Nat} (tx : τx hx = some (41, 0, 0)) (Y : MS τm hm q) (B : Bx p s m #[.ref zb] c cL_law 7 RL lw_tbl D (tysA K) A) (hz : ZL zb zL zx zs A s s.heap) (z : Int) (n : Nat) (hi : 2 ≤ z ∧ z + 9 ≤ (zL : Int) ∧ (zL : Int) ≤ 4610) (hn : n ≤ 600) (σx σm : Nat → va_E) (g : Nat → Int64) (Gx : Good K τx σx) (Gm : GM K hm q σm) (kk : ∀ (σx σm : Nat → va_E) (g : Nat → Int64), Good K τx σx → GM K hm q σm → V p l e room_1 s m #[.ref zb] below meth c 7 D A Q (2000 + (n + 1), 40000 + 6 * (n + 1)) (wL K dx dm ho σx σm g) [(4, .int (iI z)), (3, .ref ho), (2, .ref hm), (1, .ref hx), (0, .ref zb)] 1455 []) : V p l e room_1 s m #[.ref zb] below meth c 7 D A Q (2000 + n, 40000 + 6 * n) (wL K dx dm ho σx σm g) [(4, .int (iI z)), (3, .ref ho), (2, .ref hm), (1, .ref hx), (0, .ref zb)] 634 [] := by
  refine v_aload_n B dL_law_634 rfl rfl ?_
  refine v_aload_n B dL_law_635 rfl rfl ?_
  refine v_iload B dL_law_636 rfl ?_
  refine v_iconst B (v := iI 1) dL_law_638 rfl ?_
  refine v_iadd B (v := iI (z + 1)) dL_law_639 (iI_add _ _) ?_
  obtain ⟨x1, e2, r3⟩ := iI_any (zx ((z + 1) : Int).toNat)
  refine u_sld B hz (z := (z + 1)) (v := x1) (by omega) e2 dL_law_640 ?_
  refine v_aload_n B dL_law_641 rfl rfl ?_
  refine v_iload B dL_law_642 rfl ?_
  refine v_iconst B (v := iI 2) dL_law_644 rfl ?_
  refine v_iadd B (v := iI (z + 2)) dL_law_645 (iI_add _ _) ?_
  obtain ⟨x4, e5, r6⟩ := iI_any (zx ((z + 2) : Int).toNat)
  refine u_sld B hz (z := (z + 2)) (v := x4) (by omega) e5 dL_law_646 ?_
  refine l_calli B hz Zx (a := hx) (n := 2) (As := [.int (iI x1), .int (iI x4)]) (rest := []) (wo := fd dm σm ++ [(ho, .inl (K 1, 1, .inr (.inl g)))]) (w2 := (fun σ9 => wL K dx dm ho σ9 σm g)) (List.Perm.refl _) (c_Low_lose l D K Zx zb zL zx zs hx x1 x4 tx ⟨by omega, by omega⟩ ⟨by omega, by omega⟩ σx Gx) gl_Low_lose_79 rfl rfl rfl (by decide +kernel) ⟨by decide +kernel, by decide +kernel⟩ tx (cls_Low Gx tx) rfl rfl rfl rfl (Nat.le_of_ble_eq_true rfl) dL_law_647 ⟨by show _ ≤ 601024; dsimp only; omega, by show _ ≤ 7293000; dsimp only; omega⟩ (fun σ9 => List.perm_append_comm) (fun r7 σ8 hp9 => ?_)
  obtain ⟨G13, -, z10, rfl, r12⟩ := hp9
  show V _ _ _ _ _ _ _ _ _ _ _ _ _ _ (2000 + n, 40000 + 6 * n) (wL K dx dm ho σ8 σm g) _ _ [.int (iI z10)]
  refine v_pop B dL_law_650 rfl ?_
  refine v_aload_n B dL_law_651 rfl rfl ?_
  refine v_aload_n B dL_law_652 rfl rfl ?_
  refine v_iload B dL_law_653 rfl ?_
  refine v_iconst B (v := iI 1) dL_law_655 rfl ?_
  refine v_iadd B (v := iI (z + 1)) dL_law_656 (iI_add _ _) ?_
  refine u_sld B hz (z := (z + 1)) (v := x1) (by omega) e2 dL_law_657 ?_
  refine v_aload_n B dL_law_658 rfl rfl ?_
  refine v_iload B dL_law_659 rfl ?_
  refine v_iconst B (v := iI 2) dL_law_661 rfl ?_
  refine v_iadd B (v := iI (z + 2)) dL_law_662 (iI_add _ _) ?_
  refine u_sld B hz (z := (z + 2)) (v := x4) (by omega) e5 dL_law_663 ?_
  refine l_calli B hz Zm (a := hm) (n := 2) (As := [.int (iI x1), .int (iI x4)]) (rest := []) (wo := fd dx σ8 ++ [(ho, .inl (K 1, 1, .inr (.inl g)))]) (w2 := (fun σ9 => wL K dx dm ho σ8 σ9 g)) (pL1 _ _ _) (c_M_lose l D K Zm zb zL zx zs hm q Y x1 x4 ⟨by omega, by omega⟩ ⟨by omega, by omega⟩ σm Gm) gl_M_lose_82 rfl rfl rfl (by decide +kernel) ⟨by decide +kernel, by decide +kernel⟩ Y.o (clsM Gm.t) rfl rfl rfl rfl (Nat.le_of_ble_eq_true rfl) dL_law_664 ⟨by show _ ≤ 601024; dsimp only; omega, by show _ ≤ 7293000; dsimp only; omega⟩ (fun σ9 => pm4 _ _ _) (fun r16 σ17 hp18 => ?_)
  obtain ⟨G22, -, z19, rfl, r21⟩ := hp18
  show V _ _ _ _ _ _ _ _ _ _ _ _ _ _ (2000 + n, 40000 + 6 * n) (wL K dx dm ho σ8 σ17 g) _ _ [.int (iI z19)]
  refine v_pop B dL_law_667 rfl ?_
  refine v_goto B (tgt := 1455) dL_law_668 (by decide +kernel) ?_
  refine v_widen (k := 2000 + (n + 1)) (n := 40000 + 6 * (n + 1)) (by show _ ≤ _; dsimp only; omega) (by show _ ≤ _; dsimp only; omega) ?_
  exact kk σ8 σ17 g G13 G22

set_option maxHeartbeats 4000000 in
set_option maxRecDepth 100000 in
theorem lc_air {p : Program} {l : Launch} {e : Env} {s : State} {m : MethodId} {below : List Frame} {meth : Method} {c : Code} {D : va_G} {A : Nat → Prop} {Q : State → Prop} {zb zL : Nat} {zx : Nat → Int32} {zs : Nat → Nat} (hl0 : l.stackTraces = false) {K : Nat → ClassId} {τx τm : Nat → Option Ty} {dx dm : List Nat} (Zx : Sk τx dx) (Zm : Sk τm dm) {hx hm ho : Nat} {q : Nat → Nat} (tx : τx hx = some (41, 0, 0)) (Y : MS τm hm q) (B : Bx p s m #[.ref zb] c cL_law 7 RL lw_tbl D (tysA K) A) (hz : ZL zb zL zx zs A s s.heap) (z : Int) (n : Nat) (hi : 2 ≤ z ∧ z + 9 ≤ (zL : Int) ∧ (zL : Int) ≤ 4610) (hn : n ≤ 600) (σx σm : Nat → va_E) (g : Nat → Int64) (Gx : Good K τx σx) (Gm : GM K hm q σm) (kk : ∀ (σx σm : Nat → va_E) (g : Nat → Int64), Good K τx σx → GM K hm q σm → V p l e room_1 s m #[.ref zb] below meth c 7 D A Q (2000 + (n + 1), 40000 + 6 * (n + 1)) (wL K dx dm ho σx σm g) [(4, .int (iI z)), (3, .ref ho), (2, .ref hm), (1, .ref hx), (0, .ref zb)] 1455 []) : V p l e room_1 s m #[.ref zb] below meth c 7 D A Q (2000 + n, 40000 + 6 * n) (wL K dx dm ho σx σm g) [(4, .int (iI z)), (3, .ref ho), (2, .ref hm), (1, .ref hx), (0, .ref zb)] 671 [] := by
  refine v_aload_n B dL_law_671 rfl rfl ?_
  refine v_aload_n B dL_law_672 rfl rfl ?_
  refine v_iload B dL_law_673 rfl ?_
  refine v_iconst B (v := iI 1) dL_law_675 rfl ?_
  refine v_iadd B (v := iI (z + 1)) dL_law_676 (iI_add _ _) ?_
  obtain ⟨x1, e2, r3⟩ := iI_any (zx ((z + 1) : Int).toNat)
  refine u_sld B hz (z := (z + 1)) (v := x1) (by omega) e2 dL_law_677 ?_
  refine v_aload_n B dL_law_678 rfl rfl ?_
  refine v_iload B dL_law_679 rfl ?_
  refine v_iconst B (v := iI 2) dL_law_681 rfl ?_
  refine v_iadd B (v := iI (z + 2)) dL_law_682 (iI_add _ _) ?_
  obtain ⟨x4, e5, r6⟩ := iI_any (zx ((z + 2) : Int).toNat)
  refine u_sld B hz (z := (z + 2)) (v := x4) (by omega) e5 dL_law_683 ?_
  refine v_aload_n B dL_law_684 rfl rfl ?_
  refine v_perm (pL3 _ _ _) ?_
  refine v_callSiW B hz (n := 4) (As := [.ref hx, .int (iI x1), .int (iI x4), .ref ho]) (rest := []) (wc := fd dx σx ++ [(ho, .inl (K 1, 1, .inr (.inl g)))]) (wr := fd dm σm) (lk_air l hl0 D K Zx zb zL zx zs hx ho x1 x4 tx ⟨by omega, by omega⟩ ⟨by omega, by omega⟩ σx Gx g) gl_lk_air_83 rfl rfl rfl (by decide +kernel) ⟨by decide +kernel, by decide +kernel⟩ (sp_app _ _) rfl rfl (Nat.le_of_ble_eq_true rfl) dL_law_685 ⟨by show _ ≤ 601024; dsimp only; omega, by show _ ≤ 7293000; dsimp only; omega⟩ (fun r7 u8 hp9 => ?_)
  obtain ⟨σ10, g11⟩ := u8
  obtain ⟨z12, rfl, r14⟩ : ∃ z : Int, r7 = iI z ∧ InR z := iI_any r7
  refine v_perm (pL4 _ _ _) ?_
  show V _ _ _ _ _ _ _ _ _ _ _ _ _ _ (2000 + n + 1, 40000 + 6 * n + 6) (wL K dx dm ho σ10 σm g11) _ _ [.int (iI z12)]
  refine v_istore B (lv' := [(5, .int (iI z12)), (4, .int (iI z)), (3, .ref ho), (2, .ref hm), (1, .ref hx), (0, .ref zb)]) dL_law_688 (by decide +kernel) rfl ?_
  refine v_aload_n B dL_law_690 rfl rfl ?_
  refine v_aload_n B dL_law_691 rfl rfl ?_
  refine v_iload B dL_law_692 rfl ?_
  refine v_iconst B (v := iI 1) dL_law_694 rfl ?_
  refine v_iadd B (v := iI (z + 1)) dL_law_695 (iI_add _ _) ?_
  refine u_sld B hz (z := (z + 1)) (v := x1) (by omega) e2 dL_law_696 ?_
  refine v_aload_n B dL_law_697 rfl rfl ?_
  refine v_iload B dL_law_698 rfl ?_
  refine v_iconst B (v := iI 2) dL_law_700 rfl ?_
  refine v_iadd B (v := iI (z + 2)) dL_law_701 (iI_add _ _) ?_
  refine u_sld B hz (z := (z + 2)) (v := x4) (by omega) e5 dL_law_702 ?_
  refine l_calli B hz Zm (a := hm) (n := 2) (As := [.int (iI x1), .int (iI x4)]) (rest := []) (wo := fd dx σ10 ++ [(ho, .inl (K 1, 1, .inr (.inl g11)))]) (w2 := (fun σ9 => wL K dx dm ho σ10 σ9 g11)) (pL1 _ _ _) (c_M_air l D K Zm zb zL zx zs hm q Y x1 x4 ⟨by omega, by omega⟩ ⟨by omega, by omega⟩ σm Gm) gl_M_air_86 rfl rfl rfl (by decide +kernel) ⟨by decide +kernel, by decide +kernel⟩ Y.o (clsM Gm.t) rfl rfl rfl rfl (Nat.le_of_ble_eq_true rfl) dL_law_703 ⟨by show _ ≤ 601024; dsimp only; omega, by show _ ≤ 7293000; dsimp only; omega⟩ (fun σ9 => pm4 _ _ _) (fun r15 σ16 hp17 => ?_)
  obtain ⟨G21, -, z18, rfl, r20⟩ := hp17
  show V _ _ _ _ _ _ _ _ _ _ _ _ _ _ (2000 + n + 1, 40000 + 6 * n + 6) (wL K dx dm ho σ10 σ16 g11) _ _ [.int (iI z18)]
  refine v_istore B (lv' := [(6, .int (iI z18)), (5, .int (iI z12)), (4, .int (iI z)), (3, .ref ho), (2, .ref hm), (1, .ref hx), (0, .ref zb)]) dL_law_706 (by decide +kernel) rfl ?_
  refine v_goto B (tgt := 1455) dL_law_708 (by decide +kernel) ?_
  refine v_lv [2, 3, 4, 5, 6] rfl ?_
  refine v_widen (k := 2000 + (n + 1)) (n := 40000 + 6 * (n + 1)) (by show _ ≤ _; dsimp only; omega) (by show _ ≤ _; dsimp only; omega) ?_
  exact kk σ10 σ16 g11 hp9 G21

set_option maxHeartbeats 4000000 in
set_option maxRecDepth 100000 in
theorem lc_device {p : Program} {l : Launch} {e : Env} {s : State} {m : MethodId} {below : List Frame} {meth : Method} {c : Code} {D : va_G} {A : Nat → Prop} {Q : State → Prop} {zb zL : Nat} {zx : Nat → Int32} {zs : Nat → Nat} (hl0 : l.stackTraces = false) {K : Nat → ClassId} {τx τm : Nat → Option Ty} {dx dm : List Nat} (Zx : Sk τx dx) (Zm : Sk τm dm) {hx hm ho : Nat} {q : Nat → Nat} (tx : τx hx = some (41, 0, 0)) (Y : MS τm hm q) (B : Bx p s m #[.ref zb] c cL_law 7 RL lw_tbl D (tysA K) A) (hz : ZL zb zL zx zs A s s.heap) (z : Int) (n : Nat) (hi : 2 ≤ z ∧ z + 9 ≤ (zL : Int) ∧ (zL : Int) ≤ 4610) (hn : n ≤ 600) (σx σm : Nat → va_E) (g : Nat → Int64) (Gx : Good K τx σx) (Gm : GM K hm q σm) (kk : ∀ (σx σm : Nat → va_E) (g : Nat → Int64), Good K τx σx → GM K hm q σm → V p l e room_1 s m #[.ref zb] below meth c 7 D A Q (2000 + (n + 1), 40000 + 6 * (n + 1)) (wL K dx dm ho σx σm g) [(4, .int (iI z)), (3, .ref ho), (2, .ref hm), (1, .ref hx), (0, .ref zb)] 1455 []) : V p l e room_1 s m #[.ref zb] below meth c 7 D A Q (2000 + n, 40000 + 6 * n) (wL K dx dm ho σx σm g) [(4, .int (iI z)), (3, .ref ho), (2, .ref hm), (1, .ref hx), (0, .ref zb)] 711 [] := by
  refine v_aload_n B dL_law_711 rfl rfl ?_
  refine v_aload_n B dL_law_712 rfl rfl ?_
  refine v_iload B dL_law_713 rfl ?_
  refine v_iconst B (v := iI 1) dL_law_715 rfl ?_
  refine v_iadd B (v := iI (z + 1)) dL_law_716 (iI_add _ _) ?_
  obtain ⟨x1, e2, r3⟩ := iI_any (zx ((z + 1) : Int).toNat)
  refine u_sld B hz (z := (z + 1)) (v := x1) (by omega) e2 dL_law_717 ?_
  refine v_aload_n B dL_law_718 rfl rfl ?_
  refine v_iload B dL_law_719 rfl ?_
  refine v_iconst B (v := iI 2) dL_law_721 rfl ?_
  refine v_iadd B (v := iI (z + 2)) dL_law_722 (iI_add _ _) ?_
  obtain ⟨x4, e5, r6⟩ := iI_any (zx ((z + 2) : Int).toNat)
  refine u_sld B hz (z := (z + 2)) (v := x4) (by omega) e5 dL_law_723 ?_
  refine l_calli B hz Zx (a := hx) (n := 2) (As := [.int (iI x1), .int (iI x4)]) (rest := []) (wo := fd dm σm ++ [(ho, .inl (K 1, 1, .inr (.inl g)))]) (w2 := (fun σ9 => wL K dx dm ho σ9 σm g)) (List.Perm.refl _) (c_Low_device l D K Zx zb zL zx zs hx x1 x4 tx ⟨by omega, by omega⟩ ⟨by omega, by omega⟩ σx Gx) gl_Low_device_87 rfl rfl rfl (by decide +kernel) ⟨by decide +kernel, by decide +kernel⟩ tx (cls_Low Gx tx) rfl rfl rfl rfl (Nat.le_of_ble_eq_true rfl) dL_law_724 ⟨by show _ ≤ 601024; dsimp only; omega, by show _ ≤ 7293000; dsimp only; omega⟩ (fun σ9 => List.perm_append_comm) (fun r7 σ8 hp9 => ?_)
  obtain ⟨rfl, z10, rfl, r12⟩ := hp9
  show V _ _ _ _ _ _ _ _ _ _ _ _ _ _ (2000 + n, 40000 + 6 * n) (wL K dx dm ho σx σm g) _ _ [.int (iI z10)]
  refine v_pop B dL_law_727 rfl ?_
  refine v_aload_n B dL_law_728 rfl rfl ?_
  refine v_aload_n B dL_law_729 rfl rfl ?_
  refine v_iload B dL_law_730 rfl ?_
  refine v_iconst B (v := iI 1) dL_law_732 rfl ?_
  refine v_iadd B (v := iI (z + 1)) dL_law_733 (iI_add _ _) ?_
  refine u_sld B hz (z := (z + 1)) (v := x1) (by omega) e2 dL_law_734 ?_
  refine v_aload_n B dL_law_735 rfl rfl ?_
  refine v_iload B dL_law_736 rfl ?_
  refine v_iconst B (v := iI 2) dL_law_738 rfl ?_
  refine v_iadd B (v := iI (z + 2)) dL_law_739 (iI_add _ _) ?_
  refine u_sld B hz (z := (z + 2)) (v := x4) (by omega) e5 dL_law_740 ?_
  refine l_calli B hz Zm (a := hm) (n := 2) (As := [.int (iI x1), .int (iI x4)]) (rest := []) (wo := fd dx σx ++ [(ho, .inl (K 1, 1, .inr (.inl g)))]) (w2 := (fun σ9 => wL K dx dm ho σx σ9 g)) (pL1 _ _ _) (c_M_device l D K Zm zb zL zx zs hm q Y x1 x4 ⟨by omega, by omega⟩ ⟨by omega, by omega⟩ σm Gm) gl_M_device_90 rfl rfl rfl (by decide +kernel) ⟨by decide +kernel, by decide +kernel⟩ Y.o (clsM Gm.t) rfl rfl rfl rfl (Nat.le_of_ble_eq_true rfl) dL_law_741 ⟨by show _ ≤ 601024; dsimp only; omega, by show _ ≤ 7293000; dsimp only; omega⟩ (fun σ9 => pm4 _ _ _) (fun r16 σ17 hp18 => ?_)
  obtain ⟨G22, -, z19, rfl, r21⟩ := hp18
  show V _ _ _ _ _ _ _ _ _ _ _ _ _ _ (2000 + n, 40000 + 6 * n) (wL K dx dm ho σx σ17 g) _ _ [.int (iI z19)]
  refine v_pop B dL_law_744 rfl ?_
  refine v_goto B (tgt := 1455) dL_law_745 (by decide +kernel) ?_
  refine v_widen (k := 2000 + (n + 1)) (n := 40000 + 6 * (n + 1)) (by show _ ≤ _; dsimp only; omega) (by show _ ≤ _; dsimp only; omega) ?_
  exact kk σx σ17 g Gx G22

set_option maxHeartbeats 4000000 in
set_option maxRecDepth 100000 in
theorem lc_number {p : Program} {l : Launch} {e : Env} {s : State} {m : MethodId} {below : List Frame} {meth : Method} {c : Code} {D : va_G} {A : Nat → Prop} {Q : State → Prop} {zb zL : Nat} {zx : Nat → Int32} {zs : Nat → Nat} (hl0 : l.stackTraces = false) {K : Nat → ClassId} {τx τm : Nat → Option Ty} {dx dm : List Nat} (Zx : Sk τx dx) (Zm : Sk τm dm) {hx hm ho : Nat} {q : Nat → Nat} (tx : τx hx = some (41, 0, 0)) (Y : MS τm hm q) (B : Bx p s m #[.ref zb] c cL_law 7 RL lw_tbl D (tysA K) A) (hz : ZL zb zL zx zs A s s.heap) (z : Int) (n : Nat) (hi : 2 ≤ z ∧ z + 9 ≤ (zL : Int) ∧ (zL : Int) ≤ 4610) (hn : n ≤ 600) (σx σm : Nat → va_E) (g : Nat → Int64) (Gx : Good K τx σx) (Gm : GM K hm q σm) (kk : ∀ (σx σm : Nat → va_E) (g : Nat → Int64), Good K τx σx → GM K hm q σm → V p l e room_1 s m #[.ref zb] below meth c 7 D A Q (2000 + (n + 1), 40000 + 6 * (n + 1)) (wL K dx dm ho σx σm g) [(4, .int (iI z)), (3, .ref ho), (2, .ref hm), (1, .ref hx), (0, .ref zb)] 1455 []) : V p l e room_1 s m #[.ref zb] below meth c 7 D A Q (2000 + n, 40000 + 6 * n) (wL K dx dm ho σx σm g) [(4, .int (iI z)), (3, .ref ho), (2, .ref hm), (1, .ref hx), (0, .ref zb)] 748 [] := by
  refine v_aload_n B dL_law_748 rfl rfl ?_
  refine v_aload_n B dL_law_749 rfl rfl ?_
  refine v_iload B dL_law_750 rfl ?_
  refine v_iconst B (v := iI 1) dL_law_752 rfl ?_
  refine v_iadd B (v := iI (z + 1)) dL_law_753 (iI_add _ _) ?_
  obtain ⟨x1, e2, r3⟩ := iI_any (zx ((z + 1) : Int).toNat)
  refine u_sld B hz (z := (z + 1)) (v := x1) (by omega) e2 dL_law_754 ?_
  refine v_aload_n B dL_law_755 rfl rfl ?_
  refine v_iload B dL_law_756 rfl ?_
  refine v_iconst B (v := iI 2) dL_law_758 rfl ?_
  refine v_iadd B (v := iI (z + 2)) dL_law_759 (iI_add _ _) ?_
  obtain ⟨x4, e5, r6⟩ := iI_any (zx ((z + 2) : Int).toNat)
  refine u_sld B hz (z := (z + 2)) (v := x4) (by omega) e5 dL_law_760 ?_
  refine l_calll B hz Zx (a := hx) (n := 2) (As := [.int (iI x1), .int (iI x4)]) (rest := []) (wo := fd dm σm ++ [(ho, .inl (K 1, 1, .inr (.inl g)))]) (w2 := (fun σ9 => wL K dx dm ho σ9 σm g)) (List.Perm.refl _) (c_Low_number l D K Zx zb zL zx zs hx x1 x4 tx ⟨by omega, by omega⟩ ⟨by omega, by omega⟩ σx Gx) gl_Low_number_91 rfl rfl rfl (by decide +kernel) ⟨by decide +kernel, by decide +kernel⟩ tx (cls_Low Gx tx) rfl rfl rfl rfl (Nat.le_of_ble_eq_true rfl) dL_law_761 ⟨by show _ ≤ 601024; dsimp only; omega, by show _ ≤ 7293000; dsimp only; omega⟩ (fun σ9 => List.perm_append_comm) (fun r7 σ8 hp9 => ?_)
  obtain ⟨rfl, z10, rfl, r12⟩ := hp9
  show V _ _ _ _ _ _ _ _ _ _ _ _ _ _ (2000 + n, 40000 + 6 * n) (wL K dx dm ho σx σm g) _ _ [.long (lI z10)]
  refine v_pop2 B dL_law_764 rfl ?_
  refine v_aload_n B dL_law_765 rfl rfl ?_
  refine v_aload_n B dL_law_766 rfl rfl ?_
  refine v_iload B dL_law_767 rfl ?_
  refine v_iconst B (v := iI 1) dL_law_769 rfl ?_
  refine v_iadd B (v := iI (z + 1)) dL_law_770 (iI_add _ _) ?_
  refine u_sld B hz (z := (z + 1)) (v := x1) (by omega) e2 dL_law_771 ?_
  refine v_aload_n B dL_law_772 rfl rfl ?_
  refine v_iload B dL_law_773 rfl ?_
  refine v_iconst B (v := iI 2) dL_law_775 rfl ?_
  refine v_iadd B (v := iI (z + 2)) dL_law_776 (iI_add _ _) ?_
  refine u_sld B hz (z := (z + 2)) (v := x4) (by omega) e5 dL_law_777 ?_
  refine l_calll B hz Zm (a := hm) (n := 2) (As := [.int (iI x1), .int (iI x4)]) (rest := []) (wo := fd dx σx ++ [(ho, .inl (K 1, 1, .inr (.inl g)))]) (w2 := (fun σ9 => wL K dx dm ho σx σ9 g)) (pL1 _ _ _) (c_M_number l D K Zm zb zL zx zs hm q Y x1 x4 ⟨by omega, by omega⟩ ⟨by omega, by omega⟩ σm Gm) gl_M_number_95 rfl rfl rfl (by decide +kernel) ⟨by decide +kernel, by decide +kernel⟩ Y.o (clsM Gm.t) rfl rfl rfl rfl (Nat.le_of_ble_eq_true rfl) dL_law_778 ⟨by show _ ≤ 601024; dsimp only; omega, by show _ ≤ 7293000; dsimp only; omega⟩ (fun σ9 => pm4 _ _ _) (fun r16 σ17 hp18 => ?_)
  obtain ⟨G22, -, z19, rfl, r21⟩ := hp18
  show V _ _ _ _ _ _ _ _ _ _ _ _ _ _ (2000 + n, 40000 + 6 * n) (wL K dx dm ho σx σ17 g) _ _ [.long (lI z19)]
  refine v_pop2 B dL_law_781 rfl ?_
  refine v_goto B (tgt := 1455) dL_law_782 (by decide +kernel) ?_
  refine v_widen (k := 2000 + (n + 1)) (n := 40000 + 6 * (n + 1)) (by show _ ≤ _; dsimp only; omega) (by show _ ≤ _; dsimp only; omega) ?_
  exact kk σx σ17 g Gx G22

set_option maxHeartbeats 4000000 in
set_option maxRecDepth 100000 in
theorem lc_byteOf {p : Program} {l : Launch} {e : Env} {s : State} {m : MethodId} {below : List Frame} {meth : Method} {c : Code} {D : va_G} {A : Nat → Prop} {Q : State → Prop} {zb zL : Nat} {zx : Nat → Int32} {zs : Nat → Nat} (hl0 : l.stackTraces = false) {K : Nat → ClassId} {τx τm : Nat → Option Ty} {dx dm : List Nat} (Zx : Sk τx dx) (Zm : Sk τm dm) {hx hm ho : Nat} {q : Nat → Nat} (tx : τx hx = some (41, 0, 0)) (Y : MS τm hm q) (B : Bx p s m #[.ref zb] c cL_law 7 RL lw_tbl D (tysA K) A) (hz : ZL zb zL zx zs A s s.heap) (z : Int) (n : Nat) (hi : 2 ≤ z ∧ z + 9 ≤ (zL : Int) ∧ (zL : Int) ≤ 4610) (hn : n ≤ 600) (σx σm : Nat → va_E) (g : Nat → Int64) (Gx : Good K τx σx) (Gm : GM K hm q σm) (kk : ∀ (σx σm : Nat → va_E) (g : Nat → Int64), Good K τx σx → GM K hm q σm → V p l e room_1 s m #[.ref zb] below meth c 7 D A Q (2000 + (n + 1), 40000 + 6 * (n + 1)) (wL K dx dm ho σx σm g) [(4, .int (iI z)), (3, .ref ho), (2, .ref hm), (1, .ref hx), (0, .ref zb)] 1455 []) : V p l e room_1 s m #[.ref zb] below meth c 7 D A Q (2000 + n, 40000 + 6 * n) (wL K dx dm ho σx σm g) [(4, .int (iI z)), (3, .ref ho), (2, .ref hm), (1, .ref hx), (0, .ref zb)] 785 [] := by
  refine v_aload_n B dL_law_785 rfl rfl ?_
  refine v_aload_n B dL_law_786 rfl rfl ?_
  refine v_iload B dL_law_787 rfl ?_
  refine v_iconst B (v := iI 1) dL_law_789 rfl ?_
  refine v_iadd B (v := iI (z + 1)) dL_law_790 (iI_add _ _) ?_
  obtain ⟨x1, e2, r3⟩ := iI_any (zx ((z + 1) : Int).toNat)
  refine u_sld B hz (z := (z + 1)) (v := x1) (by omega) e2 dL_law_791 ?_
  refine v_aload_n B dL_law_792 rfl rfl ?_
  refine v_iload B dL_law_793 rfl ?_
  refine v_iconst B (v := iI 2) dL_law_795 rfl ?_
  refine v_iadd B (v := iI (z + 2)) dL_law_796 (iI_add _ _) ?_
  obtain ⟨x4, e5, r6⟩ := iI_any (zx ((z + 2) : Int).toNat)
  refine u_sld B hz (z := (z + 2)) (v := x4) (by omega) e5 dL_law_797 ?_
  refine v_aload_n B dL_law_798 rfl rfl ?_
  refine v_iload B dL_law_799 rfl ?_
  refine v_iconst B (v := iI 3) dL_law_801 rfl ?_
  refine v_iadd B (v := iI (z + 3)) dL_law_802 (iI_add _ _) ?_
  obtain ⟨x7, e8, r9⟩ := iI_any (zx ((z + 3) : Int).toNat)
  refine u_sld B hz (z := (z + 3)) (v := x7) (by omega) e8 dL_law_803 ?_
  refine l_calli B hz Zx (a := hx) (n := 3) (As := [.int (iI x1), .int (iI x4), .int (iI x7)]) (rest := []) (wo := fd dm σm ++ [(ho, .inl (K 1, 1, .inr (.inl g)))]) (w2 := (fun σ9 => wL K dx dm ho σ9 σm g)) (List.Perm.refl _) (c_Low_byteOf l D K Zx zb zL zx zs hx x1 x4 x7 tx ⟨by omega, by omega⟩ ⟨by omega, by omega⟩ ⟨by omega, by omega⟩ σx Gx) gl_Low_byteOf_96 rfl rfl rfl (by decide +kernel) ⟨by decide +kernel, by decide +kernel⟩ tx (cls_Low Gx tx) rfl rfl rfl rfl (Nat.le_of_ble_eq_true rfl) dL_law_804 ⟨by show _ ≤ 601024; dsimp only; omega, by show _ ≤ 7293000; dsimp only; omega⟩ (fun σ9 => List.perm_append_comm) (fun r10 σ11 hp12 => ?_)
  obtain ⟨rfl, z13, rfl, r15⟩ := hp12
  show V _ _ _ _ _ _ _ _ _ _ _ _ _ _ (2000 + n, 40000 + 6 * n) (wL K dx dm ho σx σm g) _ _ [.int (iI z13)]
  refine v_pop B dL_law_807 rfl ?_
  refine v_aload_n B dL_law_808 rfl rfl ?_
  refine v_aload_n B dL_law_809 rfl rfl ?_
  refine v_iload B dL_law_810 rfl ?_
  refine v_iconst B (v := iI 1) dL_law_812 rfl ?_
  refine v_iadd B (v := iI (z + 1)) dL_law_813 (iI_add _ _) ?_
  refine u_sld B hz (z := (z + 1)) (v := x1) (by omega) e2 dL_law_814 ?_
  refine v_aload_n B dL_law_815 rfl rfl ?_
  refine v_iload B dL_law_816 rfl ?_
  refine v_iconst B (v := iI 2) dL_law_818 rfl ?_
  refine v_iadd B (v := iI (z + 2)) dL_law_819 (iI_add _ _) ?_
  refine u_sld B hz (z := (z + 2)) (v := x4) (by omega) e5 dL_law_820 ?_
  refine v_aload_n B dL_law_821 rfl rfl ?_
  refine v_iload B dL_law_822 rfl ?_
  refine v_iconst B (v := iI 3) dL_law_824 rfl ?_
  refine v_iadd B (v := iI (z + 3)) dL_law_825 (iI_add _ _) ?_
  refine u_sld B hz (z := (z + 3)) (v := x7) (by omega) e8 dL_law_826 ?_
  refine l_calli B hz Zm (a := hm) (n := 3) (As := [.int (iI x1), .int (iI x4), .int (iI x7)]) (rest := []) (wo := fd dx σx ++ [(ho, .inl (K 1, 1, .inr (.inl g)))]) (w2 := (fun σ9 => wL K dx dm ho σx σ9 g)) (pL1 _ _ _) (c_M_byteOf l D K Zm zb zL zx zs hm q Y x1 x4 x7 ⟨by omega, by omega⟩ ⟨by omega, by omega⟩ ⟨by omega, by omega⟩ σm Gm) gl_M_byteOf_99 rfl rfl rfl (by decide +kernel) ⟨by decide +kernel, by decide +kernel⟩ Y.o (clsM Gm.t) rfl rfl rfl rfl (Nat.le_of_ble_eq_true rfl) dL_law_827 ⟨by show _ ≤ 601024; dsimp only; omega, by show _ ≤ 7293000; dsimp only; omega⟩ (fun σ9 => pm4 _ _ _) (fun r19 σ20 hp21 => ?_)
  obtain ⟨G25, -, z22, rfl, r24⟩ := hp21
  show V _ _ _ _ _ _ _ _ _ _ _ _ _ _ (2000 + n, 40000 + 6 * n) (wL K dx dm ho σx σ20 g) _ _ [.int (iI z22)]
  refine v_pop B dL_law_830 rfl ?_
  refine v_goto B (tgt := 1455) dL_law_831 (by decide +kernel) ?_
  refine v_widen (k := 2000 + (n + 1)) (n := 40000 + 6 * (n + 1)) (by show _ ≤ _; dsimp only; omega) (by show _ ≤ _; dsimp only; omega) ?_
  exact kk σx σ20 g Gx G25

