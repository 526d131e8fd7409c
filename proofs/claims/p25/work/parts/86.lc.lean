set_option maxHeartbeats 4000000 in
set_option maxRecDepth 100000 in
theorem lc_control {p : Program} {l : Launch} {e : Env} {s : State} {m : MethodId} {below : List Frame} {meth : Method} {c : Code} {D : va_G} {A : Nat → Prop} {Q : State → Prop} {zb zL : Nat} {zx : Nat → Int32} {zs : Nat → Nat} (hl0 : l.stackTraces = false) {K : Nat → ClassId} {τx τm : Nat → Option Ty} {dx dm : List Nat} (Zx : Sk τx dx) (Zm : Sk τm dm) {hx hm ho : Nat} {q : Nat → Nat} (tx : τx hx = some (41, 0, 0)) (Y : MS τm hm q) (B : Bx p s m #[.ref zb] c cL_law 7 RL lw_tbl D (tysA K) A) (hz : ZL zb zL zx zs A s s.heap) (z : Int) (n : Nat) (hi : 2 ≤ z ∧ z + 9 ≤ (zL : Int) ∧ (zL : Int) ≤ 4610) (hn : n ≤ 600) (σx σm : Nat → va_E) (g : Nat → Int64) (Gx : Good K τx σx) (Gm : GM K hm q σm) (kk : ∀ (σx σm : Nat → va_E) (g : Nat → Int64), Good K τx σx → GM K hm q σm → V p l e room_1 s m #[.ref zb] below meth c 7 D A Q (2000 + (n + 1), 40000 + 6 * (n + 1)) (wL K dx dm ho σx σm g) [(4, .int (iI z)), (3, .ref ho), (2, .ref hm), (1, .ref hx), (0, .ref zb)] 1455 []) : V p l e room_1 s m #[.ref zb] below meth c 7 D A Q (2000 + n, 40000 + 6 * n) (wL K dx dm ho σx σm g) [(4, .int (iI z)), (3, .ref ho), (2, .ref hm), (1, .ref hx), (0, .ref zb)] 834 [] := by
  refine v_aload_n B dL_law_834 rfl rfl ?_
  refine v_aload_n B dL_law_835 rfl rfl ?_
  refine v_iload B dL_law_836 rfl ?_
  refine v_iconst B (v := iI 1) dL_law_838 rfl ?_
  refine v_iadd B (v := iI (z + 1)) dL_law_839 (iI_add _ _) ?_
  obtain ⟨x1, e2, r3⟩ := iI_any (zx ((z + 1) : Int).toNat)
  refine u_sld B hz (z := (z + 1)) (v := x1) (by omega) e2 dL_law_840 ?_
  refine v_aload_n B dL_law_841 rfl rfl ?_
  refine v_iload B dL_law_842 rfl ?_
  refine v_iconst B (v := iI 2) dL_law_844 rfl ?_
  refine v_iadd B (v := iI (z + 2)) dL_law_845 (iI_add _ _) ?_
  obtain ⟨x4, e5, r6⟩ := iI_any (zx ((z + 2) : Int).toNat)
  refine u_sld B hz (z := (z + 2)) (v := x4) (by omega) e5 dL_law_846 ?_
  refine l_calli B hz Zx (a := hx) (n := 2) (As := [.int (iI x1), .int (iI x4)]) (rest := []) (wo := fd dm σm ++ [(ho, .inl (K 1, 1, .inr (.inl g)))]) (w2 := (fun σ9 => wL K dx dm ho σ9 σm g)) (List.Perm.refl _) (c_Low_control l D K Zx zb zL zx zs hx x1 x4 tx ⟨by omega, by omega⟩ ⟨by omega, by omega⟩ σx Gx) gl_Low_control_100 rfl rfl rfl (by decide +kernel) ⟨by decide +kernel, by decide +kernel⟩ tx (cls_Low Gx tx) rfl rfl rfl rfl (Nat.le_of_ble_eq_true rfl) dL_law_847 ⟨by show _ ≤ 601024; dsimp only; omega, by show _ ≤ 7293000; dsimp only; omega⟩ (fun σ9 => List.perm_append_comm) (fun r7 σ8 hp9 => ?_)
  obtain ⟨G13, -, z10, rfl, r12⟩ := hp9
  show V _ _ _ _ _ _ _ _ _ _ _ _ _ _ (2000 + n, 40000 + 6 * n) (wL K dx dm ho σ8 σm g) _ _ [.int (iI z10)]
  refine v_pop B dL_law_850 rfl ?_
  refine v_aload_n B dL_law_851 rfl rfl ?_
  refine v_aload_n B dL_law_852 rfl rfl ?_
  refine v_iload B dL_law_853 rfl ?_
  refine v_iconst B (v := iI 1) dL_law_855 rfl ?_
  refine v_iadd B (v := iI (z + 1)) dL_law_856 (iI_add _ _) ?_
  refine u_sld B hz (z := (z + 1)) (v := x1) (by omega) e2 dL_law_857 ?_
  refine v_aload_n B dL_law_858 rfl rfl ?_
  refine v_iload B dL_law_859 rfl ?_
  refine v_iconst B (v := iI 2) dL_law_861 rfl ?_
  refine v_iadd B (v := iI (z + 2)) dL_law_862 (iI_add _ _) ?_
  refine u_sld B hz (z := (z + 2)) (v := x4) (by omega) e5 dL_law_863 ?_
  refine l_calli B hz Zm (a := hm) (n := 2) (As := [.int (iI x1), .int (iI x4)]) (rest := []) (wo := fd dx σ8 ++ [(ho, .inl (K 1, 1, .inr (.inl g)))]) (w2 := (fun σ9 => wL K dx dm ho σ8 σ9 g)) (pL1 _ _ _) (c_M_control l D K Zm zb zL zx zs hm q Y x1 x4 ⟨by omega, by omega⟩ ⟨by omega, by omega⟩ σm Gm) gl_M_control_103 rfl rfl rfl (by decide +kernel) ⟨by decide +kernel, by decide +kernel⟩ Y.o (clsM Gm.t) rfl rfl rfl rfl (Nat.le_of_ble_eq_true rfl) dL_law_864 ⟨by show _ ≤ 601024; dsimp only; omega, by show _ ≤ 7293000; dsimp only; omega⟩ (fun σ9 => pm4 _ _ _) (fun r16 σ17 hp18 => ?_)
  obtain ⟨G22, -, z19, rfl, r21⟩ := hp18
  show V _ _ _ _ _ _ _ _ _ _ _ _ _ _ (2000 + n, 40000 + 6 * n) (wL K dx dm ho σ8 σ17 g) _ _ [.int (iI z19)]
  refine v_pop B dL_law_867 rfl ?_
  refine v_goto B (tgt := 1455) dL_law_868 (by decide +kernel) ?_
  refine v_widen (k := 2000 + (n + 1)) (n := 40000 + 6 * (n + 1)) (by show _ ≤ _; dsimp only; omega) (by show _ ≤ _; dsimp only; omega) ?_
  exact kk σ8 σ17 g G13 G22

set_option maxHeartbeats 4000000 in
set_option maxRecDepth 100000 in
theorem lc_map {p : Program} {l : Launch} {e : Env} {s : State} {m : MethodId} {below : List Frame} {meth : Method} {c : Code} {D : va_G} {A : Nat → Prop} {Q : State → Prop} {zb zL : Nat} {zx : Nat → Int32} {zs : Nat → Nat} (hl0 : l.stackTraces = false) {K : Nat → ClassId} {τx τm : Nat → Option Ty} {dx dm : List Nat} (Zx : Sk τx dx) (Zm : Sk τm dm) {hx hm ho : Nat} {q : Nat → Nat} (tx : τx hx = some (41, 0, 0)) (Y : MS τm hm q) (B : Bx p s m #[.ref zb] c cL_law 7 RL lw_tbl D (tysA K) A) (hz : ZL zb zL zx zs A s s.heap) (z : Int) (n : Nat) (hi : 2 ≤ z ∧ z + 9 ≤ (zL : Int) ∧ (zL : Int) ≤ 4610) (hn : n ≤ 600) (σx σm : Nat → va_E) (g : Nat → Int64) (Gx : Good K τx σx) (Gm : GM K hm q σm) (kk : ∀ (σx σm : Nat → va_E) (g : Nat → Int64), Good K τx σx → GM K hm q σm → V p l e room_1 s m #[.ref zb] below meth c 7 D A Q (2000 + (n + 1), 40000 + 6 * (n + 1)) (wL K dx dm ho σx σm g) [(4, .int (iI z)), (3, .ref ho), (2, .ref hm), (1, .ref hx), (0, .ref zb)] 1455 []) : V p l e room_1 s m #[.ref zb] below meth c 7 D A Q (2000 + n, 40000 + 6 * n) (wL K dx dm ho σx σm g) [(4, .int (iI z)), (3, .ref ho), (2, .ref hm), (1, .ref hx), (0, .ref zb)] 871 [] := by
  refine v_aload_n B dL_law_871 rfl rfl ?_
  refine v_aload_n B dL_law_872 rfl rfl ?_
  refine v_iload B dL_law_873 rfl ?_
  refine v_iconst B (v := iI 1) dL_law_875 rfl ?_
  refine v_iadd B (v := iI (z + 1)) dL_law_876 (iI_add _ _) ?_
  obtain ⟨x1, e2, r3⟩ := iI_any (zx ((z + 1) : Int).toNat)
  refine u_sld B hz (z := (z + 1)) (v := x1) (by omega) e2 dL_law_877 ?_
  refine v_aload_n B dL_law_878 rfl rfl ?_
  refine v_iload B dL_law_879 rfl ?_
  refine v_iconst B (v := iI 2) dL_law_881 rfl ?_
  refine v_iadd B (v := iI (z + 2)) dL_law_882 (iI_add _ _) ?_
  obtain ⟨x4, e5, r6⟩ := iI_any (zx ((z + 2) : Int).toNat)
  refine u_sld B hz (z := (z + 2)) (v := x4) (by omega) e5 dL_law_883 ?_
  refine v_i2l B (v := lI x4) dL_law_884 (lI_i (by omega)) ?_
  refine v_bipush B (v := iI 32) dL_law_885 (by decide +kernel) ?_
  obtain ⟨y7, e8, r9⟩ := lI_any (lI x4 <<< ((iI 32).toInt64 &&& 63))
  refine v_lshl B (v := lI y7) dL_law_887 e8 ?_
  refine v_aload_n B dL_law_888 rfl rfl ?_
  refine v_iload B dL_law_889 rfl ?_
  refine v_iconst B (v := iI 3) dL_law_891 rfl ?_
  refine v_iadd B (v := iI (z + 3)) dL_law_892 (iI_add _ _) ?_
  obtain ⟨x10, e11, r12⟩ := iI_any (zx ((z + 3) : Int).toNat)
  refine u_sld B hz (z := (z + 3)) (v := x10) (by omega) e11 dL_law_893 ?_
  refine v_i2l B (v := lI x10) dL_law_894 (lI_i (by omega)) ?_
  refine v_ldc2 B (v := lI 4294967295) (u_cl tw_96 (by decide +kernel)) dL_law_895 ?_
  obtain ⟨y13, e14, r15⟩ := lI_any (lI x10 &&& lI 4294967295)
  refine v_land B (v := lI y13) dL_law_898 e14 ?_
  obtain ⟨y16, e17, r18⟩ := lI_any (lI y7 ||| lI y13)
  refine v_lor B (v := lI y16) dL_law_899 e17 ?_
  refine l_calli B hz Zx (a := hx) (n := 2) (As := [.int (iI x1), .long (lI y16)]) (rest := []) (wo := fd dm σm ++ [(ho, .inl (K 1, 1, .inr (.inl g)))]) (w2 := (fun σ9 => wL K dx dm ho σ9 σm g)) (List.Perm.refl _) (c_Low_map l D K Zx zb zL zx zs hx x1 y16 tx ⟨by omega, by omega⟩ ⟨by omega, by omega⟩ σx Gx) gl_Low_map_104 rfl rfl rfl (by decide +kernel) ⟨by decide +kernel, by decide +kernel⟩ tx (cls_Low Gx tx) rfl rfl rfl rfl (Nat.le_of_ble_eq_true rfl) dL_law_900 ⟨by show _ ≤ 601024; dsimp only; omega, by show _ ≤ 7293000; dsimp only; omega⟩ (fun σ9 => List.perm_append_comm) (fun r19 σ20 hp21 => ?_)
  obtain ⟨G25, -, z22, rfl, r24⟩ := hp21
  show V _ _ _ _ _ _ _ _ _ _ _ _ _ _ (2000 + n, 40000 + 6 * n) (wL K dx dm ho σ20 σm g) _ _ [.int (iI z22)]
  refine v_pop B dL_law_903 rfl ?_
  refine v_aload_n B dL_law_904 rfl rfl ?_
  refine v_aload_n B dL_law_905 rfl rfl ?_
  refine v_iload B dL_law_906 rfl ?_
  refine v_iconst B (v := iI 1) dL_law_908 rfl ?_
  refine v_iadd B (v := iI (z + 1)) dL_law_909 (iI_add _ _) ?_
  refine u_sld B hz (z := (z + 1)) (v := x1) (by omega) e2 dL_law_910 ?_
  refine v_aload_n B dL_law_911 rfl rfl ?_
  refine v_iload B dL_law_912 rfl ?_
  refine v_iconst B (v := iI 2) dL_law_914 rfl ?_
  refine v_iadd B (v := iI (z + 2)) dL_law_915 (iI_add _ _) ?_
  refine u_sld B hz (z := (z + 2)) (v := x4) (by omega) e5 dL_law_916 ?_
  refine v_i2l B (v := lI x4) dL_law_917 (lI_i (by omega)) ?_
  refine v_bipush B (v := iI 32) dL_law_918 (by decide +kernel) ?_
  obtain ⟨y28, e29, r30⟩ := lI_any (lI x4 <<< ((iI 32).toInt64 &&& 63))
  refine v_lshl B (v := lI y28) dL_law_920 e29 ?_
  refine v_aload_n B dL_law_921 rfl rfl ?_
  refine v_iload B dL_law_922 rfl ?_
  refine v_iconst B (v := iI 3) dL_law_924 rfl ?_
  refine v_iadd B (v := iI (z + 3)) dL_law_925 (iI_add _ _) ?_
  refine u_sld B hz (z := (z + 3)) (v := x10) (by omega) e11 dL_law_926 ?_
  refine v_i2l B (v := lI x10) dL_law_927 (lI_i (by omega)) ?_
  refine v_ldc2 B (v := lI 4294967295) (u_cl tw_96 (by decide +kernel)) dL_law_928 ?_
  obtain ⟨y31, e32, r33⟩ := lI_any (lI x10 &&& lI 4294967295)
  refine v_land B (v := lI y31) dL_law_931 e32 ?_
  obtain ⟨y34, e35, r36⟩ := lI_any (lI y28 ||| lI y31)
  refine v_lor B (v := lI y34) dL_law_932 e35 ?_
  refine l_calli B hz Zm (a := hm) (n := 2) (As := [.int (iI x1), .long (lI y34)]) (rest := []) (wo := fd dx σ20 ++ [(ho, .inl (K 1, 1, .inr (.inl g)))]) (w2 := (fun σ9 => wL K dx dm ho σ20 σ9 g)) (pL1 _ _ _) (c_M_map l D K Zm zb zL zx zs hm q Y x1 y34 ⟨by omega, by omega⟩ ⟨by omega, by omega⟩ σm Gm) gl_M_map_108 rfl rfl rfl (by decide +kernel) ⟨by decide +kernel, by decide +kernel⟩ Y.o (clsM Gm.t) rfl rfl rfl rfl (Nat.le_of_ble_eq_true rfl) dL_law_933 ⟨by show _ ≤ 601024; dsimp only; omega, by show _ ≤ 7293000; dsimp only; omega⟩ (fun σ9 => pm4 _ _ _) (fun r37 σ38 hp39 => ?_)
  obtain ⟨G43, -, z40, rfl, r42⟩ := hp39
  show V _ _ _ _ _ _ _ _ _ _ _ _ _ _ (2000 + n, 40000 + 6 * n) (wL K dx dm ho σ20 σ38 g) _ _ [.int (iI z40)]
  refine v_pop B dL_law_936 rfl ?_
  refine v_goto B (tgt := 1455) dL_law_937 (by decide +kernel) ?_
  refine v_widen (k := 2000 + (n + 1)) (n := 40000 + 6 * (n + 1)) (by show _ ≤ _; dsimp only; omega) (by show _ ≤ _; dsimp only; omega) ?_
  exact kk σ20 σ38 g G25 G43

set_option maxHeartbeats 4000000 in
set_option maxRecDepth 100000 in
theorem lc_encrypt {p : Program} {l : Launch} {e : Env} {s : State} {m : MethodId} {below : List Frame} {meth : Method} {c : Code} {D : va_G} {A : Nat → Prop} {Q : State → Prop} {zb zL : Nat} {zx : Nat → Int32} {zs : Nat → Nat} (hl0 : l.stackTraces = false) {K : Nat → ClassId} {τx τm : Nat → Option Ty} {dx dm : List Nat} (Zx : Sk τx dx) (Zm : Sk τm dm) {hx hm ho : Nat} {q : Nat → Nat} (tx : τx hx = some (41, 0, 0)) (Y : MS τm hm q) (B : Bx p s m #[.ref zb] c cL_law 7 RL lw_tbl D (tysA K) A) (hz : ZL zb zL zx zs A s s.heap) (z : Int) (n : Nat) (hi : 2 ≤ z ∧ z + 9 ≤ (zL : Int) ∧ (zL : Int) ≤ 4610) (hn : n ≤ 600) (σx σm : Nat → va_E) (g : Nat → Int64) (Gx : Good K τx σx) (Gm : GM K hm q σm) (kk : ∀ (σx σm : Nat → va_E) (g : Nat → Int64), Good K τx σx → GM K hm q σm → V p l e room_1 s m #[.ref zb] below meth c 7 D A Q (2000 + (n + 1), 40000 + 6 * (n + 1)) (wL K dx dm ho σx σm g) [(4, .int (iI z)), (3, .ref ho), (2, .ref hm), (1, .ref hx), (0, .ref zb)] 1455 []) : V p l e room_1 s m #[.ref zb] below meth c 7 D A Q (2000 + n, 40000 + 6 * n) (wL K dx dm ho σx σm g) [(4, .int (iI z)), (3, .ref ho), (2, .ref hm), (1, .ref hx), (0, .ref zb)] 940 [] := by
  refine v_aload_n B dL_law_940 rfl rfl ?_
  refine v_aload_n B dL_law_941 rfl rfl ?_
  refine v_iload B dL_law_942 rfl ?_
  refine v_iconst B (v := iI 1) dL_law_944 rfl ?_
  refine v_iadd B (v := iI (z + 1)) dL_law_945 (iI_add _ _) ?_
  obtain ⟨x1, e2, r3⟩ := iI_any (zx ((z + 1) : Int).toNat)
  refine u_sld B hz (z := (z + 1)) (v := x1) (by omega) e2 dL_law_946 ?_
  refine l_calli B hz Zx (a := hx) (n := 1) (As := [.int (iI x1)]) (rest := []) (wo := fd dm σm ++ [(ho, .inl (K 1, 1, .inr (.inl g)))]) (w2 := (fun σ9 => wL K dx dm ho σ9 σm g)) (List.Perm.refl _) (c_Low_encrypt l D K Zx zb zL zx zs hx x1 tx ⟨by omega, by omega⟩ σx Gx) gl_Low_encrypt_109 rfl rfl rfl (by decide +kernel) ⟨by decide +kernel, by decide +kernel⟩ tx (cls_Low Gx tx) rfl rfl rfl rfl (Nat.le_of_ble_eq_true rfl) dL_law_947 ⟨by show _ ≤ 601024; dsimp only; omega, by show _ ≤ 7293000; dsimp only; omega⟩ (fun σ9 => List.perm_append_comm) (fun r4 σ5 hp6 => ?_)
  obtain ⟨G10, -, z7, rfl, r9⟩ := hp6
  show V _ _ _ _ _ _ _ _ _ _ _ _ _ _ (2000 + n, 40000 + 6 * n) (wL K dx dm ho σ5 σm g) _ _ [.int (iI z7)]
  refine v_pop B dL_law_950 rfl ?_
  refine v_aload_n B dL_law_951 rfl rfl ?_
  refine v_aload_n B dL_law_952 rfl rfl ?_
  refine v_iload B dL_law_953 rfl ?_
  refine v_iconst B (v := iI 1) dL_law_955 rfl ?_
  refine v_iadd B (v := iI (z + 1)) dL_law_956 (iI_add _ _) ?_
  refine u_sld B hz (z := (z + 1)) (v := x1) (by omega) e2 dL_law_957 ?_
  refine l_calli B hz Zm (a := hm) (n := 1) (As := [.int (iI x1)]) (rest := []) (wo := fd dx σ5 ++ [(ho, .inl (K 1, 1, .inr (.inl g)))]) (w2 := (fun σ9 => wL K dx dm ho σ5 σ9 g)) (pL1 _ _ _) (c_M_encrypt l D K Zm zb zL zx zs hm q Y x1 ⟨by omega, by omega⟩ σm Gm) gl_M_encrypt_112 rfl rfl rfl (by decide +kernel) ⟨by decide +kernel, by decide +kernel⟩ Y.o (clsM Gm.t) rfl rfl rfl rfl (Nat.le_of_ble_eq_true rfl) dL_law_958 ⟨by show _ ≤ 601024; dsimp only; omega, by show _ ≤ 7293000; dsimp only; omega⟩ (fun σ9 => pm4 _ _ _) (fun r13 σ14 hp15 => ?_)
  obtain ⟨G19, -, z16, rfl, r18⟩ := hp15
  show V _ _ _ _ _ _ _ _ _ _ _ _ _ _ (2000 + n, 40000 + 6 * n) (wL K dx dm ho σ5 σ14 g) _ _ [.int (iI z16)]
  refine v_pop B dL_law_961 rfl ?_
  refine v_goto B (tgt := 1455) dL_law_962 (by decide +kernel) ?_
  refine v_widen (k := 2000 + (n + 1)) (n := 40000 + 6 * (n + 1)) (by show _ ≤ _; dsimp only; omega) (by show _ ≤ _; dsimp only; omega) ?_
  exact kk σ5 σ14 g G10 G19

set_option maxHeartbeats 4000000 in
set_option maxRecDepth 100000 in
theorem lc_pair {p : Program} {l : Launch} {e : Env} {s : State} {m : MethodId} {below : List Frame} {meth : Method} {c : Code} {D : va_G} {A : Nat → Prop} {Q : State → Prop} {zb zL : Nat} {zx : Nat → Int32} {zs : Nat → Nat} (hl0 : l.stackTraces = false) {K : Nat → ClassId} {τx τm : Nat → Option Ty} {dx dm : List Nat} (Zx : Sk τx dx) (Zm : Sk τm dm) {hx hm ho : Nat} {q : Nat → Nat} (tx : τx hx = some (41, 0, 0)) (Y : MS τm hm q) (B : Bx p s m #[.ref zb] c cL_law 7 RL lw_tbl D (tysA K) A) (hz : ZL zb zL zx zs A s s.heap) (z : Int) (n : Nat) (hi : 2 ≤ z ∧ z + 9 ≤ (zL : Int) ∧ (zL : Int) ≤ 4610) (hn : n ≤ 600) (σx σm : Nat → va_E) (g : Nat → Int64) (Gx : Good K τx σx) (Gm : GM K hm q σm) (kk : ∀ (σx σm : Nat → va_E) (g : Nat → Int64), Good K τx σx → GM K hm q σm → V p l e room_1 s m #[.ref zb] below meth c 7 D A Q (2000 + (n + 1), 40000 + 6 * (n + 1)) (wL K dx dm ho σx σm g) [(4, .int (iI z)), (3, .ref ho), (2, .ref hm), (1, .ref hx), (0, .ref zb)] 1455 []) : V p l e room_1 s m #[.ref zb] below meth c 7 D A Q (2000 + n, 40000 + 6 * n) (wL K dx dm ho σx σm g) [(4, .int (iI z)), (3, .ref ho), (2, .ref hm), (1, .ref hx), (0, .ref zb)] 965 [] := by
  refine v_aload_n B dL_law_965 rfl rfl ?_
  refine v_aload_n B dL_law_966 rfl rfl ?_
  refine v_iload B dL_law_967 rfl ?_
  refine v_iconst B (v := iI 1) dL_law_969 rfl ?_
  refine v_iadd B (v := iI (z + 1)) dL_law_970 (iI_add _ _) ?_
  obtain ⟨x1, e2, r3⟩ := iI_any (zx ((z + 1) : Int).toNat)
  refine u_sld B hz (z := (z + 1)) (v := x1) (by omega) e2 dL_law_971 ?_
  refine v_aload_n B dL_law_972 rfl rfl ?_
  refine v_iload B dL_law_973 rfl ?_
  refine v_iconst B (v := iI 2) dL_law_975 rfl ?_
  refine v_iadd B (v := iI (z + 2)) dL_law_976 (iI_add _ _) ?_
  obtain ⟨x4, e5, r6⟩ := iI_any (zx ((z + 2) : Int).toNat)
  refine u_sld B hz (z := (z + 2)) (v := x4) (by omega) e5 dL_law_977 ?_
  refine l_calli B hz Zx (a := hx) (n := 2) (As := [.int (iI x1), .int (iI x4)]) (rest := []) (wo := fd dm σm ++ [(ho, .inl (K 1, 1, .inr (.inl g)))]) (w2 := (fun σ9 => wL K dx dm ho σ9 σm g)) (List.Perm.refl _) (c_Low_pair l D K Zx zb zL zx zs hx x1 x4 tx ⟨by omega, by omega⟩ ⟨by omega, by omega⟩ σx Gx) gl_Low_pair_113 rfl rfl rfl (by decide +kernel) ⟨by decide +kernel, by decide +kernel⟩ tx (cls_Low Gx tx) rfl rfl rfl rfl (Nat.le_of_ble_eq_true rfl) dL_law_978 ⟨by show _ ≤ 601024; dsimp only; omega, by show _ ≤ 7293000; dsimp only; omega⟩ (fun σ9 => List.perm_append_comm) (fun r7 σ8 hp9 => ?_)
  obtain ⟨G13, -, z10, rfl, r12⟩ := hp9
  show V _ _ _ _ _ _ _ _ _ _ _ _ _ _ (2000 + n, 40000 + 6 * n) (wL K dx dm ho σ8 σm g) _ _ [.int (iI z10)]
  refine v_pop B dL_law_981 rfl ?_
  refine v_aload_n B dL_law_982 rfl rfl ?_
  refine v_aload_n B dL_law_983 rfl rfl ?_
  refine v_iload B dL_law_984 rfl ?_
  refine v_iconst B (v := iI 1) dL_law_986 rfl ?_
  refine v_iadd B (v := iI (z + 1)) dL_law_987 (iI_add _ _) ?_
  refine u_sld B hz (z := (z + 1)) (v := x1) (by omega) e2 dL_law_988 ?_
  refine v_aload_n B dL_law_989 rfl rfl ?_
  refine v_iload B dL_law_990 rfl ?_
  refine v_iconst B (v := iI 2) dL_law_992 rfl ?_
  refine v_iadd B (v := iI (z + 2)) dL_law_993 (iI_add _ _) ?_
  refine u_sld B hz (z := (z + 2)) (v := x4) (by omega) e5 dL_law_994 ?_
  refine l_calli B hz Zm (a := hm) (n := 2) (As := [.int (iI x1), .int (iI x4)]) (rest := []) (wo := fd dx σ8 ++ [(ho, .inl (K 1, 1, .inr (.inl g)))]) (w2 := (fun σ9 => wL K dx dm ho σ8 σ9 g)) (pL1 _ _ _) (c_M_pair l D K Zm zb zL zx zs hm q Y x1 x4 ⟨by omega, by omega⟩ ⟨by omega, by omega⟩ σm Gm) gl_M_pair_116 rfl rfl rfl (by decide +kernel) ⟨by decide +kernel, by decide +kernel⟩ Y.o (clsM Gm.t) rfl rfl rfl rfl (Nat.le_of_ble_eq_true rfl) dL_law_995 ⟨by show _ ≤ 601024; dsimp only; omega, by show _ ≤ 7293000; dsimp only; omega⟩ (fun σ9 => pm4 _ _ _) (fun r16 σ17 hp18 => ?_)
  obtain ⟨G22, -, z19, rfl, r21⟩ := hp18
  show V _ _ _ _ _ _ _ _ _ _ _ _ _ _ (2000 + n, 40000 + 6 * n) (wL K dx dm ho σ8 σ17 g) _ _ [.int (iI z19)]
  refine v_pop B dL_law_998 rfl ?_
  refine v_goto B (tgt := 1455) dL_law_999 (by decide +kernel) ?_
  refine v_widen (k := 2000 + (n + 1)) (n := 40000 + 6 * (n + 1)) (by show _ ≤ _; dsimp only; omega) (by show _ ≤ _; dsimp only; omega) ?_
  exact kk σ8 σ17 g G13 G22

set_option maxHeartbeats 4000000 in
set_option maxRecDepth 100000 in
theorem lc_allow {p : Program} {l : Launch} {e : Env} {s : State} {m : MethodId} {below : List Frame} {meth : Method} {c : Code} {D : va_G} {A : Nat → Prop} {Q : State → Prop} {zb zL : Nat} {zx : Nat → Int32} {zs : Nat → Nat} (hl0 : l.stackTraces = false) {K : Nat → ClassId} {τx τm : Nat → Option Ty} {dx dm : List Nat} (Zx : Sk τx dx) (Zm : Sk τm dm) {hx hm ho : Nat} {q : Nat → Nat} (tx : τx hx = some (41, 0, 0)) (Y : MS τm hm q) (B : Bx p s m #[.ref zb] c cL_law 7 RL lw_tbl D (tysA K) A) (hz : ZL zb zL zx zs A s s.heap) (z : Int) (n : Nat) (hi : 2 ≤ z ∧ z + 9 ≤ (zL : Int) ∧ (zL : Int) ≤ 4610) (hn : n ≤ 600) (σx σm : Nat → va_E) (g : Nat → Int64) (Gx : Good K τx σx) (Gm : GM K hm q σm) (kk : ∀ (σx σm : Nat → va_E) (g : Nat → Int64), Good K τx σx → GM K hm q σm → V p l e room_1 s m #[.ref zb] below meth c 7 D A Q (2000 + (n + 1), 40000 + 6 * (n + 1)) (wL K dx dm ho σx σm g) [(4, .int (iI z)), (3, .ref ho), (2, .ref hm), (1, .ref hx), (0, .ref zb)] 1455 []) : V p l e room_1 s m #[.ref zb] below meth c 7 D A Q (2000 + n, 40000 + 6 * n) (wL K dx dm ho σx σm g) [(4, .int (iI z)), (3, .ref ho), (2, .ref hm), (1, .ref hx), (0, .ref zb)] 1002 [] := by
  refine v_aload_n B dL_law_1002 rfl rfl ?_
  refine v_aload_n B dL_law_1003 rfl rfl ?_
  refine v_iload B dL_law_1004 rfl ?_
  refine v_iconst B (v := iI 1) dL_law_1006 rfl ?_
  refine v_iadd B (v := iI (z + 1)) dL_law_1007 (iI_add _ _) ?_
  obtain ⟨x1, e2, r3⟩ := iI_any (zx ((z + 1) : Int).toNat)
  refine u_sld B hz (z := (z + 1)) (v := x1) (by omega) e2 dL_law_1008 ?_
  refine v_aload_n B dL_law_1009 rfl rfl ?_
  refine v_iload B dL_law_1010 rfl ?_
  refine v_iconst B (v := iI 2) dL_law_1012 rfl ?_
  refine v_iadd B (v := iI (z + 2)) dL_law_1013 (iI_add _ _) ?_
  obtain ⟨x4, e5, r6⟩ := iI_any (zx ((z + 2) : Int).toNat)
  refine u_sld B hz (z := (z + 2)) (v := x4) (by omega) e5 dL_law_1014 ?_
  refine l_calli B hz Zx (a := hx) (n := 2) (As := [.int (iI x1), .int (iI x4)]) (rest := []) (wo := fd dm σm ++ [(ho, .inl (K 1, 1, .inr (.inl g)))]) (w2 := (fun σ9 => wL K dx dm ho σ9 σm g)) (List.Perm.refl _) (c_Low_allow l D K Zx zb zL zx zs hx x1 x4 tx ⟨by omega, by omega⟩ ⟨by omega, by omega⟩ σx Gx) gl_Low_allow_117 rfl rfl rfl (by decide +kernel) ⟨by decide +kernel, by decide +kernel⟩ tx (cls_Low Gx tx) rfl rfl rfl rfl (Nat.le_of_ble_eq_true rfl) dL_law_1015 ⟨by show _ ≤ 601024; dsimp only; omega, by show _ ≤ 7293000; dsimp only; omega⟩ (fun σ9 => List.perm_append_comm) (fun r7 σ8 hp9 => ?_)
  obtain ⟨G13, -, z10, rfl, r12⟩ := hp9
  show V _ _ _ _ _ _ _ _ _ _ _ _ _ _ (2000 + n, 40000 + 6 * n) (wL K dx dm ho σ8 σm g) _ _ [.int (iI z10)]
  refine v_pop B dL_law_1018 rfl ?_
  refine v_aload_n B dL_law_1019 rfl rfl ?_
  refine v_aload_n B dL_law_1020 rfl rfl ?_
  refine v_iload B dL_law_1021 rfl ?_
  refine v_iconst B (v := iI 1) dL_law_1023 rfl ?_
  refine v_iadd B (v := iI (z + 1)) dL_law_1024 (iI_add _ _) ?_
  refine u_sld B hz (z := (z + 1)) (v := x1) (by omega) e2 dL_law_1025 ?_
  refine v_aload_n B dL_law_1026 rfl rfl ?_
  refine v_iload B dL_law_1027 rfl ?_
  refine v_iconst B (v := iI 2) dL_law_1029 rfl ?_
  refine v_iadd B (v := iI (z + 2)) dL_law_1030 (iI_add _ _) ?_
  refine u_sld B hz (z := (z + 2)) (v := x4) (by omega) e5 dL_law_1031 ?_
  refine l_calli B hz Zm (a := hm) (n := 2) (As := [.int (iI x1), .int (iI x4)]) (rest := []) (wo := fd dx σ8 ++ [(ho, .inl (K 1, 1, .inr (.inl g)))]) (w2 := (fun σ9 => wL K dx dm ho σ8 σ9 g)) (pL1 _ _ _) (c_M_allow l D K Zm zb zL zx zs hm q Y x1 x4 ⟨by omega, by omega⟩ ⟨by omega, by omega⟩ σm Gm) gl_M_allow_120 rfl rfl rfl (by decide +kernel) ⟨by decide +kernel, by decide +kernel⟩ Y.o (clsM Gm.t) rfl rfl rfl rfl (Nat.le_of_ble_eq_true rfl) dL_law_1032 ⟨by show _ ≤ 601024; dsimp only; omega, by show _ ≤ 7293000; dsimp only; omega⟩ (fun σ9 => pm4 _ _ _) (fun r16 σ17 hp18 => ?_)
  obtain ⟨G22, -, z19, rfl, r21⟩ := hp18
  show V _ _ _ _ _ _ _ _ _ _ _ _ _ _ (2000 + n, 40000 + 6 * n) (wL K dx dm ho σ8 σ17 g) _ _ [.int (iI z19)]
  refine v_pop B dL_law_1035 rfl ?_
  refine v_goto B (tgt := 1455) dL_law_1036 (by decide +kernel) ?_
  refine v_widen (k := 2000 + (n + 1)) (n := 40000 + 6 * (n + 1)) (by show _ ≤ _; dsimp only; omega) (by show _ ≤ _; dsimp only; omega) ?_
  exact kk σ8 σ17 g G13 G22

set_option maxHeartbeats 4000000 in
set_option maxRecDepth 100000 in
theorem lc_features {p : Program} {l : Launch} {e : Env} {s : State} {m : MethodId} {below : List Frame} {meth : Method} {c : Code} {D : va_G} {A : Nat → Prop} {Q : State → Prop} {zb zL : Nat} {zx : Nat → Int32} {zs : Nat → Nat} (hl0 : l.stackTraces = false) {K : Nat → ClassId} {τx τm : Nat → Option Ty} {dx dm : List Nat} (Zx : Sk τx dx) (Zm : Sk τm dm) {hx hm ho : Nat} {q : Nat → Nat} (tx : τx hx = some (41, 0, 0)) (Y : MS τm hm q) (B : Bx p s m #[.ref zb] c cL_law 7 RL lw_tbl D (tysA K) A) (hz : ZL zb zL zx zs A s s.heap) (z : Int) (n : Nat) (hi : 2 ≤ z ∧ z + 9 ≤ (zL : Int) ∧ (zL : Int) ≤ 4610) (hn : n ≤ 600) (σx σm : Nat → va_E) (g : Nat → Int64) (Gx : Good K τx σx) (Gm : GM K hm q σm) (kk : ∀ (σx σm : Nat → va_E) (g : Nat → Int64), Good K τx σx → GM K hm q σm → V p l e room_1 s m #[.ref zb] below meth c 7 D A Q (2000 + (n + 1), 40000 + 6 * (n + 1)) (wL K dx dm ho σx σm g) [(4, .int (iI z)), (3, .ref ho), (2, .ref hm), (1, .ref hx), (0, .ref zb)] 1455 []) : V p l e room_1 s m #[.ref zb] below meth c 7 D A Q (2000 + n, 40000 + 6 * n) (wL K dx dm ho σx σm g) [(4, .int (iI z)), (3, .ref ho), (2, .ref hm), (1, .ref hx), (0, .ref zb)] 1039 [] := by
  refine v_aload_n B dL_law_1039 rfl rfl ?_
  refine v_aload_n B dL_law_1040 rfl rfl ?_
  refine v_iload B dL_law_1041 rfl ?_
  refine v_iconst B (v := iI 1) dL_law_1043 rfl ?_
  refine v_iadd B (v := iI (z + 1)) dL_law_1044 (iI_add _ _) ?_
  obtain ⟨x1, e2, r3⟩ := iI_any (zx ((z + 1) : Int).toNat)
  refine u_sld B hz (z := (z + 1)) (v := x1) (by omega) e2 dL_law_1045 ?_
  refine v_aload_n B dL_law_1046 rfl rfl ?_
  refine v_iload B dL_law_1047 rfl ?_
  refine v_iconst B (v := iI 2) dL_law_1049 rfl ?_
  refine v_iadd B (v := iI (z + 2)) dL_law_1050 (iI_add _ _) ?_
  obtain ⟨x4, e5, r6⟩ := iI_any (zx ((z + 2) : Int).toNat)
  refine u_sld B hz (z := (z + 2)) (v := x4) (by omega) e5 dL_law_1051 ?_
  refine v_i2l B (v := lI x4) dL_law_1052 (lI_i (by omega)) ?_
  refine v_bipush B (v := iI 32) dL_law_1053 (by decide +kernel) ?_
  obtain ⟨y7, e8, r9⟩ := lI_any (lI x4 <<< ((iI 32).toInt64 &&& 63))
  refine v_lshl B (v := lI y7) dL_law_1055 e8 ?_
  refine v_aload_n B dL_law_1056 rfl rfl ?_
  refine v_iload B dL_law_1057 rfl ?_
  refine v_iconst B (v := iI 3) dL_law_1059 rfl ?_
  refine v_iadd B (v := iI (z + 3)) dL_law_1060 (iI_add _ _) ?_
  obtain ⟨x10, e11, r12⟩ := iI_any (zx ((z + 3) : Int).toNat)
  refine u_sld B hz (z := (z + 3)) (v := x10) (by omega) e11 dL_law_1061 ?_
  refine v_i2l B (v := lI x10) dL_law_1062 (lI_i (by omega)) ?_
  refine v_ldc2 B (v := lI 4294967295) (u_cl tw_96 (by decide +kernel)) dL_law_1063 ?_
  obtain ⟨y13, e14, r15⟩ := lI_any (lI x10 &&& lI 4294967295)
  refine v_land B (v := lI y13) dL_law_1066 e14 ?_
  obtain ⟨y16, e17, r18⟩ := lI_any (lI y7 ||| lI y13)
  refine v_lor B (v := lI y16) dL_law_1067 e17 ?_
  refine l_calli B hz Zx (a := hx) (n := 2) (As := [.int (iI x1), .long (lI y16)]) (rest := []) (wo := fd dm σm ++ [(ho, .inl (K 1, 1, .inr (.inl g)))]) (w2 := (fun σ9 => wL K dx dm ho σ9 σm g)) (List.Perm.refl _) (c_Low_features l D K Zx zb zL zx zs hx x1 y16 tx ⟨by omega, by omega⟩ ⟨by omega, by omega⟩ σx Gx) gl_Low_features_121 rfl rfl rfl (by decide +kernel) ⟨by decide +kernel, by decide +kernel⟩ tx (cls_Low Gx tx) rfl rfl rfl rfl (Nat.le_of_ble_eq_true rfl) dL_law_1068 ⟨by show _ ≤ 601024; dsimp only; omega, by show _ ≤ 7293000; dsimp only; omega⟩ (fun σ9 => List.perm_append_comm) (fun r19 σ20 hp21 => ?_)
  obtain ⟨G25, -, z22, rfl, r24⟩ := hp21
  show V _ _ _ _ _ _ _ _ _ _ _ _ _ _ (2000 + n, 40000 + 6 * n) (wL K dx dm ho σ20 σm g) _ _ [.int (iI z22)]
  refine v_pop B dL_law_1071 rfl ?_
  refine v_aload_n B dL_law_1072 rfl rfl ?_
  refine v_aload_n B dL_law_1073 rfl rfl ?_
  refine v_iload B dL_law_1074 rfl ?_
  refine v_iconst B (v := iI 1) dL_law_1076 rfl ?_
  refine v_iadd B (v := iI (z + 1)) dL_law_1077 (iI_add _ _) ?_
  refine u_sld B hz (z := (z + 1)) (v := x1) (by omega) e2 dL_law_1078 ?_
  refine v_aload_n B dL_law_1079 rfl rfl ?_
  refine v_iload B dL_law_1080 rfl ?_
  refine v_iconst B (v := iI 2) dL_law_1082 rfl ?_
  refine v_iadd B (v := iI (z + 2)) dL_law_1083 (iI_add _ _) ?_
  refine u_sld B hz (z := (z + 2)) (v := x4) (by omega) e5 dL_law_1084 ?_
  refine v_i2l B (v := lI x4) dL_law_1085 (lI_i (by omega)) ?_
  refine v_bipush B (v := iI 32) dL_law_1086 (by decide +kernel) ?_
  obtain ⟨y28, e29, r30⟩ := lI_any (lI x4 <<< ((iI 32).toInt64 &&& 63))
  refine v_lshl B (v := lI y28) dL_law_1088 e29 ?_
  refine v_aload_n B dL_law_1089 rfl rfl ?_
  refine v_iload B dL_law_1090 rfl ?_
  refine v_iconst B (v := iI 3) dL_law_1092 rfl ?_
  refine v_iadd B (v := iI (z + 3)) dL_law_1093 (iI_add _ _) ?_
  refine u_sld B hz (z := (z + 3)) (v := x10) (by omega) e11 dL_law_1094 ?_
  refine v_i2l B (v := lI x10) dL_law_1095 (lI_i (by omega)) ?_
  refine v_ldc2 B (v := lI 4294967295) (u_cl tw_96 (by decide +kernel)) dL_law_1096 ?_
  obtain ⟨y31, e32, r33⟩ := lI_any (lI x10 &&& lI 4294967295)
  refine v_land B (v := lI y31) dL_law_1099 e32 ?_
  obtain ⟨y34, e35, r36⟩ := lI_any (lI y28 ||| lI y31)
  refine v_lor B (v := lI y34) dL_law_1100 e35 ?_
  refine l_calli B hz Zm (a := hm) (n := 2) (As := [.int (iI x1), .long (lI y34)]) (rest := []) (wo := fd dx σ20 ++ [(ho, .inl (K 1, 1, .inr (.inl g)))]) (w2 := (fun σ9 => wL K dx dm ho σ20 σ9 g)) (pL1 _ _ _) (c_M_features l D K Zm zb zL zx zs hm q Y x1 y34 ⟨by omega, by omega⟩ ⟨by omega, by omega⟩ σm Gm) gl_M_features_124 rfl rfl rfl (by decide +kernel) ⟨by decide +kernel, by decide +kernel⟩ Y.o (clsM Gm.t) rfl rfl rfl rfl (Nat.le_of_ble_eq_true rfl) dL_law_1101 ⟨by show _ ≤ 601024; dsimp only; omega, by show _ ≤ 7293000; dsimp only; omega⟩ (fun σ9 => pm4 _ _ _) (fun r37 σ38 hp39 => ?_)
  obtain ⟨G43, -, z40, rfl, r42⟩ := hp39
  show V _ _ _ _ _ _ _ _ _ _ _ _ _ _ (2000 + n, 40000 + 6 * n) (wL K dx dm ho σ20 σ38 g) _ _ [.int (iI z40)]
  refine v_pop B dL_law_1104 rfl ?_
  refine v_goto B (tgt := 1455) dL_law_1105 (by decide +kernel) ?_
  refine v_widen (k := 2000 + (n + 1)) (n := 40000 + 6 * (n + 1)) (by show _ ≤ _; dsimp only; omega) (by show _ ≤ _; dsimp only; omega) ?_
  exact kk σ20 σ38 g G25 G43

set_option maxHeartbeats 4000000 in
set_option maxRecDepth 100000 in
theorem lc_attribute {p : Program} {l : Launch} {e : Env} {s : State} {m : MethodId} {below : List Frame} {meth : Method} {c : Code} {D : va_G} {A : Nat → Prop} {Q : State → Prop} {zb zL : Nat} {zx : Nat → Int32} {zs : Nat → Nat} (hl0 : l.stackTraces = false) {K : Nat → ClassId} {τx τm : Nat → Option Ty} {dx dm : List Nat} (Zx : Sk τx dx) (Zm : Sk τm dm) {hx hm ho : Nat} {q : Nat → Nat} (tx : τx hx = some (41, 0, 0)) (Y : MS τm hm q) (B : Bx p s m #[.ref zb] c cL_law 7 RL lw_tbl D (tysA K) A) (hz : ZL zb zL zx zs A s s.heap) (z : Int) (n : Nat) (hi : 2 ≤ z ∧ z + 9 ≤ (zL : Int) ∧ (zL : Int) ≤ 4610) (hn : n ≤ 600) (σx σm : Nat → va_E) (g : Nat → Int64) (Gx : Good K τx σx) (Gm : GM K hm q σm) (kk : ∀ (σx σm : Nat → va_E) (g : Nat → Int64), Good K τx σx → GM K hm q σm → V p l e room_1 s m #[.ref zb] below meth c 7 D A Q (2000 + (n + 1), 40000 + 6 * (n + 1)) (wL K dx dm ho σx σm g) [(4, .int (iI z)), (3, .ref ho), (2, .ref hm), (1, .ref hx), (0, .ref zb)] 1455 []) : V p l e room_1 s m #[.ref zb] below meth c 7 D A Q (2000 + n, 40000 + 6 * n) (wL K dx dm ho σx σm g) [(4, .int (iI z)), (3, .ref ho), (2, .ref hm), (1, .ref hx), (0, .ref zb)] 1108 [] := by
  refine v_aload_n B dL_law_1108 rfl rfl ?_
  refine v_aload_n B dL_law_1109 rfl rfl ?_
  refine v_iload B dL_law_1110 rfl ?_
  refine v_iconst B (v := iI 1) dL_law_1112 rfl ?_
  refine v_iadd B (v := iI (z + 1)) dL_law_1113 (iI_add _ _) ?_
  obtain ⟨x1, e2, r3⟩ := iI_any (zx ((z + 1) : Int).toNat)
  refine u_sld B hz (z := (z + 1)) (v := x1) (by omega) e2 dL_law_1114 ?_
  refine v_aload_n B dL_law_1115 rfl rfl ?_
  refine v_iload B dL_law_1116 rfl ?_
  refine v_iconst B (v := iI 2) dL_law_1118 rfl ?_
  refine v_iadd B (v := iI (z + 2)) dL_law_1119 (iI_add _ _) ?_
  obtain ⟨x4, e5, r6⟩ := iI_any (zx ((z + 2) : Int).toNat)
  refine u_sld B hz (z := (z + 2)) (v := x4) (by omega) e5 dL_law_1120 ?_
  refine v_aload_n B dL_law_1121 rfl rfl ?_
  refine v_iload B dL_law_1122 rfl ?_
  refine v_iconst B (v := iI 3) dL_law_1124 rfl ?_
  refine v_iadd B (v := iI (z + 3)) dL_law_1125 (iI_add _ _) ?_
  obtain ⟨x7, e8, r9⟩ := iI_any (zx ((z + 3) : Int).toNat)
  refine u_sld B hz (z := (z + 3)) (v := x7) (by omega) e8 dL_law_1126 ?_
  refine l_calli B hz Zx (a := hx) (n := 3) (As := [.int (iI x1), .int (iI x4), .int (iI x7)]) (rest := []) (wo := fd dm σm ++ [(ho, .inl (K 1, 1, .inr (.inl g)))]) (w2 := (fun σ9 => wL K dx dm ho σ9 σm g)) (List.Perm.refl _) (c_Low_attribute l D K Zx zb zL zx zs hx x1 x4 x7 tx ⟨by omega, by omega⟩ ⟨by omega, by omega⟩ ⟨by omega, by omega⟩ σx Gx) gl_Low_attribute_125 rfl rfl rfl (by decide +kernel) ⟨by decide +kernel, by decide +kernel⟩ tx (cls_Low Gx tx) rfl rfl rfl rfl (Nat.le_of_ble_eq_true rfl) dL_law_1127 ⟨by show _ ≤ 601024; dsimp only; omega, by show _ ≤ 7293000; dsimp only; omega⟩ (fun σ9 => List.perm_append_comm) (fun r10 σ11 hp12 => ?_)
  obtain ⟨G16, -, z13, rfl, r15⟩ := hp12
  show V _ _ _ _ _ _ _ _ _ _ _ _ _ _ (2000 + n, 40000 + 6 * n) (wL K dx dm ho σ11 σm g) _ _ [.int (iI z13)]
  refine v_pop B dL_law_1130 rfl ?_
  refine v_aload_n B dL_law_1131 rfl rfl ?_
  refine v_aload_n B dL_law_1132 rfl rfl ?_
  refine v_iload B dL_law_1133 rfl ?_
  refine v_iconst B (v := iI 1) dL_law_1135 rfl ?_
  refine v_iadd B (v := iI (z + 1)) dL_law_1136 (iI_add _ _) ?_
  refine u_sld B hz (z := (z + 1)) (v := x1) (by omega) e2 dL_law_1137 ?_
  refine v_aload_n B dL_law_1138 rfl rfl ?_
  refine v_iload B dL_law_1139 rfl ?_
  refine v_iconst B (v := iI 2) dL_law_1141 rfl ?_
  refine v_iadd B (v := iI (z + 2)) dL_law_1142 (iI_add _ _) ?_
  refine u_sld B hz (z := (z + 2)) (v := x4) (by omega) e5 dL_law_1143 ?_
  refine v_aload_n B dL_law_1144 rfl rfl ?_
  refine v_iload B dL_law_1145 rfl ?_
  refine v_iconst B (v := iI 3) dL_law_1147 rfl ?_
  refine v_iadd B (v := iI (z + 3)) dL_law_1148 (iI_add _ _) ?_
  refine u_sld B hz (z := (z + 3)) (v := x7) (by omega) e8 dL_law_1149 ?_
  refine l_calli B hz Zm (a := hm) (n := 3) (As := [.int (iI x1), .int (iI x4), .int (iI x7)]) (rest := []) (wo := fd dx σ11 ++ [(ho, .inl (K 1, 1, .inr (.inl g)))]) (w2 := (fun σ9 => wL K dx dm ho σ11 σ9 g)) (pL1 _ _ _) (c_M_attribute l D K Zm zb zL zx zs hm q Y x1 x4 x7 ⟨by omega, by omega⟩ ⟨by omega, by omega⟩ ⟨by omega, by omega⟩ σm Gm) gl_M_attribute_128 rfl rfl rfl (by decide +kernel) ⟨by decide +kernel, by decide +kernel⟩ Y.o (clsM Gm.t) rfl rfl rfl rfl (Nat.le_of_ble_eq_true rfl) dL_law_1150 ⟨by show _ ≤ 601024; dsimp only; omega, by show _ ≤ 7293000; dsimp only; omega⟩ (fun σ9 => pm4 _ _ _) (fun r19 σ20 hp21 => ?_)
  obtain ⟨G25, -, z22, rfl, r24⟩ := hp21
  show V _ _ _ _ _ _ _ _ _ _ _ _ _ _ (2000 + n, 40000 + 6 * n) (wL K dx dm ho σ11 σ20 g) _ _ [.int (iI z22)]
  refine v_pop B dL_law_1153 rfl ?_
  refine v_goto B (tgt := 1455) dL_law_1154 (by decide +kernel) ?_
  refine v_widen (k := 2000 + (n + 1)) (n := 40000 + 6 * (n + 1)) (by show _ ≤ _; dsimp only; omega) (by show _ ≤ _; dsimp only; omega) ?_
  exact kk σ11 σ20 g G16 G25

