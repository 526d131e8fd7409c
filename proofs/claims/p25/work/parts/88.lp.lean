/-! THE CLAIM OUT OF ONE WALK OF THE LAW'S BODY. Your part is whole_start (and what it stands on); all else here is the same for every law, but numbers. -/
def R_law : String := "LowEnergyLaw"
def lw_P (b : Addr) (xs : List Int32) (args : Array Value) (s : State) : Prop := args = #[.ref b] ∧ s.IntsAt b xs ∧ xs.length ≤ 4610 ∧ (Jvm.Cond.and given_1 narrow_1).before args s = true
def lw_Q (_ : Array Value) (s : State) (o : Outcome) (t : State) : Prop := o = .returned (some (.int 1)) ∧ Framed s o t [] 601024 7293000
def lw_Z (below : List Frame) (a : Array Value) (s : State) : State → Prop := fun t => ∃ o, t.status = .running ∧ Ended t below o ∧ lw_Q a s o t
/-- the law's own end, with 1 on the stack, nothing written that was there before, its room as the claim has it -/
theorem lw_ret {p : Program} {l : Launch} {e : Env} {s : State} {m : MethodId} {below : List Frame} {meth : Method} {c : Code} {b : Nat} (hx : p.tables.exec = Jvm.exec) (hb : c.code = code) (hr : meth.sig.returnType = ret) (hlocks : meth.locks = false) {pc : Nat} {H : Heap} {ls : Array Slot} (hdg : decode code pc = .ok (.ireturn, 1)) : W p l e room_1 s m #[Value.ref b] below meth c H [] 601024 7293000 (lw_Z below #[Value.ref b] s) (F0 m pc ls [.int 1]) := by
  intro T hT X
  obtain ⟨fs, hret, hrun, hended, hW, hframe⟩ := X.leave (v := some (.int 1)) (hlocks := hlocks) (fun h => by rw [hr] at h; cases h)
  have hmeth' : T.vm.method? m = some meth := X.method'
  refine ⟨T.setFrames fs, ?_, .returned (some (.int 1)), hrun, hended, rfl, ⟨_, rfl⟩, hW, hframe⟩
  jvm_step X.here [X.here.top, hx, hb, hdg, hmeth', hr, ret, narrow_b1]
  (try refine ⟨rfl, ?_⟩); (try refine ⟨rfl, ?_⟩)
  first | (intro acts; rw [hret _ acts rfl rfl rfl]) | rw [hret _ _ rfl rfl rfl]
  exact Steps.refl _
/-- what holds at the law's entry: the machine, the code, the tables' words (any of lw_tbl by 'hts w (by decide +kernel)'), the script of L ints xs at the cell b, what the Statement gives of the start (any of its parts by flat_of_before) -/
def lw_At (p : Program) (s : State) (m : MethodId) (meth : Method) (c : Code) (b L : Nat) (xs : Nat → Int32) : Prop :=
  p.tables.exec = Jvm.exec ∧ c.code = code ∧ meth.sig.returnType = ret ∧ c.maxLocals = 7 ∧ s.vm.findClass R_law = some m.cls ∧ (∀ w ∈ lw_tbl, w.before #[Value.ref b] s = true) ∧ va_X b L xs s s.heap ∧ b < s.heap.size ∧ meth.locks = false ∧ (Jvm.Cond.and given_1 narrow_1).before #[Value.ref b] s = true
/-- the law's own end -/
theorem v_lawret {p : Program} {l : Launch} {e : Env} {s : State} {m : MethodId} {below : List Frame} {meth : Method} {c : Code} {D : va_G} {tys : List (ClassId × FieldType)} {A : Nat → Prop} {zb : Nat} {cs : Nat × Nat} {w : va_W} {lv : List (Nat × Value)} {pc : Nat} (B : Bx p s m #[.ref zb] c cL_law 7 RL lw_tbl D tys A) (hA : ∀ q : Nat, A q → s.heap.size ≤ q) (hr : meth.sig.returnType = ret) (hlk : meth.locks = false) (hd : decode cL_law pc = .ok (.ireturn, 1)) (h1 : cs.1 ≤ 601024) (h2 : cs.2 ≤ 7293000) : V p l e room_1 s m #[.ref zb] below meth c 7 D A (lw_Z below #[Value.ref zb] s) cs w lv pc [.int 1] :=
  fun H locs ls hP hD hS hl => W.widen h1 h2 (va_forget (fun q hq => hA _ (hS.2.2 q hq)) (lw_ret B.1 B.2.1 hr hlk hd))
set_option maxHeartbeats 8000000 in
set_option maxRecDepth 100000 in
theorem law_loop {p : Program} {l : Launch} {e : Env} {s : State} {m : MethodId} {below : List Frame} {meth : Method} {c : Code} {D : va_G} {A : Nat → Prop} {zb zL : Nat} {zx : Nat → Int32} {zs : Nat → Nat} (hl0 : l.stackTraces = false) {K : Nat → ClassId} {τx τm : Nat → Option Ty} {dx dm : List Nat} (Zx : Sk τx dx) (Zm : Sk τm dm) {hx hm ho : Nat} {q : Nat → Nat} (tx : τx hx = some (41, 0, 0)) (Y : MS τm hm q) (B : Bx p s m #[.ref zb] c cL_law 7 RL lw_tbl D (tysA K) A) (hz : ZL zb zL zx zs A s s.heap) (hA : ∀ q : Nat, A q → s.heap.size ≤ q) (hr : meth.sig.returnType = ret) (hlk : meth.locks = false) (hzl : (zL : Int) ≤ 4610) : ∀ (N n : Nat) (z : Int) (σx σm : Nat → va_E) (g : Nat → Int64), ((zL : Int) + 5000 - z).toNat ≤ N → z = 2 + 9 * (n : Int) → z ≤ 4620 → Good K τx σx → GM K hm q σm → V p l e room_1 s m #[.ref zb] below meth c 7 D A (lw_Z below #[Value.ref zb] s) (2000 + n, 40000 + 6 * n) (wL K dx dm ho σx σm g) [(4, .int (iI z)), (3, .ref ho), (2, .ref hm), (1, .ref hx), (0, .ref zb)] 47 [] := by
  intro N
  induction N with
  | zero => intro n z σx σm g hN hz2 hz3; omega
  | succ N IH =>
    intro n z σx σm g hN hz2 hz3 Gx Gm
    refine v_iload B dL_law_47 rfl ?_
    refine v_aload_n B dL_law_49 rfl rfl ?_
    refine u_slen B hz dL_law_50 ?_
    refine v_bipush B (v := iI 9) dL_law_51 (by decide +kernel) ?_
    refine v_isub B (v := iI ((zL : Int) - 9)) dL_law_53 (iI_sub _ _) ?_
    refine u_icmp_gt B (tgt := 1461) (by omega) (by omega) dL_law_54 (by decide +kernel) (fun c1 => ?_) (fun c1 => ?_)
    · refine v_iconst B (v := 1) dL_law_1461 rfl ?_
      exact v_lawret B hA hr hlk dL_law_1462 (by show _ ≤ _; dsimp only; omega) (by show _ ≤ _; dsimp only; omega)
    · refine v_aload_n B dL_law_57 rfl rfl ?_
      refine v_iload B dL_law_58 rfl ?_
      obtain ⟨x, ex, rx⟩ := iI_any (zx (z : Int).toNat)
      refine u_sld B hz (z := z) (v := x) (by omega) ex dL_law_60 ?_
      refine v_bipush B (v := iI 31) dL_law_61 (by decide +kernel) ?_
      obtain ⟨w, ew, rw⟩ := iI_and x (c := 31) (by decide) (by decide)
      refine v_iand B (v := iI w) dL_law_63 ew ?_
      have kk : ∀ (σx σm : Nat → va_E) (g : Nat → Int64), Good K τx σx → GM K hm q σm → V p l e room_1 s m #[.ref zb] below meth c 7 D A (lw_Z below #[Value.ref zb] s) (2000 + (n + 1), 40000 + 6 * (n + 1)) (wL K dx dm ho σx σm g) [(4, .int (iI z)), (3, .ref ho), (2, .ref hm), (1, .ref hx), (0, .ref zb)] 1455 [] := by
        intro σx σm g Gx Gm
        refine v_iinc B (k := 0) (v := iI (z + 9)) (lv' := [(4, .int (iI (z + 9))), (3, .ref ho), (2, .ref hm), (1, .ref hx), (0, .ref zb)]) dL_law_1455 rfl (iI_add _ _) (by decide +kernel) rfl ?_
        refine v_goto B (tgt := 47) dL_law_1458 (by decide +kernel) ?_
        exact IH (n + 1) (z + 9) σx σm g (by omega) (by omega) (by omega) Gx Gm
      refine u_tsw B (tgtd := 1455) (by omega) dL_law_64 (by decide +kernel) ?_ ?_ (tswM (by decide +kernel)) (by decide +kernel)
      · intro i off tg ho1 hx1 ht1
        match i, ho1, hx1 with
        | 0, ho1, hx1 => (replace ho1 : off = 128 := by simp at ho1; omega); (obtain rfl : tg = 192 := by omega); exact lc_feed hl0 Zx Zm tx Y B hz z n (by omega) (by omega) σx σm g Gx Gm kk
        | 1, ho1, hx1 => (replace ho1 : off = 201 := by simp at ho1; omega); (obtain rfl : tg = 265 := by omega); exact lc_end hl0 Zx Zm tx Y B hz z n (by omega) (by omega) σx σm g Gx Gm kk
        | 2, ho1, hx1 => (replace ho1 : off = 226 := by simp at ho1; omega); (obtain rfl : tg = 290 := by omega); exact lc_seed hl0 Zx Zm tx Y B hz z n (by omega) (by omega) σx σm g Gx Gm kk
        | 3, ho1, hx1 => (replace ho1 : off = 263 := by simp at ho1; omega); (obtain rfl : tg = 327 := by omega); exact lc_advertise hl0 Zx Zm tx Y B hz z n (by omega) (by omega) σx σm g Gx Gm kk
        | 4, ho1, hx1 => (replace ho1 : off = 300 := by simp at ho1; omega); (obtain rfl : tg = 364 := by omega); exact lc_scan hl0 Zx Zm tx Y B hz z n (by omega) (by omega) σx σm g Gx Gm kk
        | 5, ho1, hx1 => (replace ho1 : off = 325 := by simp at ho1; omega); (obtain rfl : tg = 389 := by omega); exact lc_connect hl0 Zx Zm tx Y B hz z n (by omega) (by omega) σx σm g Gx Gm kk
        | 6, ho1, hx1 => (replace ho1 : off = 480 := by simp at ho1; omega); (obtain rfl : tg = 544 := by omega); exact lc_stop hl0 Zx Zm tx Y B hz z n (by omega) (by omega) σx σm g Gx Gm kk
        | 7, ho1, hx1 => (replace ho1 : off = 505 := by simp at ho1; omega); (obtain rfl : tg = 569 := by omega); exact lc_tick hl0 Zx Zm tx Y B hz z n (by omega) (by omega) σx σm g Gx Gm kk
        | 8, ho1, hx1 => (replace ho1 : off = 533 := by simp at ho1; omega); (obtain rfl : tg = 597 := by omega); exact lc_noise hl0 Zx Zm tx Y B hz z n (by omega) (by omega) σx σm g Gx Gm kk
        | 9, ho1, hx1 => (replace ho1 : off = 570 := by simp at ho1; omega); (obtain rfl : tg = 634 := by omega); exact lc_lose hl0 Zx Zm tx Y B hz z n (by omega) (by omega) σx σm g Gx Gm kk
        | 10, ho1, hx1 => (replace ho1 : off = 607 := by simp at ho1; omega); (obtain rfl : tg = 671 := by omega); exact lc_air hl0 Zx Zm tx Y B hz z n (by omega) (by omega) σx σm g Gx Gm kk
        | 11, ho1, hx1 => (replace ho1 : off = 647 := by simp at ho1; omega); (obtain rfl : tg = 711 := by omega); exact lc_device hl0 Zx Zm tx Y B hz z n (by omega) (by omega) σx σm g Gx Gm kk
        | 12, ho1, hx1 => (replace ho1 : off = 684 := by simp at ho1; omega); (obtain rfl : tg = 748 := by omega); exact lc_number hl0 Zx Zm tx Y B hz z n (by omega) (by omega) σx σm g Gx Gm kk
        | 13, ho1, hx1 => (replace ho1 : off = 721 := by simp at ho1; omega); (obtain rfl : tg = 785 := by omega); exact lc_byteOf hl0 Zx Zm tx Y B hz z n (by omega) (by omega) σx σm g Gx Gm kk
        | 14, ho1, hx1 => (replace ho1 : off = 770 := by simp at ho1; omega); (obtain rfl : tg = 834 := by omega); exact lc_control hl0 Zx Zm tx Y B hz z n (by omega) (by omega) σx σm g Gx Gm kk
        | 15, ho1, hx1 => (replace ho1 : off = 807 := by simp at ho1; omega); (obtain rfl : tg = 871 := by omega); exact lc_map hl0 Zx Zm tx Y B hz z n (by omega) (by omega) σx σm g Gx Gm kk
        | 16, ho1, hx1 => (replace ho1 : off = 876 := by simp at ho1; omega); (obtain rfl : tg = 940 := by omega); exact lc_encrypt hl0 Zx Zm tx Y B hz z n (by omega) (by omega) σx σm g Gx Gm kk
        | 17, ho1, hx1 => (replace ho1 : off = 901 := by simp at ho1; omega); (obtain rfl : tg = 965 := by omega); exact lc_pair hl0 Zx Zm tx Y B hz z n (by omega) (by omega) σx σm g Gx Gm kk
        | 18, ho1, hx1 => (replace ho1 : off = 938 := by simp at ho1; omega); (obtain rfl : tg = 1002 := by omega); exact lc_allow hl0 Zx Zm tx Y B hz z n (by omega) (by omega) σx σm g Gx Gm kk
        | 19, ho1, hx1 => (replace ho1 : off = 975 := by simp at ho1; omega); (obtain rfl : tg = 1039 := by omega); exact lc_features hl0 Zx Zm tx Y B hz z n (by omega) (by omega) σx σm g Gx Gm kk
        | 20, ho1, hx1 => (replace ho1 : off = 1044 := by simp at ho1; omega); (obtain rfl : tg = 1108 := by omega); exact lc_attribute hl0 Zx Zm tx Y B hz z n (by omega) (by omega) σx σm g Gx Gm kk
        | 21, ho1, hx1 => (replace ho1 : off = 1093 := by simp at ho1; omega); (obtain rfl : tg = 1157 := by omega); exact lc_set hl0 Zx Zm tx Y B hz z n (by omega) (by omega) σx σm g Gx Gm kk
        | 22, ho1, hx1 => (replace ho1 : off = 1130 := by simp at ho1; omega); (obtain rfl : tg = 1194 := by omega); exact lc_value hl0 Zx Zm tx Y B hz z n (by omega) (by omega) σx σm g Gx Gm kk
        | 23, ho1, hx1 => (replace ho1 : off = 1182 := by simp at ho1; omega); (obtain rfl : tg = 1246 := by omega); exact lc_mtu hl0 Zx Zm tx Y B hz z n (by omega) (by omega) σx σm g Gx Gm kk
        | 24, ho1, hx1 => (replace ho1 : off = 1219 := by simp at ho1; omega); (obtain rfl : tg = 1283 := by omega); exact lc_job hl0 Zx Zm tx Y B hz z n (by omega) (by omega) σx σm g Gx Gm kk
        | 25, ho1, hx1 => (replace ho1 : off = 1280 := by simp at ho1; omega); (obtain rfl : tg = 1344 := by omega); exact lc_send hl0 Zx Zm tx Y B hz z n (by omega) (by omega) σx σm g Gx Gm kk
        | 26, ho1, hx1 => (replace ho1 : off = 1329 := by simp at ho1; omega); (obtain rfl : tg = 1393 := by omega); exact lc_completion hl0 Zx Zm tx Y B hz z n (by omega) (by omega) σx σm g Gx Gm kk
        | 27, ho1, hx1 => (replace ho1 : off = 1366 := by simp at ho1; omega); (obtain rfl : tg = 1430 := by omega); exact lc_take hl0 Zx Zm tx Y B hz z n (by omega) (by omega) σx σm g Gx Gm kk
        | i + 28, ho1, hx1 => exact absurd (ho1.symm.trans (Array.getElem?_eq_none (by simp))) (by simp)
      · intro hx1
        refine v_widen (k := 2000 + (n + 1)) (n := 40000 + 6 * (n + 1)) (by show _ ≤ _; dsimp only; omega) (by show _ ≤ _; dsimp only; omega) ?_
        exact kk σx σm g Gx Gm
