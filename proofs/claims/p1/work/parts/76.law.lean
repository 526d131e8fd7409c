/-! THE CLAIM OUT OF ONE WALK OF THE LAW'S BODY. Your part is whole_start (and what it stands on); all else here is the same for every law, but numbers. -/
def R_law : String := "LowEnergyLaw"
def lw_P (b : Addr) (xs : List Int32) (args : Array Value) (s : State) : Prop := args = #[.ref b] ∧ s.IntsAt b xs ∧ xs.length ≤ 11 ∧ (Jvm.Cond.and given_1 narrow_1).before args s = true
def lw_Q (_ : Array Value) (s : State) (o : Outcome) (t : State) : Prop := o = .returned (some (.int 1)) ∧ Framed s o t [] 600002 7302198
def lw_Z (below : List Frame) (a : Array Value) (s : State) : State → Prop := fun t => ∃ o, t.status = .running ∧ Ended t below o ∧ lw_Q a s o t
/-- the law's own end, with 1 on the stack, nothing written that was there before, its room as the claim has it -/
theorem lw_ret {p : Program} {l : Launch} {e : Env} {s : State} {m : MethodId} {below : List Frame} {meth : Method} {c : Code} {b : Nat} (hx : p.tables.exec = Jvm.exec) (hb : c.code = code) (hr : meth.sig.returnType = ret) (hlocks : meth.locks = false) {pc : Nat} {H : Heap} {ls : Array Slot} (hdg : decode code pc = .ok (.ireturn, 1)) : W p l e room_1 s m #[Value.ref b] below meth c H [] 600002 7302198 (lw_Z below #[Value.ref b] s) (F0 m pc ls [.int 1]) := by
  intro T hT X
  obtain ⟨fs, hret, hrun, hended, hW, hframe⟩ := X.leave (v := some (.int 1)) (hlocks := hlocks) (fun h => by rw [hr] at h; cases h)
  have hmeth' : T.vm.method? m = some meth := X.method'
  refine ⟨T.setFrames fs, ?_, .returned (some (.int 1)), hrun, hended, rfl, ⟨_, rfl⟩, hW, hframe⟩
  jvm_step X.here [X.here.top, hx, hb, hdg, hmeth', hr, ret, narrow_b1]
  (try refine ⟨rfl, ?_⟩); (try refine ⟨rfl, ?_⟩)
  first | (intro acts; rw [hret _ acts rfl rfl rfl]) | rw [hret _ _ rfl rfl rfl]
  exact Steps.refl _
/-- what holds at the law's entry: the machine, the code, the tables' words (any of lw_tbl by 'hts w (by decide +kernel)'), the script of L ints xs at the cell b, what the Statement gives of the start (any of its parts by flat_of_before) -/
def lw_At (p : Program) (s : State) (m : MethodId) (meth : Method) (c : Code) (b L : Nat) (xs : Nat → Int32) : Prop :=
  p.tables.exec = Jvm.exec ∧ c.code = code ∧ meth.sig.returnType = ret ∧ c.maxLocals = 7 ∧ s.vm.findClass R_law = some m.cls ∧ (∀ w ∈ lw_tbl, w.before #[Value.ref b] s = true) ∧ va_X b L xs s s.heap ∧ b < s.heap.size ∧ meth.locks = false ∧ (Jvm.Cond.and given_1 narrow_1).before #[Value.ref b] s = true
section VL
variable {p : Program} {l : Launch} {e : Env} {R : Room} {s : State} {m : MethodId} {args : Array Value} {below : List Frame} {meth : Method} {c : Code} {cc : ByteArray} {nL : Nat} {own : String} {Ts : List Cond} {D : va_G} {tys : List (ClassId × FieldType)} {A : Nat → Prop} {Q : State → Prop} {cs : Nat × Nat} {w : va_W} {lv : List (Nat × Value)} {pc : Nat} {st : List Value}
variable {b L : Nat} {xs : Nat → Int32} {sa : Nat → Nat}
theorem v_slenV (B : Bx p s m args c cc nL own Ts D tys A) (hz : ZL b L xs sa A s s.heap) {v : Int32} (hv : Int32.ofNat L = v) (hd : decode cc pc = .ok (.arraylength, 1)) (kk : V p l e R s m args below meth c nL D A Q cs w lv (pc + 1) (.int v :: st)) : V p l e R s m args below meth c nL D A Q cs w lv pc (.ref b :: st) := by
  subst hv
  exact v_slen B hz hd kk
end VL
theorem lt11 : ∀ L, L < 11 → Int32.ofNat L - 9 < 2 := by decide +kernel
theorem c32 : ∀ k, k < 32 → k = 0 ∨ k = 1 ∨ k = 2 ∨ k = 3 ∨ k = 4 ∨ k = 5 ∨ k = 6 ∨ k = 7 ∨ k = 8 ∨ k = 9 ∨ k = 10 ∨ k = 11 ∨ k = 12 ∨ k = 13 ∨ k = 14 ∨ k = 15 ∨ k = 16 ∨ k = 17 ∨ k = 18 ∨ k = 19 ∨ k = 20 ∨ k = 21 ∨ k = 22 ∨ k = 23 ∨ k = 24 ∨ k = 25 ∨ k = 26 ∨ k = 27 ∨ k = 28 ∨ k = 29 ∨ k = 30 ∨ k = 31 := by decide +kernel
theorem and31 (v : Int32) : ∃ k : Nat, k < 32 ∧ v &&& 31 = Int32.ofNat k := by
  refine ⟨v.toBitVec.toNat % 32, Nat.mod_lt _ (by decide), ?_⟩
  apply Int32.toBitVec_inj.mp
  rw [Int32.toBitVec_and]
  apply BitVec.eq_of_toNat_eq
  rw [BitVec.toNat_and]
  have e1 : (31 : Int32).toBitVec.toNat = 2 ^ 5 - 1 := by decide +kernel
  rw [e1, Nat.and_two_pow_sub_one_eq_mod]
  have h : v.toBitVec.toNat % 2 ^ 5 < 32 := Nat.mod_lt _ (by decide)
  show v.toBitVec.toNat % 2 ^ 5 = (BitVec.ofNat 32 (v.toBitVec.toNat % 2 ^ 5)).toNat
  rw [BitVec.toNat_ofNat]
  omega
theorem tick_split (n : Int32) : (n < 1 ∨ 1000 < n) ∨ ∃ N : Nat, 1 ≤ N ∧ N ≤ 1000 ∧ n = nI N := by
  by_cases h1 : n < 1
  · exact Or.inl (Or.inl h1)
  · by_cases h2 : 1000 < n
    · exact Or.inl (Or.inr h2)
    · right
      rw [Int32.lt_iff_toInt_lt] at h1 h2
      have e1 : (1 : Int32).toInt = 1 := by decide +kernel
      have e2 : (1000 : Int32).toInt = 1000 := by decide +kernel
      rw [e1] at h1
      rw [e2] at h2
      refine ⟨n.toInt.toNat, by omega, by omega, ?_⟩
      apply Int32.toInt_inj.mp
      show n.toInt = (Int32.ofNat n.toInt.toNat).toInt
      rw [Int32.toInt_ofNat_of_lt (by omega)]
      omega
/-- the law's own end -/
theorem v_lawret {p : Program} {l : Launch} {e : Env} {s : State} {m : MethodId} {below : List Frame} {meth : Method} {c : Code} {D : va_G} {tys : List (ClassId × FieldType)} {A : Nat → Prop} {zb : Nat} {cs : Nat × Nat} {w : va_W} {lv : List (Nat × Value)} {pc : Nat} (B : Bx p s m #[.ref zb] c cL_law 7 RL lw_tbl D tys A) (hA : ∀ q : Nat, A q → s.heap.size ≤ q) (hr : meth.sig.returnType = ret) (hlk : meth.locks = false) (hd : decode cL_law pc = .ok (.ireturn, 1)) (h1 : cs.1 ≤ 600002) (h2 : cs.2 ≤ 7302198) : V p l e room_1 s m #[.ref zb] below meth c 7 D A (lw_Z below #[Value.ref zb] s) cs w lv pc [.int 1] :=
  fun H locs ls hP hD hS hl => W.widen h1 h2 (va_forget (fun q hq => hA _ (hS.2.2 q hq)) (lw_ret B.1 B.2.1 hr hlk hd))
def WXM (K : Nat → ClassId) (hx : Nat) (xa : Nat → Nat) (xf xg : Nat → Option Nat) (fa sa : Int64) (hm : Nat) (q : Nat → Nat) (ho : Nat) : va_W := [(hx, .inr (11, [.ref (xa 0), .ref (xa 1), .ref (xa 2), .ref (xa 3), .int 0])), ((xa 0), .inl (K 5, 2, .inr (.inr (.inr (.inr (va_up (va_up (fun _ => none) (0 : Int32).toNatClampNeg (some (xa 4))) (1 : Int32).toNatClampNeg (some (xa 5)))))))), ((xa 1), .inr (0, [.ref (xa 6), .ref (xa 7), .ref (xa 8), .ref (xa 9), .ref (xa 10), .ref (xa 11), .ref (xa 12), .int 0, .int 0, .int 0])), ((xa 8), .inl (K 6, 2, .inr (.inr (.inr (.inr (va_up (va_up (fun _ => none) 0 (some (xa 13))) 1 (some (xa 14)))))))), ((xa 13), .inl (K 0, 64, .inl (fun _ => 0))), ((xa 14), .inl (K 0, 64, .inl (fun _ => 0))), ((xa 9), .inl (K 0, 2, .inl (fun _ => 0))), ((xa 10), .inl (K 0, 2, .inl (fun _ => 0))), ((xa 2), .inr (9, [.ref (xa 15), .int 0])), ((xa 15), .inl (K 0, 100, .inl (fun _ => 0))), ((xa 4), .inr (3, [.int 0, .long (fa &&& 281474976710655), .int 0, .int 0, .int 0, .int 0, .ref (xa 16), .int 0, .long 0, .ref (xa 17), .long 0, .ref (xa 18), .ref (xa 19), .ref (xa 20), .ref (xa 21), .ref (xa 22), .ref (xa 23), .ref (xa 24), .ref (xa 25)])), ((xa 16), .inr (9, [.ref (xa 26), .int 0])), ((xa 17), .inr (9, [.ref (xa 27), .int 0])), ((xa 18), .inr (6, [.int 0, .int 0, .int 0, .int 0, .int 0, .long 0, .long 0, .int 0, .int 0, .int 0, .int 0, .int 0, .int (-1), .int 0, .int 0, .int 0, .int 0, .int (-1), .int (-1), .long 0])), ((xa 19), .inr (7, [.ref (xa 28), .int 0, .int 0, .ref (xa 29), .int 0, .int 0, .int 0, .ref (xa 30), .int 0, .int 0, .int 0, .ref (xa 31), .int 0, .ref (xa 32), .int 0, .ref (xa 33)])), ((xa 28), .inr (9, [.ref (xa 34), .int 0])), ((xa 20), .inr (5, [.ref (xa 35), .ref (xa 36), .int 0, .ref (xa 37), .ref (xa 38), .ref (xa 39), .int 0, .int 0, .int 0, .int 0, .int 0, .int 0, .int 0, .int 0, .ref (xa 40), .ref (xa 41)])), ((xa 21), .inr (8, [.ref (xa 35), .int (-1), .int 0, .ref (xa 42), .ref (xa 43), .ref (xa 44), .ref (xa 45), .ref (xa 46)])), ((xa 22), .inr (10, [.ref (xa 47), .ref (xa 48), .ref (xa 49), .int 0, .int 23, .int 23, .ref (xa 50), .int 0, .int 0, .ref (xa 51)])), ((xa 47), .inl (K 0, 20, .inl (fun _ => 0))), ((xa 48), .inl (K 0, 20, .inl (fun _ => 0))), ((xa 49), .inl (K 4, 20, .inr (.inr (.inr (.inr (va_up xf (0 : Int32).toNatClampNeg (some (xa 52)))))))), ((xa 52), .inr (9, [.ref (xa 53), .int 0])), ((xa 23), .inr (2, [.int (-1), .int 0, .int 0, .int 0, .int 0, .ref (xa 54)])), ((xa 24), .inr (4, [.ref (xa 55), .ref (xa 56), .ref (xa 57), .int 0, .int 0, .int 0])), ((xa 5), .inr (3, [.int 1, .long (sa &&& 281474976710655), .int 0, .int 1, .int 0, .int 0, .ref (xa 58), .int 0, .long 0, .ref (xa 59), .long 0, .ref (xa 60), .ref (xa 61), .ref (xa 62), .ref (xa 63), .ref (xa 64), .ref (xa 65), .ref (xa 66), .ref (xa 67)])), ((xa 58), .inr (9, [.ref (xa 68), .int 0])), ((xa 59), .inr (9, [.ref (xa 69), .int 0])), ((xa 60), .inr (6, [.int 0, .int 0, .int 0, .int 0, .int 0, .long 0, .long 0, .int 0, .int 0, .int 0, .int 0, .int 0, .int (-1), .int 0, .int 0, .int 0, .int 0, .int (-1), .int (-1), .long 0])), ((xa 61), .inr (7, [.ref (xa 70), .int 0, .int 0, .ref (xa 71), .int 0, .int 0, .int 0, .ref (xa 72), .int 0, .int 0, .int 0, .ref (xa 73), .int 0, .ref (xa 74), .int 0, .ref (xa 75)])), ((xa 70), .inr (9, [.ref (xa 76), .int 0])), ((xa 62), .inr (5, [.ref (xa 35), .ref (xa 77), .int 0, .ref (xa 78), .ref (xa 79), .ref (xa 80), .int 0, .int 0, .int 0, .int 0, .int 0, .int 0, .int 0, .int 0, .ref (xa 81), .ref (xa 82)])), ((xa 63), .inr (8, [.ref (xa 35), .int (-1), .int 0, .ref (xa 83), .ref (xa 84), .ref (xa 85), .ref (xa 86), .ref (xa 87)])), ((xa 64), .inr (10, [.ref (xa 88), .ref (xa 89), .ref (xa 90), .int 0, .int 23, .int 23, .ref (xa 91), .int 0, .int 0, .ref (xa 92)])), ((xa 88), .inl (K 0, 20, .inl (fun _ => 0))), ((xa 89), .inl (K 0, 20, .inl (fun _ => 0))), ((xa 90), .inl (K 4, 20, .inr (.inr (.inr (.inr (va_up xg (0 : Int32).toNatClampNeg (some (xa 93)))))))), ((xa 93), .inr (9, [.ref (xa 94), .int 0])), ((xa 65), .inr (2, [.int (-1), .int 0, .int 0, .int 0, .int 0, .ref (xa 95)])), ((xa 66), .inr (4, [.ref (xa 96), .ref (xa 97), .ref (xa 98), .int 0, .int 0, .int 0])), (hm, .inr (12, fsM q 0 0 0 0 0)), ((q 7), .inl (K 0, 2, .inl (gl [0, 0]))), ((q 8), .inl (K 0, 2, .inl (gl [0, 1]))), ((q 1), .inl (K 2, 100, .inl (fun _ => 0))), ((q 9), .inl (K 0, 2, .inl (gl [0, 0]))), ((q 10), .inl (K 0, 2, .inl (gl [0, 0]))), ((q 11), .inl (K 0, 2, .inl (gl [0, 0]))), ((q 12), .inl (K 1, 2, .inr (.inl (glL [(fa &&& 281474976710655), (sa &&& 281474976710655)])))), ((q 14), .inl (K 1, 2, .inr (.inl (glL [0, 0])))), ((q 15), .inl (K 1, 2, .inr (.inl (glL [0, 0])))), ((q 17), .inl (K 1, 2, .inr (.inl (glL [0, 0])))), ((q 18), .inl (K 1, 2, .inr (.inl (glL [0, 0])))), ((q 21), .inl (K 0, 2, .inl (gl [0, 0]))), ((q 22), .inl (K 0, 2, .inl (gl [0, 0]))), ((q 23), .inl (K 0, 2, .inl (gl [0, 0]))), ((q 24), .inl (K 0, 2, .inl (gl [0, 0]))), ((q 25), .inl (K 0, 128, .inl (fun _ => 0))), ((q 26), .inl (K 0, 2, .inl (gl [0, 0]))), ((q 27), .inl (K 0, 2, .inl (gl [0, 0]))), ((q 31), .inl (K 0, 2, .inl (gl [(-1), (-1)]))), ((q 36), .inl (K 0, 2, .inl (gl [(-1), (-1)]))), ((q 37), .inl (K 0, 2, .inl (gl [(-1), (-1)]))), ((q 40), .inl (K 3, 2, .inl (gl [0, 0]))), ((q 41), .inl (K 3, 2, .inl (gl [0, 0]))), ((q 42), .inl (K 3, 2, .inl (gl [0, 0]))), ((q 45), .inl (K 0, 2, .inl (gl [0, 0]))), ((q 46), .inl (K 0, 2, .inl (gl [0, 0]))), ((q 54), .inl (K 0, 2, .inl (gl [0, 0]))), ((q 55), .inl (K 0, 2, .inl (gl [0, 0]))), ((q 56), .inl (K 0, 2, .inl (gl [0, 0]))), ((q 57), .inl (K 0, 2, .inl (gl [0, 0]))), ((q 58), .inl (K 0, 2, .inl (gl [0, 0]))), ((q 59), .inl (K 0, 2, .inl (gl [0, 0]))), ((q 68), .inl (K 3, 2, .inl (gl [0, 0]))), ((q 69), .inl (K 3, 2, .inl (gl [0, 0]))), ((q 70), .inl (K 3, 2, .inl (gl [0, 0]))), ((q 71), .inl (K 3, 2, .inl (gl [0, 0]))), ((q 72), .inl (K 3, 2, .inl (gl [0, 0]))), ((q 73), .inl (K 3, 2, .inl (gl [0, 0]))), ((q 74), .inl (K 3, 2, .inl (gl [0, 0]))), ((q 75), .inl (K 3, 2, .inl (gl [0, 0]))), ((q 76), .inl (K 3, 2, .inl (gl [0, 0]))), ((q 85), .inl (K 0, 2, .inl (gl [0, 0]))), ((q 86), .inl (K 0, 2, .inl (gl [0, 0]))), ((q 89), .inl (K 3, 2, .inl (gl [0, 0]))), ((q 92), .inl (K 0, 2, .inl (gl [0, 0]))), ((q 93), .inl (K 0, 2, .inl (gl [(-1), (-1)]))), ((q 100), .inl (K 0, 2, .inl (gl [0, 0]))), ((q 101), .inl (K 0, 40, .inl (fun _ => 0))), ((q 102), .inl (K 0, 40, .inl (fun _ => 0))), ((q 103), .inl (K 0, 40, .inl (fun _ => 0))), ((q 104), .inl (K 0, 2, .inl (gl [23, 23]))), ((q 105), .inl (K 0, 2, .inl (gl [23, 23]))), ((q 106), .inl (K 0, 2, .inl (gl [0, 0]))), ((q 114), .inl (K 3, 2, .inl (gl [0, 0]))), ((q 116), .inl (K 0, 2, .inl (gl [(-1), (-1)]))), (ho, .inl (K 1, 1, .inr (.inl (fun _ => 0))))]
set_option maxRecDepth 100000 in
theorem law_end {p : Program} {l : Launch} {e : Env} {s : State} {m : MethodId} {below : List Frame} {meth : Method} {c : Code} {D : va_G} {A : Nat → Prop} {zb : Nat} {zx : Nat → Int32} {zs : Nat → Nat} {K : Nat → ClassId} (B : Bx p s m #[.ref zb] c cL_law 7 RL lw_tbl D (tysA K) A) (hz : ZL zb 11 zx zs A s s.heap) (hA : ∀ q : Nat, A q → s.heap.size ≤ q) (hr : meth.sig.returnType = ret) (hlk : meth.locks = false) : V p l e room_1 s m #[.ref zb] below meth c 7 D A (lw_Z below #[Value.ref zb] s) (600002, 7302198) [] [(4, .int 2), (0, .ref zb)] 1540 [] := by
  refine v_iinc B (k := 0) (v := 11) (lv' := [(4, .int 11), (0, .ref zb)]) dL_law_1540 rfl (by decide +kernel) (by decide +kernel) rfl ?_
  refine v_goto B (tgt := 47) dL_law_1543 (by decide +kernel) ?_
  refine v_iload B dL_law_47 rfl ?_
  refine v_aload_n B dL_law_49 rfl rfl ?_
  refine v_slenV B hz (v := 11) (by decide +kernel) dL_law_50 ?_
  refine v_bipush B (v := 9) dL_law_51 (by decide +kernel) ?_
  refine v_isub B (v := 2) dL_law_53 (by decide +kernel) ?_
  refine v_icmp_gt B (tgt := 1546) dL_law_54 (by decide +kernel) (fun _ => ?_) (fun h => absurd (by decide +kernel) h)
  refine v_iconst B (v := 1) dL_law_1546 (by decide +kernel) ?_
  exact v_lawret B hA hr hlk dL_law_1547 (by decide +kernel) (by decide +kernel)
