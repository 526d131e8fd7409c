theorem vpi {i : Int32} {n : Nat} (h : (decide (i < 0) || decide (n ≤ i.toNatClampNeg)) = false) : vp_in i n := by
  intro hc
  rcases hc with h1 | h1 <;> simp [h1] at h
section VM
variable {p : Program} {l : Launch} {e : Env} {R : Room} {s : State} {m : MethodId} {args : Array Value} {below : List Frame} {meth : Method} {c : Code} {cc : ByteArray} {nL : Nat} {own : String} {Ts : List Cond} {D : va_G} {tys : List (ClassId × FieldType)} {A : Nat → Prop} {Q : State → Prop} {cs : Nat × Nat} {w : va_W} {lv : List (Nat × Value)} {pc : Nat} {st : List Value}
/-- new int[n][k] -/
theorem v_mna (B : Bx p s m args c cc nL own Ts D tys A) {index : Nat} {n k : Int32} {N' K' : Nat} {z : vp_A} {t0 t1 : Nat} {cA cI : ClassId} (hlk : Cond.classLink own index ("[" ++ (FieldType.array .int).toString) ∈ Ts) (harr : Cond.arrayClass .int ∈ Ts) (ht0 : tys[t0]? = some (cI, .int)) (ht1 : tys[t1]? = some (cA, .array .int)) (hn : ¬ n < 0) (hk : ¬ k < 0) (hN : n.toNatClampNeg = N') (hM : k.toNatClampNeg = K') (hb1 : N' * 4 ≤ 536870912) (hb2 : K' * componentBytes .int ≤ 536870912) (hb3 : K' ≤ 536870912) (hcl : cs.1 + (1 + N') ≤ R.cells) (hsl : cs.2 + (N' + N' * K') ≤ R.slots) (hz : ∀ c : ClassId, Jvm.Free.Multi.innerC c K' (defaultValue .int) = vp_cell c z) (hd : decode cc pc = .ok (.multianewarray index 2, 4)) (kk : ∀ (q : Nat) (r : Nat → Nat), (∀ i j : Nat, i < N' → j < N' → r i = r j → i = j) → V p l e R s m args below meth c nL D A Q (cs.1 + 1 + N', cs.2 + N' + N' * K') ((w ++ [(q, .inl (cA, N', .inr (.inr (.inr (.inr (fun i => if i < N' then some (r i) else none))))))]) ++ ((List.range N').map r).map (fun a => (a, .inl (cI, z)))) lv (pc + 4) (.ref q :: st)) : V p l e R s m args below meth c nL D A Q cs w lv pc (.int k :: .int n :: st) := by
  intro H locs ls hP hD hS hl
  have hK := B.2.2.2.2.2.1.1
  have hP0 : va_P D vwCl (w ++ va_pl [] (fun _ => .inl (cI, z))) H := by
    show va_P D vwCl (w ++ []) H
    rw [List.append_nil]
    exact hP
  have hD0 : va_D A (w ++ va_pl [] (fun _ => .inl (cI, z))) := by
    show va_D A (w ++ [])
    rw [List.append_nil]
    exact hD
  refine va_mna (X := w) (L := []) (f := fun _ => .inl (cI, z)) B.1 B.2.1 B.2.2.2.1 (B.2.2.2.2.1 _ hlk) B.2.2.2.2.2.1.2.2.2.2 (B.2.2.2.2.1 _ harr) (hK.2 t0 _ ht0).2 hK hP0 hD0 hS B.2.2.2.2.2.2 hn hk hN hM hb1 hb2 hb3 rfl rfl hcl hsl hz hd (fun q r cA' H1 hr _ hK1 a1 a2 a3 => ?_)
  have e1 : va_RA s cA' (.array .int) := (hK1.2 tys.length (cA', .array .int) (by simp)).2
  have e2 : va_RA s cA (.array .int) := (hK.2 t1 _ ht1).2
  have e3 : cA' = cA := Option.some.inj (e1.symm.trans e2)
  subst e3
  have e : va_pl ([] ++ (List.range N').map r) (vr_up (fun _ => .inl (cI, z)) ((List.range N').map r) (.inl (cI, z))) = ((List.range N').map r).map (fun a => (a, .inl (cI, z))) := by
    unfold va_pl
    rw [List.nil_append]
    apply List.map_congr_left
    intro a ha
    rw [vr_up_in ha]
  rw [e] at a1 a2
  exact kk q r hr H1 locs ls a1 a2 a3 hl
/-- new int[2][k]: the two rows by name -/
theorem v_mna2 (B : Bx p s m args c cc nL own Ts D tys A) {index : Nat} {n k : Int32} {K' : Nat} {z : vp_A} {t0 t1 : Nat} {cA cI : ClassId} (hlk : Cond.classLink own index ("[" ++ (FieldType.array .int).toString) ∈ Ts) (harr : Cond.arrayClass .int ∈ Ts) (ht0 : tys[t0]? = some (cI, .int)) (ht1 : tys[t1]? = some (cA, .array .int)) (hn : n = 2) (hk : ¬ k < 0) (hM : k.toNatClampNeg = K') (hb2 : K' * componentBytes .int ≤ 536870912) (hb3 : K' ≤ 536870912) (hcl : cs.1 + (1 + 2) ≤ R.cells) (hsl : cs.2 + (2 + 2 * K') ≤ R.slots) (hz : ∀ c : ClassId, Jvm.Free.Multi.innerC c K' (defaultValue .int) = vp_cell c z) (hd : decode cc pc = .ok (.multianewarray index 2, 4)) (kk : ∀ (q r0 r1 : Nat), V p l e R s m args below meth c nL D A Q (cs.1 + 1 + 2, cs.2 + 2 + 2 * K') (w ++ [(q, .inl (cA, 2, .inr (.inr (.inr (.inr (va_up (va_up (fun _ => none) 0 (some r0)) 1 (some r1))))))), (r0, .inl (cI, z)), (r1, .inl (cI, z))]) lv (pc + 4) (.ref q :: st)) : V p l e R s m args below meth c nL D A Q cs w lv pc (.int k :: .int n :: st) := by
  subst hn
  refine v_mna B (N' := 2) (K' := K') (z := z) hlk harr ht0 ht1 (by decide) hk (by decide) hM (by decide) hb2 hb3 hcl hsl hz hd (fun q r hr => ?_)
  have e : (fun i : Nat => if i < 2 then some (r i) else none) = va_up (va_up (fun _ => none) 0 (some (r 0))) 1 (some (r 1)) := by
    funext i
    unfold va_up
    match i with
    | 0 => simp
    | 1 => simp
    | i + 2 => simp
  rw [e]
  have h := kk q (r 0) (r 1)
  rw [List.append_assoc]
  exact h
end VM
