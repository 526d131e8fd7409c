def tset (τ : Nat → Option Ty) (h : Nat) (t : Ty) : Nat → Option Ty := fun a => if a = h then some t else τ a
theorem tset_s {τ : Nat → Option Ty} {h : Nat} {t : Ty} : tset τ h t h = some t := if_pos rfl
theorem tset_n {τ : Nat → Option Ty} {h a : Nat} {t : Ty} (hn : a ≠ h) : tset τ h t a = τ a := if_neg hn
def Sub (τ τ' : Nat → Option Ty) : Prop := ∀ (a : Nat) (u : Ty), τ a = some u → τ' a = some u
theorem Sub.rf {τ : Nat → Option Ty} : Sub τ τ := fun _ _ h => h
theorem Sub.tr {τ τ' τ'' : Nat → Option Ty} (h : Sub τ τ') (h' : Sub τ' τ'') : Sub τ τ'' := fun a u q => h' a u (h a u q)
theorem okRow_mono {τ τ' : Nat → Option Ty} {ρ : Nat} {e : va_E} (hs : Sub τ τ') (h : okRow τ ρ e) : okRow τ' ρ e := by
  obtain ⟨b, N, n, e1, e2, r⟩ := h
  exact ⟨b, N, n, e1, hs _ _ e2, r⟩
theorem okRA_mono {K : Nat → ClassId} {τ τ' : Nat → Option Ty} {ρ N : Nat} {e : va_E} (hs : Sub τ τ') (h : okRA K τ ρ N e) : okRA K τ' ρ N e := by
  obtain ⟨f, e1, e2⟩ := h
  exact ⟨f, e1, fun i hi => by
    obtain ⟨a, q1, q2⟩ := e2 i hi
    exact ⟨a, q1, hs _ _ q2⟩⟩
theorem okII_mono {K : Nat → ClassId} {τ τ' : Nat → Option Ty} {N : Nat} {e : va_E} (hs : Sub τ τ') (h : okII K τ N e) : okII K τ' N e := by
  obtain ⟨f, e1, e2⟩ := h
  exact ⟨f, e1, fun i hi => by
    obtain ⟨a, q1, q2⟩ := e2 i hi
    exact ⟨a, q1, hs _ _ q2⟩⟩
theorem okIJ_mono {K : Nat → ClassId} {τ τ' : Nat → Option Ty} {N : Nat} {e : va_E} (hs : Sub τ τ') (h : okIJ K τ N e) : okIJ K τ' N e := by
  obtain ⟨f, e1, e2⟩ := h
  exact ⟨f, e1, fun i hi => by
    obtain ⟨a, q1, q2⟩ := e2 i hi
    exact ⟨a, q1, hs _ _ q2⟩⟩
theorem okDV_mono {K : Nat → ClassId} {τ τ' : Nat → Option Ty} {N : Nat} {e : va_E} (hs : Sub τ τ') (h : okDV K τ N e) : okDV K τ' N e := by
  obtain ⟨f, e1, e2⟩ := h
  exact ⟨f, e1, fun i hi => by
    obtain ⟨a, q1, q2⟩ := e2 i hi
    exact ⟨a, q1, hs _ _ q2⟩⟩
theorem okAir_mono {τ τ' : Nat → Option Ty} {e : va_E} (hs : Sub τ τ') (h : okAir τ e) : okAir τ' e := by
  obtain ⟨x0, x1, x2, x3, x4, x5, x6, x7, x8, x9, e1, p0, p1, p2, p3, p4, p5, p6, p7, p8, p9⟩ := h
  exact ⟨x0, x1, x2, x3, x4, x5, x6, x7, x8, x9, e1, hs _ _ p0, hs _ _ p1, hs _ _ p2, hs _ _ p3, hs _ _ p4, hs _ _ p5, hs _ _ p6, p7, p8, p9⟩
theorem okCipher_mono {τ τ' : Nat → Option Ty} {e : va_E} (hs : Sub τ τ') (h : okCipher τ e) : okCipher τ' e := by
  obtain ⟨x0, x1, e1, p0, p1⟩ := h
  exact ⟨x0, x1, e1, hs _ _ p0, hs _ _ p1⟩
theorem okClient_mono {τ τ' : Nat → Option Ty} {e : va_E} (hs : Sub τ τ') (h : okClient τ e) : okClient τ' e := by
  obtain ⟨x0, x1, x2, x3, x4, x5, e1, p0, p1, p2, p3, p4, p5⟩ := h
  exact ⟨x0, x1, x2, x3, x4, x5, e1, p0, p1, p2, p3, p4, hs _ _ p5⟩
theorem okDevice_mono {τ τ' : Nat → Option Ty} {e : va_E} (hs : Sub τ τ') (h : okDevice τ e) : okDevice τ' e := by
  obtain ⟨x0, x1, x2, x3, x4, x5, x6, x7, x8, x9, x10, x11, x12, x13, x14, x15, x16, x17, x18, e1, p0, p1, p2, p3, p4, p5, p6, p7, p8, p9, p10, p11, p12, p13, p14, p15, p16, p17, p18⟩ := h
  exact ⟨x0, x1, x2, x3, x4, x5, x6, x7, x8, x9, x10, x11, x12, x13, x14, x15, x16, x17, x18, e1, p0, p1, p2, p3, p4, p5, hs _ _ p6, p7, p8, hs _ _ p9, p10, hs _ _ p11, hs _ _ p12, hs _ _ p13, hs _ _ p14, hs _ _ p15, hs _ _ p16, hs _ _ p17, hs _ _ p18⟩
theorem okDiary_mono {τ τ' : Nat → Option Ty} {e : va_E} (hs : Sub τ τ') (h : okDiary τ e) : okDiary τ' e := by
  obtain ⟨x0, x1, x2, x3, x4, x5, e1, p0, p1, p2, p3, p4, p5⟩ := h
  exact ⟨x0, x1, x2, x3, x4, x5, e1, hs _ _ p0, hs _ _ p1, hs _ _ p2, p3, p4, p5⟩
theorem okGuard_mono {τ τ' : Nat → Option Ty} {e : va_E} (hs : Sub τ τ') (h : okGuard τ e) : okGuard τ' e := by
  obtain ⟨x0, x1, x2, x3, x4, x5, x6, x7, x8, x9, x10, x11, x12, x13, x14, x15, e1, p0, p1, p2, p3, p4, p5, p6, p7, p8, p9, p10, p11, p12, p13, p14, p15⟩ := h
  exact ⟨x0, x1, x2, x3, x4, x5, x6, x7, x8, x9, x10, x11, x12, x13, x14, x15, e1, hs _ _ p0, hs _ _ p1, p2, hs _ _ p3, hs _ _ p4, hs _ _ p5, p6, p7, p8, p9, p10, p11, p12, p13, hs _ _ p14, hs _ _ p15⟩
theorem okLink_mono {τ τ' : Nat → Option Ty} {e : va_E} (hs : Sub τ τ') (h : okLink τ e) : okLink τ' e := by
  obtain ⟨x0, x1, x2, x3, x4, x5, x6, x7, x8, x9, x10, x11, x12, x13, x14, x15, x16, x17, x18, x19, e1, p0, p1, p2, p3, p4, p5, p6, p7, p8, p9, p10, p11, p12, p13, p14, p15, p16, p17, p18, p19⟩ := h
  exact ⟨x0, x1, x2, x3, x4, x5, x6, x7, x8, x9, x10, x11, x12, x13, x14, x15, x16, x17, x18, x19, e1, p0, p1, p2, p3, p4, p5, p6, p7, p8, p9, p10, p11, p12, p13, p14, p15, p16, p17, p18, p19⟩
theorem okMail_mono {τ τ' : Nat → Option Ty} {e : va_E} (hs : Sub τ τ') (h : okMail τ e) : okMail τ' e := by
  obtain ⟨x0, x1, x2, x3, x4, x5, x6, x7, x8, x9, x10, x11, x12, x13, x14, x15, e1, p0, p1, p2, p3, p4, p5, p6, p7, p8, p9, p10, p11, p12, p13, p14, p15⟩ := h
  exact ⟨x0, x1, x2, x3, x4, x5, x6, x7, x8, x9, x10, x11, x12, x13, x14, x15, e1, hs _ _ p0, p1, p2, hs _ _ p3, p4, p5, p6, hs _ _ p7, p8, p9, p10, hs _ _ p11, p12, hs _ _ p13, p14, hs _ _ p15⟩
theorem okPairing_mono {τ τ' : Nat → Option Ty} {e : va_E} (hs : Sub τ τ') (h : okPairing τ e) : okPairing τ' e := by
  obtain ⟨x0, x1, x2, x3, x4, x5, x6, x7, e1, p0, p1, p2, p3, p4, p5, p6, p7⟩ := h
  exact ⟨x0, x1, x2, x3, x4, x5, x6, x7, e1, hs _ _ p0, p1, p2, hs _ _ p3, hs _ _ p4, hs _ _ p5, hs _ _ p6, hs _ _ p7⟩
theorem okServer_mono {τ τ' : Nat → Option Ty} {e : va_E} (hs : Sub τ τ') (h : okServer τ e) : okServer τ' e := by
  obtain ⟨x0, x1, x2, x3, x4, x5, x6, x7, x8, x9, e1, p0, p1, p2, p3, p4, p5, p6, p7, p8, p9⟩ := h
  exact ⟨x0, x1, x2, x3, x4, x5, x6, x7, x8, x9, e1, hs _ _ p0, hs _ _ p1, hs _ _ p2, p3, p4, p5, hs _ _ p6, p7, p8, hs _ _ p9⟩
theorem okLow_mono {τ τ' : Nat → Option Ty} {e : va_E} (hs : Sub τ τ') (h : okLow τ e) : okLow τ' e := by
  obtain ⟨x0, x1, x2, x3, x4, e1, p0, p1, p2, p3, p4⟩ := h
  exact ⟨x0, x1, x2, x3, x4, e1, hs _ _ p0, hs _ _ p1, hs _ _ p2, hs _ _ p3, p4⟩
theorem Ok.mono {K : Nat → ClassId} {τ τ' : Nat → Option Ty} {t : Ty} {e : va_E} (hs : Sub τ τ') (h : Ok K τ t e) : Ok K τ' t e := by
  obtain ⟨a, b, c⟩ := t
  revert h
  unfold Ok
  dsimp only
  split <;> intro h <;> first | exact h.elim | exact h | exact okRow_mono hs h | exact okRA_mono hs h | exact okII_mono hs h | exact okIJ_mono hs h | exact okDV_mono hs h | exact okAir_mono hs h | exact okCipher_mono hs h | exact okClient_mono hs h | exact okDevice_mono hs h | exact okDiary_mono hs h | exact okGuard_mono hs h | exact okLink_mono hs h | exact okMail_mono hs h | exact okPairing_mono hs h | exact okServer_mono hs h | exact okLow_mono hs h
theorem fd_cons {dom : List Nat} {σ : Nat → va_E} {q : Nat} {e : va_E} (hq : q ∉ dom) : (q, e) :: fd dom σ = fd (q :: dom) (va_up σ q e) := by
  show _ = (q, va_up σ q e q) :: fd dom (va_up σ q e)
  rw [va_up_self]
  congr 1
  apply List.map_congr_left
  intro y hy
  have hne : y ≠ q := fun h => hq (by rw [← h]; exact hy)
  rw [va_up_ne _ _ hne]
theorem absorb {K : Nat → ClassId} {τ : Nat → Option Ty} {dom : List Nat} {σ : Nat → va_E} {q : Nat} {e : va_E} {t : Ty} (hq : q ∉ dom) (Z : Sk τ dom) (G : Good K τ σ) (hok : ∀ τ' : Nat → Option Ty, Sub τ τ' → τ' q = some t → Ok K τ' t e) : Sk (tset τ q t) (q :: dom) ∧ Good K (tset τ q t) (va_up σ q e) ∧ tset τ q t q = some t ∧ Sub τ (tset τ q t) := by
  have hS : Sub τ (tset τ q t) := fun a u h => by
    have hne : a ≠ q := fun e => hq (by rw [← e]; exact Z.2 a u h)
    rw [tset_n hne]
    exact h
  refine ⟨⟨List.nodup_cons.mpr ⟨hq, Z.1⟩, fun a u h => ?_⟩, fun a u h => ?_, tset_s, hS⟩
  · by_cases e1 : a = q
    · rw [e1]
      exact List.mem_cons_self
    · rw [tset_n e1] at h
      exact List.mem_cons_of_mem _ (Z.2 a u h)
  · by_cases e1 : a = q
    · subst e1
      rw [tset_s] at h
      cases h
      rw [va_up_self]
      exact hok _ hS tset_s
    · rw [tset_n e1] at h
      rw [va_up_ne _ _ e1]
      exact Ok.mono hS (G a u h)
theorem ex_idx {w : va_W} : ∀ l : va_W, (∀ x ∈ l, x ∈ w) → ∃ is : List Nat, is.map (fun i => w[i]?) = l.map some
  | [], _ => ⟨[], rfl⟩
  | x :: l, h => by
    obtain ⟨is, hi⟩ := ex_idx l (fun y hy => h y (List.mem_cons_of_mem _ hy))
    obtain ⟨i, hx⟩ := List.getElem?_of_mem (h x List.mem_cons_self)
    exact ⟨i :: is, by simp [hx, hi]⟩
theorem dD_nd {A : Nat → Prop} {w : va_W} (h : va_D A w) : (w.map Prod.fst).Nodup := by
  rw [List.nodup_iff_pairwise_ne, List.pairwise_iff_getElem]
  intro i j hi hj hlt e
  rw [List.length_map] at hi hj
  rw [List.getElem_map, List.getElem_map] at e
  have := h.1 i j w[i] w[j] (List.getElem?_eq_getElem hi) (List.getElem?_eq_getElem hj) e
  omega
theorem nd_dD {A : Nat → Prop} {w : va_W} (h : (w.map Prod.fst).Nodup) (hA : ∀ x ∈ w, A x.1) : va_D A w := by
  refine ⟨fun i j p q hi hj e => ?_, fun k q hk => hA q (List.mem_of_getElem? hk)⟩
  rw [List.nodup_iff_pairwise_ne, List.pairwise_iff_getElem] at h
  obtain ⟨hi', ei⟩ := List.getElem?_eq_some_iff.mp hi
  obtain ⟨hj', ej⟩ := List.getElem?_eq_some_iff.mp hj
  apply Classical.byContradiction
  intro hne
  rcases Nat.lt_or_gt_of_ne hne with hl | hl
  · exact h i j (by rw [List.length_map]; exact hi') (by rw [List.length_map]; exact hj') hl (by rw [List.getElem_map, List.getElem_map, ei, ej]; exact e)
  · exact h j i (by rw [List.length_map]; exact hj') (by rw [List.length_map]; exact hi') hl (by rw [List.getElem_map, List.getElem_map, ei, ej]; exact e.symm)
theorem pm1 (E F : va_W) (x : Nat × va_E) : ((E ++ F) ++ [x]).Perm ((x :: F) ++ E) := (List.perm_append_comm (l₁ := E ++ F) (l₂ := [x])).trans (List.Perm.cons x (List.perm_append_comm (l₁ := E) (l₂ := F)))
theorem pm2 (E F : va_W) (x : Nat × va_E) : ((E ++ F) ++ [x]).Perm (E ++ (x :: F)) := by
  rw [List.append_assoc]
  exact List.Perm.append_left E (List.perm_append_comm (l₁ := F) (l₂ := [x]))
theorem pm3 (E1 E2 F : va_W) (x : Nat × va_E) : ((E1 ++ x :: E2) ++ F).Perm ((E1 ++ E2) ++ (x :: F)) := by
  rw [List.append_assoc, List.append_assoc]
  exact List.Perm.append_left E1 ((List.perm_middle (l₁ := E2) (l₂ := F) (a := x)).symm)
theorem pm4 (E F G : va_W) : ((E ++ F) ++ G).Perm (E ++ (G ++ F)) := by
  rw [List.append_assoc]
  exact List.Perm.append_left E (List.perm_append_comm (l₁ := F) (l₂ := G))
theorem pm5 (E F : va_W) (x : Nat × va_E) : ((E ++ F) ++ [x]).Perm ((E ++ [x]) ++ F) := by
  rw [List.append_assoc, List.append_assoc]
  exact List.Perm.append_left E (List.perm_append_comm (l₁ := F) (l₂ := [x]))
theorem pm6 (E F : va_W) (x : Nat × va_E) (Lf : va_W) : (((E ++ F) ++ [x]) ++ Lf).Perm ((E ++ [x]) ++ (Lf ++ F)) := by
  refine (List.Perm.append_right Lf (pm5 E F x)).trans ?_
  rw [List.append_assoc]
  exact List.Perm.append_left _ (List.perm_append_comm (l₁ := F) (l₂ := Lf))
theorem pm7 (E F : va_W) (x : Nat × va_E) : ((E ++ [x]) ++ F).Perm (E ++ (x :: F)) := by
  rw [List.append_assoc]
  exact List.Perm.refl _
theorem rows_step {τ τ' : Nat → Option Ty} {f : Nat → Option Nat} {t : Ty} {i r : Nat} (H : ∀ j : Nat, j < i → ∃ a : Nat, f j = some a ∧ τ a = some t) (hs : Sub τ τ') (hr : τ' r = some t) : ∀ j : Nat, j < i + 1 → ∃ a : Nat, va_up f i (some r) j = some a ∧ τ' a = some t := fun j hj => by
  by_cases e : j = i
  · subst e
    exact ⟨r, va_up_self _ _ _, hr⟩
  · obtain ⟨a, h1, h2⟩ := H j (by omega)
    exact ⟨a, (va_up_ne _ _ e).trans h1, hs _ _ h2⟩
theorem rows_sub {τ τ' : Nat → Option Ty} {f : Nat → Option Nat} {t : Ty} {i : Nat} (H : ∀ j : Nat, j < i → ∃ a : Nat, f j = some a ∧ τ a = some t) (hs : Sub τ τ') : ∀ j : Nat, j < i → ∃ a : Nat, f j = some a ∧ τ' a = some t := fun j hj => by
  obtain ⟨a, h1, h2⟩ := H j hj
  exact ⟨a, h1, hs _ _ h2⟩
theorem zero_el (lo hi : Int) (h : lo ≤ 0 ∧ 0 ≤ hi) : ∀ i : Nat, ∃ z : Int, (fun _ : Nat => (0 : Int32)) i = iI z ∧ (lo ≤ z ∧ z ≤ hi) := fun _ => ⟨0, rfl, h⟩
section VC
variable {p : Program} {l : Launch} {e : Env} {R : Room} {s : State} {m : MethodId} {args : Array Value} {below : List Frame} {meth : Method} {c : Code} {cc : ByteArray} {nL : Nat} {own : String} {Ts : List Cond} {D : va_G} {tys : List (ClassId × FieldType)} {A : Nat → Prop} {Q : State → Prop} {cs : Nat × Nat} {w : va_W} {lv : List (Nat × Value)} {pc : Nat} {st : List Value}
variable {K : Nat → ClassId} {τ : Nat → Option Ty} {dom : List Nat} {σ : Nat → va_E}
theorem v_perm {w' : va_W} (hp : w.Perm w') (kk : V p l e R s m args below meth c nL D A Q cs w' lv pc st) : V p l e R s m args below meth c nL D A Q cs w lv pc st := fun H locs ls hP hD hS hl => by
  obtain ⟨is, hi⟩ := ex_idx (w := w) w' (fun x hx => hp.mem_iff.mpr hx)
  have hn := (hp.map Prod.fst).nodup_iff.mp (dD_nd hD)
  refine kk H locs ls (pl_P hP hi) (nd_dD hn fun x hx => ?_) hS hl
  obtain ⟨i, he⟩ := List.getElem?_of_mem (hp.mem_iff.mpr hx)
  exact hD.2 i x he
theorem v_absorb {E : va_W} {q : Nat} {e0 : va_E} {t : Ty} (Z : Sk τ dom) (G : Good K τ σ) (hok : ∀ τ' : Nat → Option Ty, Sub τ τ' → τ' q = some t → Ok K τ' t e0) (kk : (∀ (dom' : List Nat) (σ' : Nat → va_E) (τ' : Nat → Option Ty), Sk τ' dom' → Good K τ' σ' → τ' q = some t → Sub τ τ' → V p l e R s m args below meth c nL D A Q cs (E ++ fd dom' σ') lv pc st)) : V p l e R s m args below meth c nL D A Q cs (E ++ ((q, e0) :: fd dom σ)) lv pc st := fun H locs ls hP hD hS hl => by
  have hq : q ∉ dom := by
    intro hm
    have hn := dD_nd hD
    rw [List.map_append, List.map_cons] at hn
    have h2 := (List.nodup_append.mp hn).2.1
    refine (List.nodup_cons.mp h2).1 ?_
    unfold fd
    rw [List.map_map]
    exact List.mem_map.mpr ⟨q, hm, rfl⟩
  obtain ⟨a1, a2, a3, a4⟩ := absorb hq Z G hok
  rw [fd_cons hq] at hP hD
  exact kk _ _ _ a1 a2 a3 a4 H locs ls hP hD hS hl
theorem v_absorbL {t : Ty} {e0 : va_E} (hok : ∀ τ' : Nat → Option Ty, Ok K τ' t e0) : ∀ (as : List Nat) (E : va_W) (τ : Nat → Option Ty) (dom : List Nat) (σ : Nat → va_E), Sk τ dom → Good K τ σ → (∀ (dom' : List Nat) (σ' : Nat → va_E) (τ' : Nat → Option Ty), Sk τ' dom' → Good K τ' σ' → (∀ x ∈ as, τ' x = some t) → Sub τ τ' → V p l e R s m args below meth c nL D A Q cs (E ++ fd dom' σ') lv pc st) → V p l e R s m args below meth c nL D A Q cs (E ++ (as.map (fun a => (a, e0)) ++ fd dom σ)) lv pc st
  | [], E, τ, dom, σ, Z, G, kk => kk dom σ τ Z G (fun _ h => nomatch h) Sub.rf
  | a :: as, E, τ, dom, σ, Z, G, kk => by
    refine v_perm (w' := (E ++ as.map (fun a => (a, e0))) ++ ((a, e0) :: fd dom σ)) ?_ ?_
    · rw [List.append_assoc]
      exact List.Perm.append_left E (List.perm_middle.symm)
    · refine v_absorb Z G (fun τ' _ _ => hok τ') (fun dom1 σ1 τ1 Z1 G1 h1 s1 => ?_)
      rw [List.append_assoc]
      refine v_absorbL hok as E τ1 dom1 σ1 Z1 G1 (fun dom2 σ2 τ2 Z2 G2 h2 s2 => kk dom2 σ2 τ2 Z2 G2 (fun x hx => ?_) (s1.tr s2))
      rcases List.mem_cons.mp hx with e | hx
      · rw [e]
        exact s2 _ _ h1
      · exact h2 x hx
theorem v_aastT (B : Bx p s m args c cc nL own Ts D tys A) (Z : Sk τ dom) {E : va_W} {k0 t0 ci q r n i : Nat} {t : Ty} {cA : ClassId} {rr : vw_C} {f : Nat → Option Nat} {ii : Int32} {E' : va_W} (he : E[k0]? = some (q, .inl (cA, n, .inr (.inr (.inr (.inr f)))))) (ht : tys[t0]? = some (cA, .object rr.1)) (hr : τ r = some t) (hcl : ∃ fs : List Value, σ r = .inr (ci, fs)) (hc : vwCl[ci]? = some rr) (hi : vp_in ii n) (hii : ii.toNatClampNeg = i) (hw : E.set k0 (q, .inl (cA, n, .inr (.inr (.inr (.inr (va_up f i (some r))))))) = E') (hd : decode cc pc = .ok (.aastore, 1)) (kk : V p l e R s m args below meth c nL D A Q cs (E' ++ fd dom σ) lv (pc + 1) st) : V p l e R s m args below meth c nL D A Q cs (E ++ fd dom σ) lv pc (.ref r :: .int ii :: .ref q :: st) := by
  obtain ⟨k, h1, -⟩ := Z.ix hr
  obtain ⟨fs, hfs⟩ := hcl
  have hk0 : k0 < E.length := (List.getElem?_eq_some_iff.mp he).1
  refine v_aast B (k0 := k0) (t0 := t0) (k1 := E.length + k) (ci := ci) (by rw [List.getElem?_append_left hk0]; exact he) ht (vs := fs) (by rw [List.getElem?_append_right (by omega), show E.length + k - E.length = k by omega, h1 σ, hfs]) hc hi (w' := E' ++ fd dom σ) (by rw [hii, List.set_append_left _ _ hk0, hw]) hd kk
end VC
