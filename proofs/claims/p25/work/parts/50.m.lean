def tabM : List (Nat × Nat × Int × Int) := [(9, 0, 0, 0), (2, 100, -128, 127), (9, 0, 0, 0), (0, 256, 0, 255), (2, 16, -128, 127), (2, 16, -128, 127), (2, 16, -128, 127), (0, 2, 0, 5), (0, 2, -2147483648, 2147483647), (0, 2, -2147483648, 2147483647), (0, 2, -2147483648, 2147483647), (0, 2, 0, 20), (1, 2, 0, 0), (1, 2, 0, 0), (1, 2, 0, 0), (1, 2, 0, 0), (1, 2, 0, 0), (1, 2, 0, 0), (1, 2, 0, 0), (2, 40, -128, 127), (2, 64, -128, 127), (0, 2, -2147483648, 2147483647), (0, 2, 0, 31), (0, 2, -2147483648, 2147483647), (0, 2, 0, 64), (0, 128, 0, 319), (0, 2, -2147483648, 2147483647), (0, 2, 0, 16), (0, 2, -2147483648, 2147483647), (0, 2, -2147483648, 2147483647), (0, 2, 0, 36), (0, 2, -2147483648, 2147483647), (0, 2, -2147483648, 2147483647), (0, 2, -2147483648, 2147483647), (0, 2, -2147483648, 2147483647), (0, 2, -2147483648, 2147483647), (0, 2, -2147483648, 2147483647), (0, 2, -2147483648, 2147483647), (0, 2, -2147483648, 2147483647), (2, 8, -128, 127), (3, 2, 0, 1), (3, 2, 0, 1), (3, 2, 0, 1), (9, 0, 0, 0), (4, 2880, 0, 0), (0, 2, 0, 32), (0, 2, -2147483648, 2147483647), (2, 640, -128, 127), (0, 16, 0, 40), (0, 16, -2147483648, 2147483647), (3, 16, 0, 1), (9, 0, 0, 0), (2, 40, -128, 127), (2, 40, -128, 127), (0, 2, -2147483648, 2147483647), (0, 2, 0, 31), (0, 2, -2147483648, 2147483647), (0, 2, 0, 6), (0, 2, -2147483648, 2147483647), (0, 2, -2147483648, 2147483647), (2, 80, -128, 127), (2, 192, -128, 127), (2, 32, -128, 127), (2, 32, -128, 127), (2, 16, -128, 127), (2, 16, -128, 127), (2, 8, -128, 127), (0, 12, 0, 16), (3, 2, 0, 1), (3, 2, 0, 1), (3, 2, 0, 1), (3, 2, 0, 1), (3, 2, 0, 1), (3, 2, 0, 1), (3, 2, 0, 1), (3, 2, 0, 1), (3, 2, 0, 1), (2, 16, -128, 127), (2, 16, -128, 127), (2, 16, -128, 127), (2, 40, -128, 127), (2, 40, -128, 127), (2, 1536, -128, 127), (2, 192, -128, 127), (0, 16, 0, 96), (0, 2, 0, 8), (0, 2, 0, 96), (0, 2, 0, 96), (0, 2, 0, 96), (3, 2, 0, 1), (2, 96, -128, 127), (2, 96, -128, 127), (0, 2, -2147483648, 2147483647), (0, 2, -2147483648, 2147483647), (0, 2, -2147483648, 2147483647), (2, 28, -128, 127), (2, 32, -128, 127), (2, 32, -128, 127), (2, 16, -128, 127), (2, 16, -128, 127), (0, 2, 0, 20), (0, 40, -2147483648, 2147483647), (0, 40, -2147483648, 2147483647), (0, 40, 0, 40), (0, 2, 23, 64), (0, 2, 23, 64), (0, 2, 0, 6), (2, 1600, -128, 127), (2, 768, -128, 127), (2, 800, -128, 127), (0, 12, 0, 20), (0, 12, 0, 65535), (0, 12, 0, 64), (0, 20, 0, 40), (3, 2, 0, 1), (9, 0, 0, 0), (0, 2, -2147483648, 2147483647), (0, 2, -2147483648, 2147483647), (0, 2, -2147483648, 2147483647), (0, 2, -2147483648, 2147483647), (0, 2, 0, 40), (0, 2, 0, 40), (2, 80, -128, 127)]
def relM (j : Nat) : Bool := [7, 15, 16, 41, 85, 86, 84, 106, 110].contains j
def okMi (k : ClassId) (N : Nat) (lo hi : Int) (e : va_E) : Prop := ∃ f : Nat → Int32, e = .inl (k, N, .inl f) ∧ ∀ i : Nat, ∃ z : Int, f i = iI z ∧ (lo ≤ z ∧ z ≤ hi)
def okMl (k : ClassId) (N : Nat) (e : va_E) : Prop := ∃ f : Nat → Int64, e = .inl (k, N, .inr (.inl f))
/-- what is kept: its fifth number of each is 40 at most -/
def okMk (k : ClassId) (N : Nat) (e : va_E) : Prop := ∃ f : Nat → Int32, e = .inl (k, N, .inl f) ∧ ∀ i : Nat, ∃ z : Int, f i = iI z ∧ ((-2147483648 ≤ z ∧ z ≤ 2147483647) ∧ (i % 45 = 4 → z ≤ 40))
def okAr (K : Nat → ClassId) (t : Nat × Nat × Int × Int) (e : va_E) : Prop := match t.1 with
  | 1 => okMl (K 1) t.2.1 e
  | 4 => okMk (K 0) t.2.1 e
  | k => okMi (K k) t.2.1 t.2.2.1 t.2.2.2 e
def MS (τ : Nat → Option Ty) (h : Nat) (q : Nat → Nat) : Prop := τ h = some (50, 0, 0) ∧ ∀ (j : Nat) (t : Nat × Nat × Int × Int), tabM[j]? = some t → t.1 ≠ 9 → τ (q j) = some (100 + j, 0, 0)
theorem MS.o {τ : Nat → Option Ty} {h : Nat} {q : Nat → Nat} (Y : MS τ h q) : τ h = some (50, 0, 0) := Y.1
theorem MS.r {τ : Nat → Option Ty} {h : Nat} {q : Nat → Nat} (Y : MS τ h q) : ∀ (j : Nat) (t : Nat × Nat × Int × Int), tabM[j]? = some t → t.1 ≠ 9 → τ (q j) = some (100 + j, 0, 0) := Y.2
def GT (K : Nat → ClassId) (h : Nat) (q : Nat → Nat) (σ : Nat → va_E) : Prop := (∃ th tp t pk an : Int, σ h = .inr (12, fsM q (iI th) (iI tp) (iI t) (iI pk) (iI an)) ∧ (-2147483648 ≤ th ∧ th ≤ 2147483647) ∧ (0 ≤ tp ∧ tp ≤ 100) ∧ (-2147483648 ≤ t ∧ t ≤ 2147483647) ∧ (0 ≤ pk ∧ pk ≤ 16) ∧ (-2147483648 ≤ an ∧ an ≤ 2147483647)) ∧ ∀ (j : Nat) (t : Nat × Nat × Int × Int), tabM[j]? = some t → t.1 ≠ 9 → okAr K t (σ (q j))
theorem GT.o {K : Nat → ClassId} {h : Nat} {q : Nat → Nat} {σ : Nat → va_E} (G : GT K h q σ) : ∃ th tp t pk an : Int, σ h = .inr (12, fsM q (iI th) (iI tp) (iI t) (iI pk) (iI an)) ∧ (-2147483648 ≤ th ∧ th ≤ 2147483647) ∧ (0 ≤ tp ∧ tp ≤ 100) ∧ (-2147483648 ≤ t ∧ t ≤ 2147483647) ∧ (0 ≤ pk ∧ pk ≤ 16) ∧ (-2147483648 ≤ an ∧ an ≤ 2147483647) := G.1
theorem GT.r {K : Nat → ClassId} {h : Nat} {q : Nat → Nat} {σ : Nat → va_E} (G : GT K h q σ) : ∀ (j : Nat) (t : Nat × Nat × Int × Int), tabM[j]? = some t → t.1 ≠ 9 → okAr K t (σ (q j)) := G.2
theorem MS.ne {τ : Nat → Option Ty} {h : Nat} {q : Nat → Nat} (Y : MS τ h q) {i j : Nat} {t u : Nat × Nat × Int × Int} (hi : tabM[i]? = some t) (h9 : t.1 ≠ 9) (hj : tabM[j]? = some u) (g9 : u.1 ≠ 9) (hn : i ≠ j) : q i ≠ q j := ne_ty (Y.r i t hi h9) (Y.r j u hj g9) (by simp; omega)
theorem MS.no {τ : Nat → Option Ty} {h : Nat} {q : Nat → Nat} (Y : MS τ h q) {j : Nat} {u : Nat × Nat × Int × Int} (hj : tabM[j]? = some u) (g9 : u.1 ≠ 9) : h ≠ q j := ne_ty Y.o (Y.r j u hj g9) (by simp; omega)
theorem MS.nb {τ : Nat → Option Ty} {h : Nat} {q : Nat → Nat} (Y : MS τ h q) {i j N : Nat} {t : Nat × Nat × Int × Int} (hi : tabM[i]? = some t) (h9 : t.1 ≠ 9) (h2 : t.1 ≠ 2) (hj : tabM[j]? = some (2, N, -128, 127)) : q i ≠ q j := Y.ne hi h9 hj (by simp) (fun e => by subst e; cases Option.some.inj (hi.symm.trans hj); exact h2 rfl)
theorem GT.put {τ : Nat → Option Ty} {K : Nat → ClassId} {h : Nat} {q : Nat → Nat} {σ σ' : Nat → va_E} (Y : MS τ h q) (G : GT K h q σ) {j : Nat} {t : Nat × Nat × Int × Int} (hj : tabM[j]? = some t) (h9 : t.1 ≠ 9) (hok : okAr K t (σ' (q j))) (hne : ∀ b : Nat, b ≠ q j → σ' b = σ b) : GT K h q σ' := by
  refine ⟨?_, fun i u hi g9 => ?_⟩
  · rw [hne h (Y.no hj h9)]
    exact G.o
  · by_cases e : i = j
    · subst e
      cases Option.some.inj (hi.symm.trans hj)
      exact hok
    · rw [hne _ (Y.ne hi g9 hj h9 e)]
      exact G.r i u hi g9
theorem GT.putO {τ : Nat → Option Ty} {K : Nat → ClassId} {h : Nat} {q : Nat → Nat} {σ σ' : Nat → va_E} (Y : MS τ h q) (G : GT K h q σ) (hok : ∃ th tp t pk an : Int, σ' h = .inr (12, fsM q (iI th) (iI tp) (iI t) (iI pk) (iI an)) ∧ (-2147483648 ≤ th ∧ th ≤ 2147483647) ∧ (0 ≤ tp ∧ tp ≤ 100) ∧ (-2147483648 ≤ t ∧ t ≤ 2147483647) ∧ (0 ≤ pk ∧ pk ≤ 16) ∧ (-2147483648 ≤ an ∧ an ≤ 2147483647)) (hne : ∀ b : Nat, b ≠ h → σ' b = σ b) : GT K h q σ' :=
  ⟨hok, fun i u hi g9 => by rw [hne _ (Y.no hi g9).symm]; exact G.r i u hi g9⟩
theorem GT.byte {K : Nat → ClassId} {h : Nat} {q : Nat → Nat} {σ : Nat → va_E} (G : GT K h q σ) {j N : Nat} (hj : tabM[j]? = some (2, N, -128, 127)) : okMi (K 2) N (-128) 127 (σ (q j)) := G.r j _ hj (by simp)
theorem MS.byte {τ : Nat → Option Ty} {h : Nat} {q : Nat → Nat} (Y : MS τ h q) {j N : Nat} (hj : tabM[j]? = some (2, N, -128, 127)) : τ (q j) = some (100 + j, 0, 0) := Y.r j _ hj (by simp)
theorem lenB {j N : Nat} {lo hi : Int} (hj : tabM[j]? = some (2, N, lo, hi)) : 4 ≤ (N : Int) ∧ (N : Int) ≤ 1600 := by
  have k : ∀ t ∈ tabM, t.1 = 2 → 4 ≤ t.2.1 ∧ t.2.1 ≤ 1600 := by decide
  have := k _ (List.mem_of_getElem? hj) rfl
  simp at this
  omega
theorem clsM {K : Nat → ClassId} {h : Nat} {q : Nat → Nat} {σ : Nat → va_E} (G : GT K h q σ) : ∃ fs : List Value, σ h = .inr (12, fs) := by
  obtain ⟨_, _, _, _, _, e, -⟩ := G.o
  exact ⟨_, e⟩
theorem nar8 {z : Int} (h : -128 ≤ z ∧ z ≤ 127) : vp_nar .byte (iI z) = iI z := by
  have k : ∀ n : Nat, n < 256 → vp_nar .byte (iI ((n : Int) - 128)) = iI ((n : Int) - 128) := by decide +kernel
  have := k (z + 128).toNat (by omega)
  rwa [show (((z + 128).toNat : Nat) : Int) - 128 = z by omega] at this
theorem narZ {z : Int} (h : 0 ≤ z ∧ z ≤ 1) : vp_nar .boolean (iI z) = iI z := by
  rcases (show z = 0 ∨ z = 1 by omega) with rfl | rfl <;> decide +kernel
theorem upd_s {f : Nat → Int32} {k : Nat} {v : Int32} : upd f k v k = v := by rw [upd, if_pos rfl]
theorem upd_n {f : Nat → Int32} {k i : Nat} {v : Int32} (h : i ≠ k) : upd f k v i = f i := by rw [upd, if_neg h]
theorem updL_s {f : Nat → Int64} {k : Nat} {v : Int64} : vp_updL f k v k = v := by rw [vp_updL, if_pos rfl]
theorem updL_n {f : Nat → Int64} {k i : Nat} {v : Int64} (h : i ≠ k) : vp_updL f k v i = f i := by rw [vp_updL, if_neg h]
theorem el_updk {f : Nat → Int32} {z : Int} (h : ∀ i : Nat, ∃ z : Int, f i = iI z ∧ ((-2147483648 ≤ z ∧ z ≤ 2147483647) ∧ (i % 45 = 4 → z ≤ 40))) (k : Nat) (hz : (-2147483648 ≤ z ∧ z ≤ 2147483647) ∧ (k % 45 = 4 → z ≤ 40)) : ∀ i : Nat, ∃ y : Int, upd f k (iI z) i = iI y ∧ ((-2147483648 ≤ y ∧ y ≤ 2147483647) ∧ (i % 45 = 4 → y ≤ 40)) := fun i => by
  by_cases e : i = k
  · subst e
    exact ⟨z, upd_s, hz⟩
  · obtain ⟨y, h1, h2⟩ := h i
    exact ⟨y, (upd_n e).trans h1, h2⟩
theorem arrL_inj {k k' : ClassId} {N N' : Nat} {f f' : Nat → Int64} (e : (Sum.inl (k, N, Sum.inr (Sum.inl f)) : va_E) = .inl (k', N', .inr (.inl f'))) : f = f' := Sum.inl.inj (Sum.inr.inj (Prod.mk.inj (Prod.mk.inj (Sum.inl.inj e)).2).2)
/-- the number in place i of the row at a lies between lo and hi -/
def At (σ : Nat → va_E) (a i : Nat) (lo hi : Int) : Prop := ∀ (k : ClassId) (N : Nat) (f : Nat → Int32) (z : Int), σ a = .inl (k, N, .inl f) → f i = iI z → InR z → lo ≤ z ∧ z ≤ hi
theorem At.mk {σ : Nat → va_E} {a i : Nat} {lo hi : Int} {k : ClassId} {N : Nat} {f : Nat → Int32} {z : Int} (e : σ a = .inl (k, N, .inl f)) (ez : f i = iI z) (r : InR z) (hp : lo ≤ z ∧ z ≤ hi) : At σ a i lo hi := fun k' N' f' y e' ey r' => by
  obtain rfl := arr_inj (e.symm.trans e')
  rw [← (iI_eq r r').mp (ez.symm.trans ey)]
  exact hp
theorem At.use {σ : Nat → va_E} {a i : Nat} {lo hi : Int} (H : At σ a i lo hi) {k : ClassId} {N : Nat} {f : Nat → Int32} {z : Int} (e : σ a = .inl (k, N, .inl f)) (ez : f i = iI z) (r : InR z) : lo ≤ z ∧ z ≤ hi := H k N f z e ez r
theorem At.of {σ σ' : Nat → va_E} {a i : Nat} {lo hi : Int} (H : At σ a i lo hi) (e : σ' a = σ a) : At σ' a i lo hi := fun k N f z h => H k N f z (e.symm.trans h)
/-- how many bits are set, as Long.bitCount finds it -/
def mc1 (x : Int64) : Int64 := x - (((x.toUInt64 >>> ((iI 1).toInt64.toUInt64 &&& Int64.toUInt64 63)).toInt64) &&& lI 6148914691236517205)
def mc2 (x : Int64) : Int64 := (x &&& lI 3689348814741910323) + (((x.toUInt64 >>> ((iI 2).toInt64.toUInt64 &&& Int64.toUInt64 63)).toInt64) &&& lI 3689348814741910323)
def mc3 (x : Int64) : Int64 := (x + ((x.toUInt64 >>> ((iI 4).toInt64.toUInt64 &&& Int64.toUInt64 63)).toInt64)) &&& lI 1085102592571150095
def mcs (k : Int) (x : Int64) : Int64 := x + ((x.toUInt64 >>> ((iI k).toInt64.toUInt64 &&& Int64.toUInt64 63)).toInt64)
def bcM (x : Int64) : Int32 := (mcs 32 (mcs 16 (mcs 8 (mc3 (mc2 (mc1 x)))))).toInt32 &&& iI 127
def hb (x : Int64) : Prop := 1 ≤ (bcM x).toInt
def RA (f g m : Nat → Int32) : Prop := ∀ d : Nat, d < 2 → ∀ x y z : Int, f d = iI x → g d = iI y → m (8 * d) = iI z → InR x → InR y → InR z → y ≤ z ∧ (x = 0 → y = 0)
def RB (f m : Nat → Int32) : Prop := ∀ d : Nat, d < 2 → ∀ x : Int, f d = iI x → InR x → ∀ k : Nat, (k : Int) < x → ∀ z : Int, m (6 * d + k) = iI z → InR z → 1 ≤ z
def RC (c : Int) (f : Nat → Int32) (m : Nat → Int64) : Prop := ∀ d : Nat, d < 2 → ∀ x : Int, f d = iI x → InR x → c ≤ x → hb (m d)
def RelA (q : Nat → Nat) (σ : Nat → va_E) : Prop := ∀ (k1 k2 k3 : ClassId) (n1 n2 n3 : Nat) (f g m : Nat → Int32), σ (q 85) = .inl (k1, n1, .inl f) → σ (q 86) = .inl (k2, n2, .inl g) → σ (q 84) = .inl (k3, n3, .inl m) → RA f g m
def RelB (q : Nat → Nat) (σ : Nat → va_E) : Prop := ∀ (k1 k2 : ClassId) (n1 n2 : Nat) (f m : Nat → Int32), σ (q 106) = .inl (k1, n1, .inl f) → σ (q 110) = .inl (k2, n2, .inl m) → RB f m
def RelC (q : Nat → Nat) (σ : Nat → va_E) : Prop := ∀ (k1 k2 : ClassId) (n1 n2 : Nat) (f : Nat → Int32) (m : Nat → Int64), σ (q 7) = .inl (k1, n1, .inl f) → σ (q 15) = .inl (k2, n2, .inr (.inl m)) → RC 3 f m
def RelD (q : Nat → Nat) (σ : Nat → va_E) : Prop := ∀ (k1 k2 : ClassId) (n1 n2 : Nat) (f : Nat → Int32) (m : Nat → Int64), σ (q 41) = .inl (k1, n1, .inl f) → σ (q 16) = .inl (k2, n2, .inr (.inl m)) → RC 1 f m
theorem RelA.kept {q : Nat → Nat} {σ σ' : Nat → va_E} (H : RelA q σ) (e1 : σ' (q 85) = σ (q 85)) (e2 : σ' (q 86) = σ (q 86)) (e3 : σ' (q 84) = σ (q 84)) : RelA q σ' := fun k1 k2 k3 n1 n2 n3 f g m h1 h2 h3 => H k1 k2 k3 n1 n2 n3 f g m (e1.symm.trans h1) (e2.symm.trans h2) (e3.symm.trans h3)
theorem RelB.kept {q : Nat → Nat} {σ σ' : Nat → va_E} (H : RelB q σ) (e1 : σ' (q 106) = σ (q 106)) (e2 : σ' (q 110) = σ (q 110)) : RelB q σ' := fun k1 k2 n1 n2 f m h1 h2 => H k1 k2 n1 n2 f m (e1.symm.trans h1) (e2.symm.trans h2)
theorem RelC.kept {q : Nat → Nat} {σ σ' : Nat → va_E} (H : RelC q σ) (e1 : σ' (q 7) = σ (q 7)) (e2 : σ' (q 15) = σ (q 15)) : RelC q σ' := fun k1 k2 n1 n2 f m h1 h2 => H k1 k2 n1 n2 f m (e1.symm.trans h1) (e2.symm.trans h2)
theorem RelD.kept {q : Nat → Nat} {σ σ' : Nat → va_E} (H : RelD q σ) (e1 : σ' (q 41) = σ (q 41)) (e2 : σ' (q 16) = σ (q 16)) : RelD q σ' := fun k1 k2 n1 n2 f m h1 h2 => H k1 k2 n1 n2 f m (e1.symm.trans h1) (e2.symm.trans h2)
theorem RelA.mk {q : Nat → Nat} {σ : Nat → va_E} {k1 k2 k3 : ClassId} {n1 n2 n3 : Nat} {f g m : Nat → Int32} (h1 : σ (q 85) = .inl (k1, n1, .inl f)) (h2 : σ (q 86) = .inl (k2, n2, .inl g)) (h3 : σ (q 84) = .inl (k3, n3, .inl m)) (H : RA f g m) : RelA q σ := fun _ _ _ _ _ _ f' g' m' e1 e2 e3 => by
  obtain rfl := arr_inj (h1.symm.trans e1)
  obtain rfl := arr_inj (h2.symm.trans e2)
  obtain rfl := arr_inj (h3.symm.trans e3)
  exact H
theorem RelB.mk {q : Nat → Nat} {σ : Nat → va_E} {k1 k2 : ClassId} {n1 n2 : Nat} {f m : Nat → Int32} (h1 : σ (q 106) = .inl (k1, n1, .inl f)) (h2 : σ (q 110) = .inl (k2, n2, .inl m)) (H : RB f m) : RelB q σ := fun _ _ _ _ f' m' e1 e2 => by
  obtain rfl := arr_inj (h1.symm.trans e1)
  obtain rfl := arr_inj (h2.symm.trans e2)
  exact H
theorem RelC.mk {q : Nat → Nat} {σ : Nat → va_E} {k1 k2 : ClassId} {n1 n2 : Nat} {f : Nat → Int32} {m : Nat → Int64} (h1 : σ (q 7) = .inl (k1, n1, .inl f)) (h2 : σ (q 15) = .inl (k2, n2, .inr (.inl m))) (H : RC 3 f m) : RelC q σ := fun _ _ _ _ f' m' e1 e2 => by
  obtain rfl := arr_inj (h1.symm.trans e1)
  obtain rfl := arrL_inj (h2.symm.trans e2)
  exact H
theorem RelD.mk {q : Nat → Nat} {σ : Nat → va_E} {k1 k2 : ClassId} {n1 n2 : Nat} {f : Nat → Int32} {m : Nat → Int64} (h1 : σ (q 41) = .inl (k1, n1, .inl f)) (h2 : σ (q 16) = .inl (k2, n2, .inr (.inl m))) (H : RC 1 f m) : RelD q σ := fun _ _ _ _ f' m' e1 e2 => by
  obtain rfl := arr_inj (h1.symm.trans e1)
  obtain rfl := arrL_inj (h2.symm.trans e2)
  exact H
def GM (K : Nat → ClassId) (h : Nat) (q : Nat → Nat) (σ : Nat → va_E) : Prop := GT K h q σ ∧ RelA q σ ∧ RelB q σ ∧ RelC q σ ∧ RelD q σ
theorem GM.t {K : Nat → ClassId} {h : Nat} {q : Nat → Nat} {σ : Nat → va_E} (G : GM K h q σ) : GT K h q σ := G.1
theorem GM.a {K : Nat → ClassId} {h : Nat} {q : Nat → Nat} {σ : Nat → va_E} (G : GM K h q σ) : RelA q σ := G.2.1
theorem GM.b {K : Nat → ClassId} {h : Nat} {q : Nat → Nat} {σ : Nat → va_E} (G : GM K h q σ) : RelB q σ := G.2.2.1
theorem GM.c {K : Nat → ClassId} {h : Nat} {q : Nat → Nat} {σ : Nat → va_E} (G : GM K h q σ) : RelC q σ := G.2.2.2.1
theorem GM.d {K : Nat → ClassId} {h : Nat} {q : Nat → Nat} {σ : Nat → va_E} (G : GM K h q σ) : RelD q σ := G.2.2.2.2
theorem GM.kept {K : Nat → ClassId} {h : Nat} {q : Nat → Nat} {σ σ' : Nat → va_E} (G : GM K h q σ) (T : GT K h q σ') (hk : ∀ j : Nat, relM j = true → σ' (q j) = σ (q j)) : GM K h q σ' :=
  ⟨T, G.a.kept (hk 85 rfl) (hk 86 rfl) (hk 84 rfl), G.b.kept (hk 106 rfl) (hk 110 rfl), G.c.kept (hk 7 rfl) (hk 15 rfl), G.d.kept (hk 41 rfl) (hk 16 rfl)⟩
theorem rel_tab {j : Nat} (h : relM j = true) : ∃ t, tabM[j]? = some t ∧ t.1 ≠ 9 ∧ t.1 ≠ 2 := by
  have h' := List.contains_iff_mem.mp h
  simp only [List.mem_cons, List.not_mem_nil, or_false] at h'
  rcases h' with rfl | rfl | rfl | rfl | rfl | rfl | rfl | rfl | rfl <;> exact ⟨_, rfl, by decide, by decide⟩
theorem GM.put {τ : Nat → Option Ty} {K : Nat → ClassId} {h : Nat} {q : Nat → Nat} {σ σ' : Nat → va_E} (Y : MS τ h q) (G : GM K h q σ) {j : Nat} {t : Nat × Nat × Int × Int} (hj : tabM[j]? = some t) (h9 : t.1 ≠ 9) (hr : relM j = false) (hok : okAr K t (σ' (q j))) (hne : ∀ b : Nat, b ≠ q j → σ' b = σ b) : GM K h q σ' :=
  G.kept (G.t.put Y hj h9 hok hne) fun i hi => by
    obtain ⟨u, hu, h9', -⟩ := rel_tab hi
    exact hne _ (Y.ne hu h9' hj h9 (fun e => by subst e; rw [hi] at hr; cases hr))
theorem GM.putO {τ : Nat → Option Ty} {K : Nat → ClassId} {h : Nat} {q : Nat → Nat} {σ σ' : Nat → va_E} (Y : MS τ h q) (G : GM K h q σ) (hok : ∃ th tp t pk an : Int, σ' h = .inr (12, fsM q (iI th) (iI tp) (iI t) (iI pk) (iI an)) ∧ (-2147483648 ≤ th ∧ th ≤ 2147483647) ∧ (0 ≤ tp ∧ tp ≤ 100) ∧ (-2147483648 ≤ t ∧ t ≤ 2147483647) ∧ (0 ≤ pk ∧ pk ≤ 16) ∧ (-2147483648 ≤ an ∧ an ≤ 2147483647)) (hne : ∀ b : Nat, b ≠ h → σ' b = σ b) : GM K h q σ' :=
  G.kept (G.t.putO Y hok hne) fun i hi => by
    obtain ⟨u, hu, h9', -⟩ := rel_tab hi
    exact hne _ (Y.no hu h9').symm
theorem rel_byte {j N : Nat} {lo hi : Int} (hj : tabM[j]? = some (2, N, lo, hi)) : relM j = false := by
  cases h : relM j with
  | false => rfl
  | true =>
    obtain ⟨t, ht, -, h2⟩ := rel_tab h
    cases Option.some.inj (ht.symm.trans hj)
    exact absurd rfl h2
theorem GM.putB {τ : Nat → Option Ty} {K : Nat → ClassId} {h : Nat} {q : Nat → Nat} {σ σ' : Nat → va_E} (Y : MS τ h q) (G : GM K h q σ) {j N : Nat} (hj : tabM[j]? = some (2, N, -128, 127)) (hok : okMi (K 2) N (-128) 127 (σ' (q j))) (hne : ∀ b : Nat, b ≠ q j → σ' b = σ b) : GM K h q σ' := G.put Y hj (by simp) (rel_byte hj) hok hne
theorem RA.set {f g m f' g' m' : Nat → Int32} (H : RA f g m) (d : Nat) (h1 : ∀ i : Nat, i ≠ d → f' i = f i) (h2 : ∀ i : Nat, i ≠ d → g' i = g i) (h3 : ∀ i : Nat, i < 2 → i ≠ d → m' (8 * i) = m (8 * i)) (h4 : ∀ x y z : Int, f' d = iI x → g' d = iI y → m' (8 * d) = iI z → InR x → InR y → InR z → y ≤ z ∧ (x = 0 → y = 0)) : RA f' g' m' := fun i hi x y z e1 e2 e3 r1 r2 r3 => by
  by_cases e : i = d
  · subst e
    exact h4 x y z e1 e2 e3 r1 r2 r3
  · exact H i hi x y z ((h1 i e).symm.trans e1) ((h2 i e).symm.trans e2) ((h3 i hi e).symm.trans e3) r1 r2 r3
theorem RB.set {f m f' m' : Nat → Int32} (H : RB f m) (d : Nat) (h1 : ∀ i : Nat, i ≠ d → f' i = f i) (h3 : ∀ i k : Nat, i < 2 → i ≠ d → k < 6 → m' (6 * i + k) = m (6 * i + k)) (h5 : ∀ i : Nat, ∃ z : Int, f i = iI z ∧ (0 ≤ z ∧ z ≤ 6)) (h4 : ∀ x : Int, f' d = iI x → InR x → ∀ k : Nat, (k : Int) < x → ∀ z : Int, m' (6 * d + k) = iI z → InR z → 1 ≤ z) : RB f' m' := fun i hi x e1 r1 k hk z e3 r3 => by
  by_cases e : i = d
  · subst e
    exact h4 x e1 r1 k hk z e3 r3
  · have e1' := (h1 i e).symm.trans e1
    obtain ⟨y, e4, r4⟩ := h5 i
    have e5 := (iI_eq (by omega) r1).mp (e4.symm.trans e1')
    exact H i hi x e1' r1 k hk z ((h3 i k hi e (by omega)).symm.trans e3) r3
theorem RC.set {c : Int} {f f' : Nat → Int32} {m m' : Nat → Int64} (H : RC c f m) (d : Nat) (h1 : ∀ i : Nat, i ≠ d → f' i = f i) (h2 : ∀ i : Nat, i ≠ d → m' i = m i) (h4 : ∀ x : Int, f' d = iI x → InR x → c ≤ x → hb (m' d)) : RC c f' m' := fun i hi x e1 r1 hx => by
  by_cases e : i = d
  · subst e
    exact h4 x e1 r1 hx
  · rw [h2 i e]
    exact H i hi x ((h1 i e).symm.trans e1) r1 hx
theorem mod_step {n a e : Int} (h : (n + (-1) * a) % e = 0) (hl : a < n) (he : 0 < e) : a + e ≤ n ∧ (n + (-1) * (a + e)) % e = 0 := by
  obtain ⟨c, hc⟩ := Int.dvd_of_emod_eq_zero h
  have h1 : 1 ≤ c := by
    apply Int.not_lt.mp
    intro q
    have : e * c ≤ e * 0 := Int.mul_le_mul_of_nonneg_left (by omega) (by omega)
    omega
  have h2 : e * 1 ≤ e * c := Int.mul_le_mul_of_nonneg_left h1 (by omega)
  refine ⟨by omega, ?_⟩
  have h3 : n + (-1) * (a + e) = e * (c - 1) := by rw [Int.mul_sub]; omega
  rw [h3]
  exact Int.mul_emod_right e (c - 1)
/-- what the rows of an answer keep: their length divides -/
def RowsOk (σ : Nat → va_E) (a : Nat) (op n : Int) : Prop := ∀ (k : ClassId) (N : Nat) (f : Nat → Int32) (y w : Int), σ a = .inl (k, N, .inl f) → f 1 = iI y → InR y → iI y &&& iI 255 = iI w → (0 ≤ w ∧ w ≤ 255) → (op = 5 → 2 < n ∧ (n + (-1) * 2) % 4 = 0) ∧ (op = 7 → 1 < n ∧ (n + (-1) * 1) % 4 = 0) ∧ (op = 9 → 2 < n ∧ 2 ≤ w ∧ (n + (-1) * 2) % w = 0) ∧ (op = 17 → 2 < n ∧ 4 ≤ w ∧ (n + (-1) * 2) % w = 0)
theorem RowsOk.mk {σ : Nat → va_E} {a : Nat} {op n : Int} {k : ClassId} {N : Nat} {f : Nat → Int32} {y w : Int} (e : σ a = .inl (k, N, .inl f)) (ey : f 1 = iI y) (r : InR y) (ew : iI y &&& iI 255 = iI w) (rw' : 0 ≤ w ∧ w ≤ 255) (H : (op = 5 → 2 < n ∧ (n + (-1) * 2) % 4 = 0) ∧ (op = 7 → 1 < n ∧ (n + (-1) * 1) % 4 = 0) ∧ (op = 9 → 2 < n ∧ 2 ≤ w ∧ (n + (-1) * 2) % w = 0) ∧ (op = 17 → 2 < n ∧ 4 ≤ w ∧ (n + (-1) * 2) % w = 0)) : RowsOk σ a op n := fun k' N' f' y' w' e' ey' r' ew' q' => by
  obtain rfl := arr_inj (e.symm.trans e')
  obtain rfl := (iI_eq r r').mp (ey.symm.trans ey')
  obtain rfl := (iI_eq (by omega) (by omega)).mp (ew.symm.trans ew')
  exact H
theorem tswM {pc : Nat} {offs : Array Int} (h : offs.toList.all (fun o => decide (0 ≤ (pc : Int) + o)) = true) : ∀ (i : Nat) (off : Int), offs[i]? = some off → 0 ≤ (pc : Int) + off := fun i off ho => by
  have hm : off ∈ offs.toList := by
    rw [← Array.getElem?_toList] at ho
    exact List.mem_of_getElem? ho
  exact of_decide_eq_true (List.all_eq_true.mp h off hm)
theorem ym_1 {τ : Nat → Option Ty} {h : Nat} {q : Nat → Nat} (Y : MS τ h q) : τ (q 1) = some (101, 0, 0) := Y.r 1 _ rfl (by decide)
theorem ga_1 {K : Nat → ClassId} {h : Nat} {q : Nat → Nat} {σ : Nat → va_E} (G : GT K h q σ) : okMi (K 2) 100 (-128) (127) (σ (q 1)) := G.r 1 _ rfl (by decide)
theorem gp_1 {τ : Nat → Option Ty} {K : Nat → ClassId} {h : Nat} {q : Nat → Nat} {σ σ' : Nat → va_E} (Y : MS τ h q) (G : GM K h q σ) (hok : okMi (K 2) 100 (-128) (127) (σ' (q 1))) (hne : ∀ b : Nat, b ≠ q 1 → σ' b = σ b) : GM K h q σ' := G.put Y (j := 1) rfl (by decide) rfl hok hne
theorem gq_1 {τ : Nat → Option Ty} {K : Nat → ClassId} {h : Nat} {q : Nat → Nat} {σ σ' : Nat → va_E} (Y : MS τ h q) (G : GT K h q σ) (hok : okMi (K 2) 100 (-128) (127) (σ' (q 1))) (hne : ∀ b : Nat, b ≠ q 1 → σ' b = σ b) : GT K h q σ' := G.put Y (j := 1) rfl (by decide) hok hne
theorem ym_3 {τ : Nat → Option Ty} {h : Nat} {q : Nat → Nat} (Y : MS τ h q) : τ (q 3) = some (103, 0, 0) := Y.r 3 _ rfl (by decide)
theorem ga_3 {K : Nat → ClassId} {h : Nat} {q : Nat → Nat} {σ : Nat → va_E} (G : GT K h q σ) : okMi (K 0) 256 (0) (255) (σ (q 3)) := G.r 3 _ rfl (by decide)
theorem gp_3 {τ : Nat → Option Ty} {K : Nat → ClassId} {h : Nat} {q : Nat → Nat} {σ σ' : Nat → va_E} (Y : MS τ h q) (G : GM K h q σ) (hok : okMi (K 0) 256 (0) (255) (σ' (q 3))) (hne : ∀ b : Nat, b ≠ q 3 → σ' b = σ b) : GM K h q σ' := G.put Y (j := 3) rfl (by decide) rfl hok hne
theorem gq_3 {τ : Nat → Option Ty} {K : Nat → ClassId} {h : Nat} {q : Nat → Nat} {σ σ' : Nat → va_E} (Y : MS τ h q) (G : GT K h q σ) (hok : okMi (K 0) 256 (0) (255) (σ' (q 3))) (hne : ∀ b : Nat, b ≠ q 3 → σ' b = σ b) : GT K h q σ' := G.put Y (j := 3) rfl (by decide) hok hne
theorem ym_4 {τ : Nat → Option Ty} {h : Nat} {q : Nat → Nat} (Y : MS τ h q) : τ (q 4) = some (104, 0, 0) := Y.r 4 _ rfl (by decide)
theorem ga_4 {K : Nat → ClassId} {h : Nat} {q : Nat → Nat} {σ : Nat → va_E} (G : GT K h q σ) : okMi (K 2) 16 (-128) (127) (σ (q 4)) := G.r 4 _ rfl (by decide)
theorem gp_4 {τ : Nat → Option Ty} {K : Nat → ClassId} {h : Nat} {q : Nat → Nat} {σ σ' : Nat → va_E} (Y : MS τ h q) (G : GM K h q σ) (hok : okMi (K 2) 16 (-128) (127) (σ' (q 4))) (hne : ∀ b : Nat, b ≠ q 4 → σ' b = σ b) : GM K h q σ' := G.put Y (j := 4) rfl (by decide) rfl hok hne
theorem gq_4 {τ : Nat → Option Ty} {K : Nat → ClassId} {h : Nat} {q : Nat → Nat} {σ σ' : Nat → va_E} (Y : MS τ h q) (G : GT K h q σ) (hok : okMi (K 2) 16 (-128) (127) (σ' (q 4))) (hne : ∀ b : Nat, b ≠ q 4 → σ' b = σ b) : GT K h q σ' := G.put Y (j := 4) rfl (by decide) hok hne
theorem ym_5 {τ : Nat → Option Ty} {h : Nat} {q : Nat → Nat} (Y : MS τ h q) : τ (q 5) = some (105, 0, 0) := Y.r 5 _ rfl (by decide)
theorem ga_5 {K : Nat → ClassId} {h : Nat} {q : Nat → Nat} {σ : Nat → va_E} (G : GT K h q σ) : okMi (K 2) 16 (-128) (127) (σ (q 5)) := G.r 5 _ rfl (by decide)
theorem gp_5 {τ : Nat → Option Ty} {K : Nat → ClassId} {h : Nat} {q : Nat → Nat} {σ σ' : Nat → va_E} (Y : MS τ h q) (G : GM K h q σ) (hok : okMi (K 2) 16 (-128) (127) (σ' (q 5))) (hne : ∀ b : Nat, b ≠ q 5 → σ' b = σ b) : GM K h q σ' := G.put Y (j := 5) rfl (by decide) rfl hok hne
theorem gq_5 {τ : Nat → Option Ty} {K : Nat → ClassId} {h : Nat} {q : Nat → Nat} {σ σ' : Nat → va_E} (Y : MS τ h q) (G : GT K h q σ) (hok : okMi (K 2) 16 (-128) (127) (σ' (q 5))) (hne : ∀ b : Nat, b ≠ q 5 → σ' b = σ b) : GT K h q σ' := G.put Y (j := 5) rfl (by decide) hok hne
theorem ym_6 {τ : Nat → Option Ty} {h : Nat} {q : Nat → Nat} (Y : MS τ h q) : τ (q 6) = some (106, 0, 0) := Y.r 6 _ rfl (by decide)
theorem ga_6 {K : Nat → ClassId} {h : Nat} {q : Nat → Nat} {σ : Nat → va_E} (G : GT K h q σ) : okMi (K 2) 16 (-128) (127) (σ (q 6)) := G.r 6 _ rfl (by decide)
theorem gp_6 {τ : Nat → Option Ty} {K : Nat → ClassId} {h : Nat} {q : Nat → Nat} {σ σ' : Nat → va_E} (Y : MS τ h q) (G : GM K h q σ) (hok : okMi (K 2) 16 (-128) (127) (σ' (q 6))) (hne : ∀ b : Nat, b ≠ q 6 → σ' b = σ b) : GM K h q σ' := G.put Y (j := 6) rfl (by decide) rfl hok hne
theorem gq_6 {τ : Nat → Option Ty} {K : Nat → ClassId} {h : Nat} {q : Nat → Nat} {σ σ' : Nat → va_E} (Y : MS τ h q) (G : GT K h q σ) (hok : okMi (K 2) 16 (-128) (127) (σ' (q 6))) (hne : ∀ b : Nat, b ≠ q 6 → σ' b = σ b) : GT K h q σ' := G.put Y (j := 6) rfl (by decide) hok hne
theorem ym_7 {τ : Nat → Option Ty} {h : Nat} {q : Nat → Nat} (Y : MS τ h q) : τ (q 7) = some (107, 0, 0) := Y.r 7 _ rfl (by decide)
theorem ga_7 {K : Nat → ClassId} {h : Nat} {q : Nat → Nat} {σ : Nat → va_E} (G : GT K h q σ) : okMi (K 0) 2 (0) (5) (σ (q 7)) := G.r 7 _ rfl (by decide)
theorem gp_7 {τ : Nat → Option Ty} {K : Nat → ClassId} {h : Nat} {q : Nat → Nat} {σ σ' : Nat → va_E} (Y : MS τ h q) (G : GT K h q σ) (hok : okMi (K 0) 2 (0) (5) (σ' (q 7))) (hne : ∀ b : Nat, b ≠ q 7 → σ' b = σ b) : GT K h q σ' := G.put Y (j := 7) rfl (by decide) hok hne
theorem ym_8 {τ : Nat → Option Ty} {h : Nat} {q : Nat → Nat} (Y : MS τ h q) : τ (q 8) = some (108, 0, 0) := Y.r 8 _ rfl (by decide)
theorem ga_8 {K : Nat → ClassId} {h : Nat} {q : Nat → Nat} {σ : Nat → va_E} (G : GT K h q σ) : okMi (K 0) 2 (-2147483648) (2147483647) (σ (q 8)) := G.r 8 _ rfl (by decide)
theorem gp_8 {τ : Nat → Option Ty} {K : Nat → ClassId} {h : Nat} {q : Nat → Nat} {σ σ' : Nat → va_E} (Y : MS τ h q) (G : GM K h q σ) (hok : okMi (K 0) 2 (-2147483648) (2147483647) (σ' (q 8))) (hne : ∀ b : Nat, b ≠ q 8 → σ' b = σ b) : GM K h q σ' := G.put Y (j := 8) rfl (by decide) rfl hok hne
theorem gq_8 {τ : Nat → Option Ty} {K : Nat → ClassId} {h : Nat} {q : Nat → Nat} {σ σ' : Nat → va_E} (Y : MS τ h q) (G : GT K h q σ) (hok : okMi (K 0) 2 (-2147483648) (2147483647) (σ' (q 8))) (hne : ∀ b : Nat, b ≠ q 8 → σ' b = σ b) : GT K h q σ' := G.put Y (j := 8) rfl (by decide) hok hne
theorem ym_9 {τ : Nat → Option Ty} {h : Nat} {q : Nat → Nat} (Y : MS τ h q) : τ (q 9) = some (109, 0, 0) := Y.r 9 _ rfl (by decide)
theorem ga_9 {K : Nat → ClassId} {h : Nat} {q : Nat → Nat} {σ : Nat → va_E} (G : GT K h q σ) : okMi (K 0) 2 (-2147483648) (2147483647) (σ (q 9)) := G.r 9 _ rfl (by decide)
theorem gp_9 {τ : Nat → Option Ty} {K : Nat → ClassId} {h : Nat} {q : Nat → Nat} {σ σ' : Nat → va_E} (Y : MS τ h q) (G : GM K h q σ) (hok : okMi (K 0) 2 (-2147483648) (2147483647) (σ' (q 9))) (hne : ∀ b : Nat, b ≠ q 9 → σ' b = σ b) : GM K h q σ' := G.put Y (j := 9) rfl (by decide) rfl hok hne
theorem gq_9 {τ : Nat → Option Ty} {K : Nat → ClassId} {h : Nat} {q : Nat → Nat} {σ σ' : Nat → va_E} (Y : MS τ h q) (G : GT K h q σ) (hok : okMi (K 0) 2 (-2147483648) (2147483647) (σ' (q 9))) (hne : ∀ b : Nat, b ≠ q 9 → σ' b = σ b) : GT K h q σ' := G.put Y (j := 9) rfl (by decide) hok hne
theorem ym_10 {τ : Nat → Option Ty} {h : Nat} {q : Nat → Nat} (Y : MS τ h q) : τ (q 10) = some (110, 0, 0) := Y.r 10 _ rfl (by decide)
theorem ga_10 {K : Nat → ClassId} {h : Nat} {q : Nat → Nat} {σ : Nat → va_E} (G : GT K h q σ) : okMi (K 0) 2 (-2147483648) (2147483647) (σ (q 10)) := G.r 10 _ rfl (by decide)
theorem gp_10 {τ : Nat → Option Ty} {K : Nat → ClassId} {h : Nat} {q : Nat → Nat} {σ σ' : Nat → va_E} (Y : MS τ h q) (G : GM K h q σ) (hok : okMi (K 0) 2 (-2147483648) (2147483647) (σ' (q 10))) (hne : ∀ b : Nat, b ≠ q 10 → σ' b = σ b) : GM K h q σ' := G.put Y (j := 10) rfl (by decide) rfl hok hne
theorem gq_10 {τ : Nat → Option Ty} {K : Nat → ClassId} {h : Nat} {q : Nat → Nat} {σ σ' : Nat → va_E} (Y : MS τ h q) (G : GT K h q σ) (hok : okMi (K 0) 2 (-2147483648) (2147483647) (σ' (q 10))) (hne : ∀ b : Nat, b ≠ q 10 → σ' b = σ b) : GT K h q σ' := G.put Y (j := 10) rfl (by decide) hok hne
theorem ym_11 {τ : Nat → Option Ty} {h : Nat} {q : Nat → Nat} (Y : MS τ h q) : τ (q 11) = some (111, 0, 0) := Y.r 11 _ rfl (by decide)
theorem ga_11 {K : Nat → ClassId} {h : Nat} {q : Nat → Nat} {σ : Nat → va_E} (G : GT K h q σ) : okMi (K 0) 2 (0) (20) (σ (q 11)) := G.r 11 _ rfl (by decide)
theorem gp_11 {τ : Nat → Option Ty} {K : Nat → ClassId} {h : Nat} {q : Nat → Nat} {σ σ' : Nat → va_E} (Y : MS τ h q) (G : GM K h q σ) (hok : okMi (K 0) 2 (0) (20) (σ' (q 11))) (hne : ∀ b : Nat, b ≠ q 11 → σ' b = σ b) : GM K h q σ' := G.put Y (j := 11) rfl (by decide) rfl hok hne
theorem gq_11 {τ : Nat → Option Ty} {K : Nat → ClassId} {h : Nat} {q : Nat → Nat} {σ σ' : Nat → va_E} (Y : MS τ h q) (G : GT K h q σ) (hok : okMi (K 0) 2 (0) (20) (σ' (q 11))) (hne : ∀ b : Nat, b ≠ q 11 → σ' b = σ b) : GT K h q σ' := G.put Y (j := 11) rfl (by decide) hok hne
theorem ym_12 {τ : Nat → Option Ty} {h : Nat} {q : Nat → Nat} (Y : MS τ h q) : τ (q 12) = some (112, 0, 0) := Y.r 12 _ rfl (by decide)
theorem ga_12 {K : Nat → ClassId} {h : Nat} {q : Nat → Nat} {σ : Nat → va_E} (G : GT K h q σ) : okMl (K 1) 2 (σ (q 12)) := G.r 12 _ rfl (by decide)
theorem gp_12 {τ : Nat → Option Ty} {K : Nat → ClassId} {h : Nat} {q : Nat → Nat} {σ σ' : Nat → va_E} (Y : MS τ h q) (G : GM K h q σ) (hok : okMl (K 1) 2 (σ' (q 12))) (hne : ∀ b : Nat, b ≠ q 12 → σ' b = σ b) : GM K h q σ' := G.put Y (j := 12) rfl (by decide) rfl hok hne
theorem gq_12 {τ : Nat → Option Ty} {K : Nat → ClassId} {h : Nat} {q : Nat → Nat} {σ σ' : Nat → va_E} (Y : MS τ h q) (G : GT K h q σ) (hok : okMl (K 1) 2 (σ' (q 12))) (hne : ∀ b : Nat, b ≠ q 12 → σ' b = σ b) : GT K h q σ' := G.put Y (j := 12) rfl (by decide) hok hne
theorem ym_13 {τ : Nat → Option Ty} {h : Nat} {q : Nat → Nat} (Y : MS τ h q) : τ (q 13) = some (113, 0, 0) := Y.r 13 _ rfl (by decide)
theorem ga_13 {K : Nat → ClassId} {h : Nat} {q : Nat → Nat} {σ : Nat → va_E} (G : GT K h q σ) : okMl (K 1) 2 (σ (q 13)) := G.r 13 _ rfl (by decide)
theorem gp_13 {τ : Nat → Option Ty} {K : Nat → ClassId} {h : Nat} {q : Nat → Nat} {σ σ' : Nat → va_E} (Y : MS τ h q) (G : GM K h q σ) (hok : okMl (K 1) 2 (σ' (q 13))) (hne : ∀ b : Nat, b ≠ q 13 → σ' b = σ b) : GM K h q σ' := G.put Y (j := 13) rfl (by decide) rfl hok hne
theorem gq_13 {τ : Nat → Option Ty} {K : Nat → ClassId} {h : Nat} {q : Nat → Nat} {σ σ' : Nat → va_E} (Y : MS τ h q) (G : GT K h q σ) (hok : okMl (K 1) 2 (σ' (q 13))) (hne : ∀ b : Nat, b ≠ q 13 → σ' b = σ b) : GT K h q σ' := G.put Y (j := 13) rfl (by decide) hok hne
theorem ym_14 {τ : Nat → Option Ty} {h : Nat} {q : Nat → Nat} (Y : MS τ h q) : τ (q 14) = some (114, 0, 0) := Y.r 14 _ rfl (by decide)
theorem ga_14 {K : Nat → ClassId} {h : Nat} {q : Nat → Nat} {σ : Nat → va_E} (G : GT K h q σ) : okMl (K 1) 2 (σ (q 14)) := G.r 14 _ rfl (by decide)
theorem gp_14 {τ : Nat → Option Ty} {K : Nat → ClassId} {h : Nat} {q : Nat → Nat} {σ σ' : Nat → va_E} (Y : MS τ h q) (G : GM K h q σ) (hok : okMl (K 1) 2 (σ' (q 14))) (hne : ∀ b : Nat, b ≠ q 14 → σ' b = σ b) : GM K h q σ' := G.put Y (j := 14) rfl (by decide) rfl hok hne
theorem gq_14 {τ : Nat → Option Ty} {K : Nat → ClassId} {h : Nat} {q : Nat → Nat} {σ σ' : Nat → va_E} (Y : MS τ h q) (G : GT K h q σ) (hok : okMl (K 1) 2 (σ' (q 14))) (hne : ∀ b : Nat, b ≠ q 14 → σ' b = σ b) : GT K h q σ' := G.put Y (j := 14) rfl (by decide) hok hne
theorem ym_15 {τ : Nat → Option Ty} {h : Nat} {q : Nat → Nat} (Y : MS τ h q) : τ (q 15) = some (115, 0, 0) := Y.r 15 _ rfl (by decide)
theorem ga_15 {K : Nat → ClassId} {h : Nat} {q : Nat → Nat} {σ : Nat → va_E} (G : GT K h q σ) : okMl (K 1) 2 (σ (q 15)) := G.r 15 _ rfl (by decide)
theorem gp_15 {τ : Nat → Option Ty} {K : Nat → ClassId} {h : Nat} {q : Nat → Nat} {σ σ' : Nat → va_E} (Y : MS τ h q) (G : GT K h q σ) (hok : okMl (K 1) 2 (σ' (q 15))) (hne : ∀ b : Nat, b ≠ q 15 → σ' b = σ b) : GT K h q σ' := G.put Y (j := 15) rfl (by decide) hok hne
theorem ym_16 {τ : Nat → Option Ty} {h : Nat} {q : Nat → Nat} (Y : MS τ h q) : τ (q 16) = some (116, 0, 0) := Y.r 16 _ rfl (by decide)
theorem ga_16 {K : Nat → ClassId} {h : Nat} {q : Nat → Nat} {σ : Nat → va_E} (G : GT K h q σ) : okMl (K 1) 2 (σ (q 16)) := G.r 16 _ rfl (by decide)
theorem gp_16 {τ : Nat → Option Ty} {K : Nat → ClassId} {h : Nat} {q : Nat → Nat} {σ σ' : Nat → va_E} (Y : MS τ h q) (G : GT K h q σ) (hok : okMl (K 1) 2 (σ' (q 16))) (hne : ∀ b : Nat, b ≠ q 16 → σ' b = σ b) : GT K h q σ' := G.put Y (j := 16) rfl (by decide) hok hne
theorem ym_17 {τ : Nat → Option Ty} {h : Nat} {q : Nat → Nat} (Y : MS τ h q) : τ (q 17) = some (117, 0, 0) := Y.r 17 _ rfl (by decide)
theorem ga_17 {K : Nat → ClassId} {h : Nat} {q : Nat → Nat} {σ : Nat → va_E} (G : GT K h q σ) : okMl (K 1) 2 (σ (q 17)) := G.r 17 _ rfl (by decide)
theorem gp_17 {τ : Nat → Option Ty} {K : Nat → ClassId} {h : Nat} {q : Nat → Nat} {σ σ' : Nat → va_E} (Y : MS τ h q) (G : GM K h q σ) (hok : okMl (K 1) 2 (σ' (q 17))) (hne : ∀ b : Nat, b ≠ q 17 → σ' b = σ b) : GM K h q σ' := G.put Y (j := 17) rfl (by decide) rfl hok hne
theorem gq_17 {τ : Nat → Option Ty} {K : Nat → ClassId} {h : Nat} {q : Nat → Nat} {σ σ' : Nat → va_E} (Y : MS τ h q) (G : GT K h q σ) (hok : okMl (K 1) 2 (σ' (q 17))) (hne : ∀ b : Nat, b ≠ q 17 → σ' b = σ b) : GT K h q σ' := G.put Y (j := 17) rfl (by decide) hok hne
theorem ym_18 {τ : Nat → Option Ty} {h : Nat} {q : Nat → Nat} (Y : MS τ h q) : τ (q 18) = some (118, 0, 0) := Y.r 18 _ rfl (by decide)
theorem ga_18 {K : Nat → ClassId} {h : Nat} {q : Nat → Nat} {σ : Nat → va_E} (G : GT K h q σ) : okMl (K 1) 2 (σ (q 18)) := G.r 18 _ rfl (by decide)
theorem gp_18 {τ : Nat → Option Ty} {K : Nat → ClassId} {h : Nat} {q : Nat → Nat} {σ σ' : Nat → va_E} (Y : MS τ h q) (G : GM K h q σ) (hok : okMl (K 1) 2 (σ' (q 18))) (hne : ∀ b : Nat, b ≠ q 18 → σ' b = σ b) : GM K h q σ' := G.put Y (j := 18) rfl (by decide) rfl hok hne
theorem gq_18 {τ : Nat → Option Ty} {K : Nat → ClassId} {h : Nat} {q : Nat → Nat} {σ σ' : Nat → va_E} (Y : MS τ h q) (G : GT K h q σ) (hok : okMl (K 1) 2 (σ' (q 18))) (hne : ∀ b : Nat, b ≠ q 18 → σ' b = σ b) : GT K h q σ' := G.put Y (j := 18) rfl (by decide) hok hne
theorem ym_19 {τ : Nat → Option Ty} {h : Nat} {q : Nat → Nat} (Y : MS τ h q) : τ (q 19) = some (119, 0, 0) := Y.r 19 _ rfl (by decide)
theorem ga_19 {K : Nat → ClassId} {h : Nat} {q : Nat → Nat} {σ : Nat → va_E} (G : GT K h q σ) : okMi (K 2) 40 (-128) (127) (σ (q 19)) := G.r 19 _ rfl (by decide)
theorem gp_19 {τ : Nat → Option Ty} {K : Nat → ClassId} {h : Nat} {q : Nat → Nat} {σ σ' : Nat → va_E} (Y : MS τ h q) (G : GM K h q σ) (hok : okMi (K 2) 40 (-128) (127) (σ' (q 19))) (hne : ∀ b : Nat, b ≠ q 19 → σ' b = σ b) : GM K h q σ' := G.put Y (j := 19) rfl (by decide) rfl hok hne
theorem gq_19 {τ : Nat → Option Ty} {K : Nat → ClassId} {h : Nat} {q : Nat → Nat} {σ σ' : Nat → va_E} (Y : MS τ h q) (G : GT K h q σ) (hok : okMi (K 2) 40 (-128) (127) (σ' (q 19))) (hne : ∀ b : Nat, b ≠ q 19 → σ' b = σ b) : GT K h q σ' := G.put Y (j := 19) rfl (by decide) hok hne
theorem ym_20 {τ : Nat → Option Ty} {h : Nat} {q : Nat → Nat} (Y : MS τ h q) : τ (q 20) = some (120, 0, 0) := Y.r 20 _ rfl (by decide)
theorem ga_20 {K : Nat → ClassId} {h : Nat} {q : Nat → Nat} {σ : Nat → va_E} (G : GT K h q σ) : okMi (K 2) 64 (-128) (127) (σ (q 20)) := G.r 20 _ rfl (by decide)
theorem gp_20 {τ : Nat → Option Ty} {K : Nat → ClassId} {h : Nat} {q : Nat → Nat} {σ σ' : Nat → va_E} (Y : MS τ h q) (G : GM K h q σ) (hok : okMi (K 2) 64 (-128) (127) (σ' (q 20))) (hne : ∀ b : Nat, b ≠ q 20 → σ' b = σ b) : GM K h q σ' := G.put Y (j := 20) rfl (by decide) rfl hok hne
theorem gq_20 {τ : Nat → Option Ty} {K : Nat → ClassId} {h : Nat} {q : Nat → Nat} {σ σ' : Nat → va_E} (Y : MS τ h q) (G : GT K h q σ) (hok : okMi (K 2) 64 (-128) (127) (σ' (q 20))) (hne : ∀ b : Nat, b ≠ q 20 → σ' b = σ b) : GT K h q σ' := G.put Y (j := 20) rfl (by decide) hok hne
theorem ym_21 {τ : Nat → Option Ty} {h : Nat} {q : Nat → Nat} (Y : MS τ h q) : τ (q 21) = some (121, 0, 0) := Y.r 21 _ rfl (by decide)
theorem ga_21 {K : Nat → ClassId} {h : Nat} {q : Nat → Nat} {σ : Nat → va_E} (G : GT K h q σ) : okMi (K 0) 2 (-2147483648) (2147483647) (σ (q 21)) := G.r 21 _ rfl (by decide)
theorem gp_21 {τ : Nat → Option Ty} {K : Nat → ClassId} {h : Nat} {q : Nat → Nat} {σ σ' : Nat → va_E} (Y : MS τ h q) (G : GM K h q σ) (hok : okMi (K 0) 2 (-2147483648) (2147483647) (σ' (q 21))) (hne : ∀ b : Nat, b ≠ q 21 → σ' b = σ b) : GM K h q σ' := G.put Y (j := 21) rfl (by decide) rfl hok hne
theorem gq_21 {τ : Nat → Option Ty} {K : Nat → ClassId} {h : Nat} {q : Nat → Nat} {σ σ' : Nat → va_E} (Y : MS τ h q) (G : GT K h q σ) (hok : okMi (K 0) 2 (-2147483648) (2147483647) (σ' (q 21))) (hne : ∀ b : Nat, b ≠ q 21 → σ' b = σ b) : GT K h q σ' := G.put Y (j := 21) rfl (by decide) hok hne
theorem ym_22 {τ : Nat → Option Ty} {h : Nat} {q : Nat → Nat} (Y : MS τ h q) : τ (q 22) = some (122, 0, 0) := Y.r 22 _ rfl (by decide)
theorem ga_22 {K : Nat → ClassId} {h : Nat} {q : Nat → Nat} {σ : Nat → va_E} (G : GT K h q σ) : okMi (K 0) 2 (0) (31) (σ (q 22)) := G.r 22 _ rfl (by decide)
theorem gp_22 {τ : Nat → Option Ty} {K : Nat → ClassId} {h : Nat} {q : Nat → Nat} {σ σ' : Nat → va_E} (Y : MS τ h q) (G : GM K h q σ) (hok : okMi (K 0) 2 (0) (31) (σ' (q 22))) (hne : ∀ b : Nat, b ≠ q 22 → σ' b = σ b) : GM K h q σ' := G.put Y (j := 22) rfl (by decide) rfl hok hne
theorem gq_22 {τ : Nat → Option Ty} {K : Nat → ClassId} {h : Nat} {q : Nat → Nat} {σ σ' : Nat → va_E} (Y : MS τ h q) (G : GT K h q σ) (hok : okMi (K 0) 2 (0) (31) (σ' (q 22))) (hne : ∀ b : Nat, b ≠ q 22 → σ' b = σ b) : GT K h q σ' := G.put Y (j := 22) rfl (by decide) hok hne
theorem ym_23 {τ : Nat → Option Ty} {h : Nat} {q : Nat → Nat} (Y : MS τ h q) : τ (q 23) = some (123, 0, 0) := Y.r 23 _ rfl (by decide)
theorem ga_23 {K : Nat → ClassId} {h : Nat} {q : Nat → Nat} {σ : Nat → va_E} (G : GT K h q σ) : okMi (K 0) 2 (-2147483648) (2147483647) (σ (q 23)) := G.r 23 _ rfl (by decide)
theorem gp_23 {τ : Nat → Option Ty} {K : Nat → ClassId} {h : Nat} {q : Nat → Nat} {σ σ' : Nat → va_E} (Y : MS τ h q) (G : GM K h q σ) (hok : okMi (K 0) 2 (-2147483648) (2147483647) (σ' (q 23))) (hne : ∀ b : Nat, b ≠ q 23 → σ' b = σ b) : GM K h q σ' := G.put Y (j := 23) rfl (by decide) rfl hok hne
theorem gq_23 {τ : Nat → Option Ty} {K : Nat → ClassId} {h : Nat} {q : Nat → Nat} {σ σ' : Nat → va_E} (Y : MS τ h q) (G : GT K h q σ) (hok : okMi (K 0) 2 (-2147483648) (2147483647) (σ' (q 23))) (hne : ∀ b : Nat, b ≠ q 23 → σ' b = σ b) : GT K h q σ' := G.put Y (j := 23) rfl (by decide) hok hne
theorem ym_24 {τ : Nat → Option Ty} {h : Nat} {q : Nat → Nat} (Y : MS τ h q) : τ (q 24) = some (124, 0, 0) := Y.r 24 _ rfl (by decide)
theorem ga_24 {K : Nat → ClassId} {h : Nat} {q : Nat → Nat} {σ : Nat → va_E} (G : GT K h q σ) : okMi (K 0) 2 (0) (64) (σ (q 24)) := G.r 24 _ rfl (by decide)
theorem gp_24 {τ : Nat → Option Ty} {K : Nat → ClassId} {h : Nat} {q : Nat → Nat} {σ σ' : Nat → va_E} (Y : MS τ h q) (G : GM K h q σ) (hok : okMi (K 0) 2 (0) (64) (σ' (q 24))) (hne : ∀ b : Nat, b ≠ q 24 → σ' b = σ b) : GM K h q σ' := G.put Y (j := 24) rfl (by decide) rfl hok hne
theorem gq_24 {τ : Nat → Option Ty} {K : Nat → ClassId} {h : Nat} {q : Nat → Nat} {σ σ' : Nat → va_E} (Y : MS τ h q) (G : GT K h q σ) (hok : okMi (K 0) 2 (0) (64) (σ' (q 24))) (hne : ∀ b : Nat, b ≠ q 24 → σ' b = σ b) : GT K h q σ' := G.put Y (j := 24) rfl (by decide) hok hne
theorem ym_25 {τ : Nat → Option Ty} {h : Nat} {q : Nat → Nat} (Y : MS τ h q) : τ (q 25) = some (125, 0, 0) := Y.r 25 _ rfl (by decide)
theorem ga_25 {K : Nat → ClassId} {h : Nat} {q : Nat → Nat} {σ : Nat → va_E} (G : GT K h q σ) : okMi (K 0) 128 (0) (319) (σ (q 25)) := G.r 25 _ rfl (by decide)
theorem gp_25 {τ : Nat → Option Ty} {K : Nat → ClassId} {h : Nat} {q : Nat → Nat} {σ σ' : Nat → va_E} (Y : MS τ h q) (G : GM K h q σ) (hok : okMi (K 0) 128 (0) (319) (σ' (q 25))) (hne : ∀ b : Nat, b ≠ q 25 → σ' b = σ b) : GM K h q σ' := G.put Y (j := 25) rfl (by decide) rfl hok hne
theorem gq_25 {τ : Nat → Option Ty} {K : Nat → ClassId} {h : Nat} {q : Nat → Nat} {σ σ' : Nat → va_E} (Y : MS τ h q) (G : GT K h q σ) (hok : okMi (K 0) 128 (0) (319) (σ' (q 25))) (hne : ∀ b : Nat, b ≠ q 25 → σ' b = σ b) : GT K h q σ' := G.put Y (j := 25) rfl (by decide) hok hne
theorem ym_26 {τ : Nat → Option Ty} {h : Nat} {q : Nat → Nat} (Y : MS τ h q) : τ (q 26) = some (126, 0, 0) := Y.r 26 _ rfl (by decide)
theorem ga_26 {K : Nat → ClassId} {h : Nat} {q : Nat → Nat} {σ : Nat → va_E} (G : GT K h q σ) : okMi (K 0) 2 (-2147483648) (2147483647) (σ (q 26)) := G.r 26 _ rfl (by decide)
theorem gp_26 {τ : Nat → Option Ty} {K : Nat → ClassId} {h : Nat} {q : Nat → Nat} {σ σ' : Nat → va_E} (Y : MS τ h q) (G : GM K h q σ) (hok : okMi (K 0) 2 (-2147483648) (2147483647) (σ' (q 26))) (hne : ∀ b : Nat, b ≠ q 26 → σ' b = σ b) : GM K h q σ' := G.put Y (j := 26) rfl (by decide) rfl hok hne
theorem gq_26 {τ : Nat → Option Ty} {K : Nat → ClassId} {h : Nat} {q : Nat → Nat} {σ σ' : Nat → va_E} (Y : MS τ h q) (G : GT K h q σ) (hok : okMi (K 0) 2 (-2147483648) (2147483647) (σ' (q 26))) (hne : ∀ b : Nat, b ≠ q 26 → σ' b = σ b) : GT K h q σ' := G.put Y (j := 26) rfl (by decide) hok hne
theorem ym_27 {τ : Nat → Option Ty} {h : Nat} {q : Nat → Nat} (Y : MS τ h q) : τ (q 27) = some (127, 0, 0) := Y.r 27 _ rfl (by decide)
theorem ga_27 {K : Nat → ClassId} {h : Nat} {q : Nat → Nat} {σ : Nat → va_E} (G : GT K h q σ) : okMi (K 0) 2 (0) (16) (σ (q 27)) := G.r 27 _ rfl (by decide)
theorem gp_27 {τ : Nat → Option Ty} {K : Nat → ClassId} {h : Nat} {q : Nat → Nat} {σ σ' : Nat → va_E} (Y : MS τ h q) (G : GM K h q σ) (hok : okMi (K 0) 2 (0) (16) (σ' (q 27))) (hne : ∀ b : Nat, b ≠ q 27 → σ' b = σ b) : GM K h q σ' := G.put Y (j := 27) rfl (by decide) rfl hok hne
theorem gq_27 {τ : Nat → Option Ty} {K : Nat → ClassId} {h : Nat} {q : Nat → Nat} {σ σ' : Nat → va_E} (Y : MS τ h q) (G : GT K h q σ) (hok : okMi (K 0) 2 (0) (16) (σ' (q 27))) (hne : ∀ b : Nat, b ≠ q 27 → σ' b = σ b) : GT K h q σ' := G.put Y (j := 27) rfl (by decide) hok hne
theorem ym_28 {τ : Nat → Option Ty} {h : Nat} {q : Nat → Nat} (Y : MS τ h q) : τ (q 28) = some (128, 0, 0) := Y.r 28 _ rfl (by decide)
theorem ga_28 {K : Nat → ClassId} {h : Nat} {q : Nat → Nat} {σ : Nat → va_E} (G : GT K h q σ) : okMi (K 0) 2 (-2147483648) (2147483647) (σ (q 28)) := G.r 28 _ rfl (by decide)
theorem gp_28 {τ : Nat → Option Ty} {K : Nat → ClassId} {h : Nat} {q : Nat → Nat} {σ σ' : Nat → va_E} (Y : MS τ h q) (G : GM K h q σ) (hok : okMi (K 0) 2 (-2147483648) (2147483647) (σ' (q 28))) (hne : ∀ b : Nat, b ≠ q 28 → σ' b = σ b) : GM K h q σ' := G.put Y (j := 28) rfl (by decide) rfl hok hne
theorem gq_28 {τ : Nat → Option Ty} {K : Nat → ClassId} {h : Nat} {q : Nat → Nat} {σ σ' : Nat → va_E} (Y : MS τ h q) (G : GT K h q σ) (hok : okMi (K 0) 2 (-2147483648) (2147483647) (σ' (q 28))) (hne : ∀ b : Nat, b ≠ q 28 → σ' b = σ b) : GT K h q σ' := G.put Y (j := 28) rfl (by decide) hok hne
theorem ym_29 {τ : Nat → Option Ty} {h : Nat} {q : Nat → Nat} (Y : MS τ h q) : τ (q 29) = some (129, 0, 0) := Y.r 29 _ rfl (by decide)
theorem ga_29 {K : Nat → ClassId} {h : Nat} {q : Nat → Nat} {σ : Nat → va_E} (G : GT K h q σ) : okMi (K 0) 2 (-2147483648) (2147483647) (σ (q 29)) := G.r 29 _ rfl (by decide)
theorem gp_29 {τ : Nat → Option Ty} {K : Nat → ClassId} {h : Nat} {q : Nat → Nat} {σ σ' : Nat → va_E} (Y : MS τ h q) (G : GM K h q σ) (hok : okMi (K 0) 2 (-2147483648) (2147483647) (σ' (q 29))) (hne : ∀ b : Nat, b ≠ q 29 → σ' b = σ b) : GM K h q σ' := G.put Y (j := 29) rfl (by decide) rfl hok hne
theorem gq_29 {τ : Nat → Option Ty} {K : Nat → ClassId} {h : Nat} {q : Nat → Nat} {σ σ' : Nat → va_E} (Y : MS τ h q) (G : GT K h q σ) (hok : okMi (K 0) 2 (-2147483648) (2147483647) (σ' (q 29))) (hne : ∀ b : Nat, b ≠ q 29 → σ' b = σ b) : GT K h q σ' := G.put Y (j := 29) rfl (by decide) hok hne
theorem ym_30 {τ : Nat → Option Ty} {h : Nat} {q : Nat → Nat} (Y : MS τ h q) : τ (q 30) = some (130, 0, 0) := Y.r 30 _ rfl (by decide)
theorem ga_30 {K : Nat → ClassId} {h : Nat} {q : Nat → Nat} {σ : Nat → va_E} (G : GT K h q σ) : okMi (K 0) 2 (0) (36) (σ (q 30)) := G.r 30 _ rfl (by decide)
theorem gp_30 {τ : Nat → Option Ty} {K : Nat → ClassId} {h : Nat} {q : Nat → Nat} {σ σ' : Nat → va_E} (Y : MS τ h q) (G : GM K h q σ) (hok : okMi (K 0) 2 (0) (36) (σ' (q 30))) (hne : ∀ b : Nat, b ≠ q 30 → σ' b = σ b) : GM K h q σ' := G.put Y (j := 30) rfl (by decide) rfl hok hne
theorem gq_30 {τ : Nat → Option Ty} {K : Nat → ClassId} {h : Nat} {q : Nat → Nat} {σ σ' : Nat → va_E} (Y : MS τ h q) (G : GT K h q σ) (hok : okMi (K 0) 2 (0) (36) (σ' (q 30))) (hne : ∀ b : Nat, b ≠ q 30 → σ' b = σ b) : GT K h q σ' := G.put Y (j := 30) rfl (by decide) hok hne
theorem ym_31 {τ : Nat → Option Ty} {h : Nat} {q : Nat → Nat} (Y : MS τ h q) : τ (q 31) = some (131, 0, 0) := Y.r 31 _ rfl (by decide)
theorem ga_31 {K : Nat → ClassId} {h : Nat} {q : Nat → Nat} {σ : Nat → va_E} (G : GT K h q σ) : okMi (K 0) 2 (-2147483648) (2147483647) (σ (q 31)) := G.r 31 _ rfl (by decide)
theorem gp_31 {τ : Nat → Option Ty} {K : Nat → ClassId} {h : Nat} {q : Nat → Nat} {σ σ' : Nat → va_E} (Y : MS τ h q) (G : GM K h q σ) (hok : okMi (K 0) 2 (-2147483648) (2147483647) (σ' (q 31))) (hne : ∀ b : Nat, b ≠ q 31 → σ' b = σ b) : GM K h q σ' := G.put Y (j := 31) rfl (by decide) rfl hok hne
theorem gq_31 {τ : Nat → Option Ty} {K : Nat → ClassId} {h : Nat} {q : Nat → Nat} {σ σ' : Nat → va_E} (Y : MS τ h q) (G : GT K h q σ) (hok : okMi (K 0) 2 (-2147483648) (2147483647) (σ' (q 31))) (hne : ∀ b : Nat, b ≠ q 31 → σ' b = σ b) : GT K h q σ' := G.put Y (j := 31) rfl (by decide) hok hne
theorem ym_32 {τ : Nat → Option Ty} {h : Nat} {q : Nat → Nat} (Y : MS τ h q) : τ (q 32) = some (132, 0, 0) := Y.r 32 _ rfl (by decide)
theorem ga_32 {K : Nat → ClassId} {h : Nat} {q : Nat → Nat} {σ : Nat → va_E} (G : GT K h q σ) : okMi (K 0) 2 (-2147483648) (2147483647) (σ (q 32)) := G.r 32 _ rfl (by decide)
theorem gp_32 {τ : Nat → Option Ty} {K : Nat → ClassId} {h : Nat} {q : Nat → Nat} {σ σ' : Nat → va_E} (Y : MS τ h q) (G : GM K h q σ) (hok : okMi (K 0) 2 (-2147483648) (2147483647) (σ' (q 32))) (hne : ∀ b : Nat, b ≠ q 32 → σ' b = σ b) : GM K h q σ' := G.put Y (j := 32) rfl (by decide) rfl hok hne
theorem gq_32 {τ : Nat → Option Ty} {K : Nat → ClassId} {h : Nat} {q : Nat → Nat} {σ σ' : Nat → va_E} (Y : MS τ h q) (G : GT K h q σ) (hok : okMi (K 0) 2 (-2147483648) (2147483647) (σ' (q 32))) (hne : ∀ b : Nat, b ≠ q 32 → σ' b = σ b) : GT K h q σ' := G.put Y (j := 32) rfl (by decide) hok hne
theorem ym_33 {τ : Nat → Option Ty} {h : Nat} {q : Nat → Nat} (Y : MS τ h q) : τ (q 33) = some (133, 0, 0) := Y.r 33 _ rfl (by decide)
theorem ga_33 {K : Nat → ClassId} {h : Nat} {q : Nat → Nat} {σ : Nat → va_E} (G : GT K h q σ) : okMi (K 0) 2 (-2147483648) (2147483647) (σ (q 33)) := G.r 33 _ rfl (by decide)
theorem gp_33 {τ : Nat → Option Ty} {K : Nat → ClassId} {h : Nat} {q : Nat → Nat} {σ σ' : Nat → va_E} (Y : MS τ h q) (G : GM K h q σ) (hok : okMi (K 0) 2 (-2147483648) (2147483647) (σ' (q 33))) (hne : ∀ b : Nat, b ≠ q 33 → σ' b = σ b) : GM K h q σ' := G.put Y (j := 33) rfl (by decide) rfl hok hne
theorem gq_33 {τ : Nat → Option Ty} {K : Nat → ClassId} {h : Nat} {q : Nat → Nat} {σ σ' : Nat → va_E} (Y : MS τ h q) (G : GT K h q σ) (hok : okMi (K 0) 2 (-2147483648) (2147483647) (σ' (q 33))) (hne : ∀ b : Nat, b ≠ q 33 → σ' b = σ b) : GT K h q σ' := G.put Y (j := 33) rfl (by decide) hok hne
theorem ym_34 {τ : Nat → Option Ty} {h : Nat} {q : Nat → Nat} (Y : MS τ h q) : τ (q 34) = some (134, 0, 0) := Y.r 34 _ rfl (by decide)
theorem ga_34 {K : Nat → ClassId} {h : Nat} {q : Nat → Nat} {σ : Nat → va_E} (G : GT K h q σ) : okMi (K 0) 2 (-2147483648) (2147483647) (σ (q 34)) := G.r 34 _ rfl (by decide)
theorem gp_34 {τ : Nat → Option Ty} {K : Nat → ClassId} {h : Nat} {q : Nat → Nat} {σ σ' : Nat → va_E} (Y : MS τ h q) (G : GM K h q σ) (hok : okMi (K 0) 2 (-2147483648) (2147483647) (σ' (q 34))) (hne : ∀ b : Nat, b ≠ q 34 → σ' b = σ b) : GM K h q σ' := G.put Y (j := 34) rfl (by decide) rfl hok hne
theorem gq_34 {τ : Nat → Option Ty} {K : Nat → ClassId} {h : Nat} {q : Nat → Nat} {σ σ' : Nat → va_E} (Y : MS τ h q) (G : GT K h q σ) (hok : okMi (K 0) 2 (-2147483648) (2147483647) (σ' (q 34))) (hne : ∀ b : Nat, b ≠ q 34 → σ' b = σ b) : GT K h q σ' := G.put Y (j := 34) rfl (by decide) hok hne
theorem ym_35 {τ : Nat → Option Ty} {h : Nat} {q : Nat → Nat} (Y : MS τ h q) : τ (q 35) = some (135, 0, 0) := Y.r 35 _ rfl (by decide)
theorem ga_35 {K : Nat → ClassId} {h : Nat} {q : Nat → Nat} {σ : Nat → va_E} (G : GT K h q σ) : okMi (K 0) 2 (-2147483648) (2147483647) (σ (q 35)) := G.r 35 _ rfl (by decide)
theorem gp_35 {τ : Nat → Option Ty} {K : Nat → ClassId} {h : Nat} {q : Nat → Nat} {σ σ' : Nat → va_E} (Y : MS τ h q) (G : GM K h q σ) (hok : okMi (K 0) 2 (-2147483648) (2147483647) (σ' (q 35))) (hne : ∀ b : Nat, b ≠ q 35 → σ' b = σ b) : GM K h q σ' := G.put Y (j := 35) rfl (by decide) rfl hok hne
theorem gq_35 {τ : Nat → Option Ty} {K : Nat → ClassId} {h : Nat} {q : Nat → Nat} {σ σ' : Nat → va_E} (Y : MS τ h q) (G : GT K h q σ) (hok : okMi (K 0) 2 (-2147483648) (2147483647) (σ' (q 35))) (hne : ∀ b : Nat, b ≠ q 35 → σ' b = σ b) : GT K h q σ' := G.put Y (j := 35) rfl (by decide) hok hne
theorem ym_36 {τ : Nat → Option Ty} {h : Nat} {q : Nat → Nat} (Y : MS τ h q) : τ (q 36) = some (136, 0, 0) := Y.r 36 _ rfl (by decide)
theorem ga_36 {K : Nat → ClassId} {h : Nat} {q : Nat → Nat} {σ : Nat → va_E} (G : GT K h q σ) : okMi (K 0) 2 (-2147483648) (2147483647) (σ (q 36)) := G.r 36 _ rfl (by decide)
theorem gp_36 {τ : Nat → Option Ty} {K : Nat → ClassId} {h : Nat} {q : Nat → Nat} {σ σ' : Nat → va_E} (Y : MS τ h q) (G : GM K h q σ) (hok : okMi (K 0) 2 (-2147483648) (2147483647) (σ' (q 36))) (hne : ∀ b : Nat, b ≠ q 36 → σ' b = σ b) : GM K h q σ' := G.put Y (j := 36) rfl (by decide) rfl hok hne
theorem gq_36 {τ : Nat → Option Ty} {K : Nat → ClassId} {h : Nat} {q : Nat → Nat} {σ σ' : Nat → va_E} (Y : MS τ h q) (G : GT K h q σ) (hok : okMi (K 0) 2 (-2147483648) (2147483647) (σ' (q 36))) (hne : ∀ b : Nat, b ≠ q 36 → σ' b = σ b) : GT K h q σ' := G.put Y (j := 36) rfl (by decide) hok hne
theorem ym_37 {τ : Nat → Option Ty} {h : Nat} {q : Nat → Nat} (Y : MS τ h q) : τ (q 37) = some (137, 0, 0) := Y.r 37 _ rfl (by decide)
theorem ga_37 {K : Nat → ClassId} {h : Nat} {q : Nat → Nat} {σ : Nat → va_E} (G : GT K h q σ) : okMi (K 0) 2 (-2147483648) (2147483647) (σ (q 37)) := G.r 37 _ rfl (by decide)
theorem gp_37 {τ : Nat → Option Ty} {K : Nat → ClassId} {h : Nat} {q : Nat → Nat} {σ σ' : Nat → va_E} (Y : MS τ h q) (G : GM K h q σ) (hok : okMi (K 0) 2 (-2147483648) (2147483647) (σ' (q 37))) (hne : ∀ b : Nat, b ≠ q 37 → σ' b = σ b) : GM K h q σ' := G.put Y (j := 37) rfl (by decide) rfl hok hne
theorem gq_37 {τ : Nat → Option Ty} {K : Nat → ClassId} {h : Nat} {q : Nat → Nat} {σ σ' : Nat → va_E} (Y : MS τ h q) (G : GT K h q σ) (hok : okMi (K 0) 2 (-2147483648) (2147483647) (σ' (q 37))) (hne : ∀ b : Nat, b ≠ q 37 → σ' b = σ b) : GT K h q σ' := G.put Y (j := 37) rfl (by decide) hok hne
theorem ym_38 {τ : Nat → Option Ty} {h : Nat} {q : Nat → Nat} (Y : MS τ h q) : τ (q 38) = some (138, 0, 0) := Y.r 38 _ rfl (by decide)
theorem ga_38 {K : Nat → ClassId} {h : Nat} {q : Nat → Nat} {σ : Nat → va_E} (G : GT K h q σ) : okMi (K 0) 2 (-2147483648) (2147483647) (σ (q 38)) := G.r 38 _ rfl (by decide)
theorem gp_38 {τ : Nat → Option Ty} {K : Nat → ClassId} {h : Nat} {q : Nat → Nat} {σ σ' : Nat → va_E} (Y : MS τ h q) (G : GM K h q σ) (hok : okMi (K 0) 2 (-2147483648) (2147483647) (σ' (q 38))) (hne : ∀ b : Nat, b ≠ q 38 → σ' b = σ b) : GM K h q σ' := G.put Y (j := 38) rfl (by decide) rfl hok hne
theorem gq_38 {τ : Nat → Option Ty} {K : Nat → ClassId} {h : Nat} {q : Nat → Nat} {σ σ' : Nat → va_E} (Y : MS τ h q) (G : GT K h q σ) (hok : okMi (K 0) 2 (-2147483648) (2147483647) (σ' (q 38))) (hne : ∀ b : Nat, b ≠ q 38 → σ' b = σ b) : GT K h q σ' := G.put Y (j := 38) rfl (by decide) hok hne
theorem ym_39 {τ : Nat → Option Ty} {h : Nat} {q : Nat → Nat} (Y : MS τ h q) : τ (q 39) = some (139, 0, 0) := Y.r 39 _ rfl (by decide)
theorem ga_39 {K : Nat → ClassId} {h : Nat} {q : Nat → Nat} {σ : Nat → va_E} (G : GT K h q σ) : okMi (K 2) 8 (-128) (127) (σ (q 39)) := G.r 39 _ rfl (by decide)
theorem gp_39 {τ : Nat → Option Ty} {K : Nat → ClassId} {h : Nat} {q : Nat → Nat} {σ σ' : Nat → va_E} (Y : MS τ h q) (G : GM K h q σ) (hok : okMi (K 2) 8 (-128) (127) (σ' (q 39))) (hne : ∀ b : Nat, b ≠ q 39 → σ' b = σ b) : GM K h q σ' := G.put Y (j := 39) rfl (by decide) rfl hok hne
theorem gq_39 {τ : Nat → Option Ty} {K : Nat → ClassId} {h : Nat} {q : Nat → Nat} {σ σ' : Nat → va_E} (Y : MS τ h q) (G : GT K h q σ) (hok : okMi (K 2) 8 (-128) (127) (σ' (q 39))) (hne : ∀ b : Nat, b ≠ q 39 → σ' b = σ b) : GT K h q σ' := G.put Y (j := 39) rfl (by decide) hok hne
theorem ym_40 {τ : Nat → Option Ty} {h : Nat} {q : Nat → Nat} (Y : MS τ h q) : τ (q 40) = some (140, 0, 0) := Y.r 40 _ rfl (by decide)
theorem ga_40 {K : Nat → ClassId} {h : Nat} {q : Nat → Nat} {σ : Nat → va_E} (G : GT K h q σ) : okMi (K 3) 2 (0) (1) (σ (q 40)) := G.r 40 _ rfl (by decide)
theorem gp_40 {τ : Nat → Option Ty} {K : Nat → ClassId} {h : Nat} {q : Nat → Nat} {σ σ' : Nat → va_E} (Y : MS τ h q) (G : GM K h q σ) (hok : okMi (K 3) 2 (0) (1) (σ' (q 40))) (hne : ∀ b : Nat, b ≠ q 40 → σ' b = σ b) : GM K h q σ' := G.put Y (j := 40) rfl (by decide) rfl hok hne
theorem gq_40 {τ : Nat → Option Ty} {K : Nat → ClassId} {h : Nat} {q : Nat → Nat} {σ σ' : Nat → va_E} (Y : MS τ h q) (G : GT K h q σ) (hok : okMi (K 3) 2 (0) (1) (σ' (q 40))) (hne : ∀ b : Nat, b ≠ q 40 → σ' b = σ b) : GT K h q σ' := G.put Y (j := 40) rfl (by decide) hok hne
theorem ym_41 {τ : Nat → Option Ty} {h : Nat} {q : Nat → Nat} (Y : MS τ h q) : τ (q 41) = some (141, 0, 0) := Y.r 41 _ rfl (by decide)
theorem ga_41 {K : Nat → ClassId} {h : Nat} {q : Nat → Nat} {σ : Nat → va_E} (G : GT K h q σ) : okMi (K 3) 2 (0) (1) (σ (q 41)) := G.r 41 _ rfl (by decide)
theorem gp_41 {τ : Nat → Option Ty} {K : Nat → ClassId} {h : Nat} {q : Nat → Nat} {σ σ' : Nat → va_E} (Y : MS τ h q) (G : GT K h q σ) (hok : okMi (K 3) 2 (0) (1) (σ' (q 41))) (hne : ∀ b : Nat, b ≠ q 41 → σ' b = σ b) : GT K h q σ' := G.put Y (j := 41) rfl (by decide) hok hne
theorem ym_42 {τ : Nat → Option Ty} {h : Nat} {q : Nat → Nat} (Y : MS τ h q) : τ (q 42) = some (142, 0, 0) := Y.r 42 _ rfl (by decide)
theorem ga_42 {K : Nat → ClassId} {h : Nat} {q : Nat → Nat} {σ : Nat → va_E} (G : GT K h q σ) : okMi (K 3) 2 (0) (1) (σ (q 42)) := G.r 42 _ rfl (by decide)
theorem gp_42 {τ : Nat → Option Ty} {K : Nat → ClassId} {h : Nat} {q : Nat → Nat} {σ σ' : Nat → va_E} (Y : MS τ h q) (G : GM K h q σ) (hok : okMi (K 3) 2 (0) (1) (σ' (q 42))) (hne : ∀ b : Nat, b ≠ q 42 → σ' b = σ b) : GM K h q σ' := G.put Y (j := 42) rfl (by decide) rfl hok hne
theorem gq_42 {τ : Nat → Option Ty} {K : Nat → ClassId} {h : Nat} {q : Nat → Nat} {σ σ' : Nat → va_E} (Y : MS τ h q) (G : GT K h q σ) (hok : okMi (K 3) 2 (0) (1) (σ' (q 42))) (hne : ∀ b : Nat, b ≠ q 42 → σ' b = σ b) : GT K h q σ' := G.put Y (j := 42) rfl (by decide) hok hne
theorem ym_44 {τ : Nat → Option Ty} {h : Nat} {q : Nat → Nat} (Y : MS τ h q) : τ (q 44) = some (144, 0, 0) := Y.r 44 _ rfl (by decide)
theorem ga_44 {K : Nat → ClassId} {h : Nat} {q : Nat → Nat} {σ : Nat → va_E} (G : GT K h q σ) : okMk (K 0) 2880 (σ (q 44)) := G.r 44 _ rfl (by decide)
theorem gp_44 {τ : Nat → Option Ty} {K : Nat → ClassId} {h : Nat} {q : Nat → Nat} {σ σ' : Nat → va_E} (Y : MS τ h q) (G : GM K h q σ) (hok : okMk (K 0) 2880 (σ' (q 44))) (hne : ∀ b : Nat, b ≠ q 44 → σ' b = σ b) : GM K h q σ' := G.put Y (j := 44) rfl (by decide) rfl hok hne
theorem gq_44 {τ : Nat → Option Ty} {K : Nat → ClassId} {h : Nat} {q : Nat → Nat} {σ σ' : Nat → va_E} (Y : MS τ h q) (G : GT K h q σ) (hok : okMk (K 0) 2880 (σ' (q 44))) (hne : ∀ b : Nat, b ≠ q 44 → σ' b = σ b) : GT K h q σ' := G.put Y (j := 44) rfl (by decide) hok hne
theorem ym_45 {τ : Nat → Option Ty} {h : Nat} {q : Nat → Nat} (Y : MS τ h q) : τ (q 45) = some (145, 0, 0) := Y.r 45 _ rfl (by decide)
theorem ga_45 {K : Nat → ClassId} {h : Nat} {q : Nat → Nat} {σ : Nat → va_E} (G : GT K h q σ) : okMi (K 0) 2 (0) (32) (σ (q 45)) := G.r 45 _ rfl (by decide)
theorem gp_45 {τ : Nat → Option Ty} {K : Nat → ClassId} {h : Nat} {q : Nat → Nat} {σ σ' : Nat → va_E} (Y : MS τ h q) (G : GM K h q σ) (hok : okMi (K 0) 2 (0) (32) (σ' (q 45))) (hne : ∀ b : Nat, b ≠ q 45 → σ' b = σ b) : GM K h q σ' := G.put Y (j := 45) rfl (by decide) rfl hok hne
theorem gq_45 {τ : Nat → Option Ty} {K : Nat → ClassId} {h : Nat} {q : Nat → Nat} {σ σ' : Nat → va_E} (Y : MS τ h q) (G : GT K h q σ) (hok : okMi (K 0) 2 (0) (32) (σ' (q 45))) (hne : ∀ b : Nat, b ≠ q 45 → σ' b = σ b) : GT K h q σ' := G.put Y (j := 45) rfl (by decide) hok hne
theorem ym_46 {τ : Nat → Option Ty} {h : Nat} {q : Nat → Nat} (Y : MS τ h q) : τ (q 46) = some (146, 0, 0) := Y.r 46 _ rfl (by decide)
theorem ga_46 {K : Nat → ClassId} {h : Nat} {q : Nat → Nat} {σ : Nat → va_E} (G : GT K h q σ) : okMi (K 0) 2 (-2147483648) (2147483647) (σ (q 46)) := G.r 46 _ rfl (by decide)
theorem gp_46 {τ : Nat → Option Ty} {K : Nat → ClassId} {h : Nat} {q : Nat → Nat} {σ σ' : Nat → va_E} (Y : MS τ h q) (G : GM K h q σ) (hok : okMi (K 0) 2 (-2147483648) (2147483647) (σ' (q 46))) (hne : ∀ b : Nat, b ≠ q 46 → σ' b = σ b) : GM K h q σ' := G.put Y (j := 46) rfl (by decide) rfl hok hne
theorem gq_46 {τ : Nat → Option Ty} {K : Nat → ClassId} {h : Nat} {q : Nat → Nat} {σ σ' : Nat → va_E} (Y : MS τ h q) (G : GT K h q σ) (hok : okMi (K 0) 2 (-2147483648) (2147483647) (σ' (q 46))) (hne : ∀ b : Nat, b ≠ q 46 → σ' b = σ b) : GT K h q σ' := G.put Y (j := 46) rfl (by decide) hok hne
theorem ym_47 {τ : Nat → Option Ty} {h : Nat} {q : Nat → Nat} (Y : MS τ h q) : τ (q 47) = some (147, 0, 0) := Y.r 47 _ rfl (by decide)
theorem ga_47 {K : Nat → ClassId} {h : Nat} {q : Nat → Nat} {σ : Nat → va_E} (G : GT K h q σ) : okMi (K 2) 640 (-128) (127) (σ (q 47)) := G.r 47 _ rfl (by decide)
theorem gp_47 {τ : Nat → Option Ty} {K : Nat → ClassId} {h : Nat} {q : Nat → Nat} {σ σ' : Nat → va_E} (Y : MS τ h q) (G : GM K h q σ) (hok : okMi (K 2) 640 (-128) (127) (σ' (q 47))) (hne : ∀ b : Nat, b ≠ q 47 → σ' b = σ b) : GM K h q σ' := G.put Y (j := 47) rfl (by decide) rfl hok hne
theorem gq_47 {τ : Nat → Option Ty} {K : Nat → ClassId} {h : Nat} {q : Nat → Nat} {σ σ' : Nat → va_E} (Y : MS τ h q) (G : GT K h q σ) (hok : okMi (K 2) 640 (-128) (127) (σ' (q 47))) (hne : ∀ b : Nat, b ≠ q 47 → σ' b = σ b) : GT K h q σ' := G.put Y (j := 47) rfl (by decide) hok hne
theorem ym_48 {τ : Nat → Option Ty} {h : Nat} {q : Nat → Nat} (Y : MS τ h q) : τ (q 48) = some (148, 0, 0) := Y.r 48 _ rfl (by decide)
theorem ga_48 {K : Nat → ClassId} {h : Nat} {q : Nat → Nat} {σ : Nat → va_E} (G : GT K h q σ) : okMi (K 0) 16 (0) (40) (σ (q 48)) := G.r 48 _ rfl (by decide)
theorem gp_48 {τ : Nat → Option Ty} {K : Nat → ClassId} {h : Nat} {q : Nat → Nat} {σ σ' : Nat → va_E} (Y : MS τ h q) (G : GM K h q σ) (hok : okMi (K 0) 16 (0) (40) (σ' (q 48))) (hne : ∀ b : Nat, b ≠ q 48 → σ' b = σ b) : GM K h q σ' := G.put Y (j := 48) rfl (by decide) rfl hok hne
theorem gq_48 {τ : Nat → Option Ty} {K : Nat → ClassId} {h : Nat} {q : Nat → Nat} {σ σ' : Nat → va_E} (Y : MS τ h q) (G : GT K h q σ) (hok : okMi (K 0) 16 (0) (40) (σ' (q 48))) (hne : ∀ b : Nat, b ≠ q 48 → σ' b = σ b) : GT K h q σ' := G.put Y (j := 48) rfl (by decide) hok hne
theorem ym_49 {τ : Nat → Option Ty} {h : Nat} {q : Nat → Nat} (Y : MS τ h q) : τ (q 49) = some (149, 0, 0) := Y.r 49 _ rfl (by decide)
theorem ga_49 {K : Nat → ClassId} {h : Nat} {q : Nat → Nat} {σ : Nat → va_E} (G : GT K h q σ) : okMi (K 0) 16 (-2147483648) (2147483647) (σ (q 49)) := G.r 49 _ rfl (by decide)
theorem gp_49 {τ : Nat → Option Ty} {K : Nat → ClassId} {h : Nat} {q : Nat → Nat} {σ σ' : Nat → va_E} (Y : MS τ h q) (G : GM K h q σ) (hok : okMi (K 0) 16 (-2147483648) (2147483647) (σ' (q 49))) (hne : ∀ b : Nat, b ≠ q 49 → σ' b = σ b) : GM K h q σ' := G.put Y (j := 49) rfl (by decide) rfl hok hne
theorem gq_49 {τ : Nat → Option Ty} {K : Nat → ClassId} {h : Nat} {q : Nat → Nat} {σ σ' : Nat → va_E} (Y : MS τ h q) (G : GT K h q σ) (hok : okMi (K 0) 16 (-2147483648) (2147483647) (σ' (q 49))) (hne : ∀ b : Nat, b ≠ q 49 → σ' b = σ b) : GT K h q σ' := G.put Y (j := 49) rfl (by decide) hok hne
theorem ym_50 {τ : Nat → Option Ty} {h : Nat} {q : Nat → Nat} (Y : MS τ h q) : τ (q 50) = some (150, 0, 0) := Y.r 50 _ rfl (by decide)
theorem ga_50 {K : Nat → ClassId} {h : Nat} {q : Nat → Nat} {σ : Nat → va_E} (G : GT K h q σ) : okMi (K 3) 16 (0) (1) (σ (q 50)) := G.r 50 _ rfl (by decide)
theorem gp_50 {τ : Nat → Option Ty} {K : Nat → ClassId} {h : Nat} {q : Nat → Nat} {σ σ' : Nat → va_E} (Y : MS τ h q) (G : GM K h q σ) (hok : okMi (K 3) 16 (0) (1) (σ' (q 50))) (hne : ∀ b : Nat, b ≠ q 50 → σ' b = σ b) : GM K h q σ' := G.put Y (j := 50) rfl (by decide) rfl hok hne
theorem gq_50 {τ : Nat → Option Ty} {K : Nat → ClassId} {h : Nat} {q : Nat → Nat} {σ σ' : Nat → va_E} (Y : MS τ h q) (G : GT K h q σ) (hok : okMi (K 3) 16 (0) (1) (σ' (q 50))) (hne : ∀ b : Nat, b ≠ q 50 → σ' b = σ b) : GT K h q σ' := G.put Y (j := 50) rfl (by decide) hok hne
theorem ym_52 {τ : Nat → Option Ty} {h : Nat} {q : Nat → Nat} (Y : MS τ h q) : τ (q 52) = some (152, 0, 0) := Y.r 52 _ rfl (by decide)
theorem ga_52 {K : Nat → ClassId} {h : Nat} {q : Nat → Nat} {σ : Nat → va_E} (G : GT K h q σ) : okMi (K 2) 40 (-128) (127) (σ (q 52)) := G.r 52 _ rfl (by decide)
theorem gp_52 {τ : Nat → Option Ty} {K : Nat → ClassId} {h : Nat} {q : Nat → Nat} {σ σ' : Nat → va_E} (Y : MS τ h q) (G : GM K h q σ) (hok : okMi (K 2) 40 (-128) (127) (σ' (q 52))) (hne : ∀ b : Nat, b ≠ q 52 → σ' b = σ b) : GM K h q σ' := G.put Y (j := 52) rfl (by decide) rfl hok hne
theorem gq_52 {τ : Nat → Option Ty} {K : Nat → ClassId} {h : Nat} {q : Nat → Nat} {σ σ' : Nat → va_E} (Y : MS τ h q) (G : GT K h q σ) (hok : okMi (K 2) 40 (-128) (127) (σ' (q 52))) (hne : ∀ b : Nat, b ≠ q 52 → σ' b = σ b) : GT K h q σ' := G.put Y (j := 52) rfl (by decide) hok hne
theorem ym_53 {τ : Nat → Option Ty} {h : Nat} {q : Nat → Nat} (Y : MS τ h q) : τ (q 53) = some (153, 0, 0) := Y.r 53 _ rfl (by decide)
theorem ga_53 {K : Nat → ClassId} {h : Nat} {q : Nat → Nat} {σ : Nat → va_E} (G : GT K h q σ) : okMi (K 2) 40 (-128) (127) (σ (q 53)) := G.r 53 _ rfl (by decide)
theorem gp_53 {τ : Nat → Option Ty} {K : Nat → ClassId} {h : Nat} {q : Nat → Nat} {σ σ' : Nat → va_E} (Y : MS τ h q) (G : GM K h q σ) (hok : okMi (K 2) 40 (-128) (127) (σ' (q 53))) (hne : ∀ b : Nat, b ≠ q 53 → σ' b = σ b) : GM K h q σ' := G.put Y (j := 53) rfl (by decide) rfl hok hne
theorem gq_53 {τ : Nat → Option Ty} {K : Nat → ClassId} {h : Nat} {q : Nat → Nat} {σ σ' : Nat → va_E} (Y : MS τ h q) (G : GT K h q σ) (hok : okMi (K 2) 40 (-128) (127) (σ' (q 53))) (hne : ∀ b : Nat, b ≠ q 53 → σ' b = σ b) : GT K h q σ' := G.put Y (j := 53) rfl (by decide) hok hne
theorem ym_54 {τ : Nat → Option Ty} {h : Nat} {q : Nat → Nat} (Y : MS τ h q) : τ (q 54) = some (154, 0, 0) := Y.r 54 _ rfl (by decide)
theorem ga_54 {K : Nat → ClassId} {h : Nat} {q : Nat → Nat} {σ : Nat → va_E} (G : GT K h q σ) : okMi (K 0) 2 (-2147483648) (2147483647) (σ (q 54)) := G.r 54 _ rfl (by decide)
theorem gp_54 {τ : Nat → Option Ty} {K : Nat → ClassId} {h : Nat} {q : Nat → Nat} {σ σ' : Nat → va_E} (Y : MS τ h q) (G : GM K h q σ) (hok : okMi (K 0) 2 (-2147483648) (2147483647) (σ' (q 54))) (hne : ∀ b : Nat, b ≠ q 54 → σ' b = σ b) : GM K h q σ' := G.put Y (j := 54) rfl (by decide) rfl hok hne
theorem gq_54 {τ : Nat → Option Ty} {K : Nat → ClassId} {h : Nat} {q : Nat → Nat} {σ σ' : Nat → va_E} (Y : MS τ h q) (G : GT K h q σ) (hok : okMi (K 0) 2 (-2147483648) (2147483647) (σ' (q 54))) (hne : ∀ b : Nat, b ≠ q 54 → σ' b = σ b) : GT K h q σ' := G.put Y (j := 54) rfl (by decide) hok hne
theorem ym_55 {τ : Nat → Option Ty} {h : Nat} {q : Nat → Nat} (Y : MS τ h q) : τ (q 55) = some (155, 0, 0) := Y.r 55 _ rfl (by decide)
theorem ga_55 {K : Nat → ClassId} {h : Nat} {q : Nat → Nat} {σ : Nat → va_E} (G : GT K h q σ) : okMi (K 0) 2 (0) (31) (σ (q 55)) := G.r 55 _ rfl (by decide)
theorem gp_55 {τ : Nat → Option Ty} {K : Nat → ClassId} {h : Nat} {q : Nat → Nat} {σ σ' : Nat → va_E} (Y : MS τ h q) (G : GM K h q σ) (hok : okMi (K 0) 2 (0) (31) (σ' (q 55))) (hne : ∀ b : Nat, b ≠ q 55 → σ' b = σ b) : GM K h q σ' := G.put Y (j := 55) rfl (by decide) rfl hok hne
theorem gq_55 {τ : Nat → Option Ty} {K : Nat → ClassId} {h : Nat} {q : Nat → Nat} {σ σ' : Nat → va_E} (Y : MS τ h q) (G : GT K h q σ) (hok : okMi (K 0) 2 (0) (31) (σ' (q 55))) (hne : ∀ b : Nat, b ≠ q 55 → σ' b = σ b) : GT K h q σ' := G.put Y (j := 55) rfl (by decide) hok hne
theorem ym_56 {τ : Nat → Option Ty} {h : Nat} {q : Nat → Nat} (Y : MS τ h q) : τ (q 56) = some (156, 0, 0) := Y.r 56 _ rfl (by decide)
theorem ga_56 {K : Nat → ClassId} {h : Nat} {q : Nat → Nat} {σ : Nat → va_E} (G : GT K h q σ) : okMi (K 0) 2 (-2147483648) (2147483647) (σ (q 56)) := G.r 56 _ rfl (by decide)
theorem gp_56 {τ : Nat → Option Ty} {K : Nat → ClassId} {h : Nat} {q : Nat → Nat} {σ σ' : Nat → va_E} (Y : MS τ h q) (G : GM K h q σ) (hok : okMi (K 0) 2 (-2147483648) (2147483647) (σ' (q 56))) (hne : ∀ b : Nat, b ≠ q 56 → σ' b = σ b) : GM K h q σ' := G.put Y (j := 56) rfl (by decide) rfl hok hne
theorem gq_56 {τ : Nat → Option Ty} {K : Nat → ClassId} {h : Nat} {q : Nat → Nat} {σ σ' : Nat → va_E} (Y : MS τ h q) (G : GT K h q σ) (hok : okMi (K 0) 2 (-2147483648) (2147483647) (σ' (q 56))) (hne : ∀ b : Nat, b ≠ q 56 → σ' b = σ b) : GT K h q σ' := G.put Y (j := 56) rfl (by decide) hok hne
theorem ym_57 {τ : Nat → Option Ty} {h : Nat} {q : Nat → Nat} (Y : MS τ h q) : τ (q 57) = some (157, 0, 0) := Y.r 57 _ rfl (by decide)
theorem ga_57 {K : Nat → ClassId} {h : Nat} {q : Nat → Nat} {σ : Nat → va_E} (G : GT K h q σ) : okMi (K 0) 2 (0) (6) (σ (q 57)) := G.r 57 _ rfl (by decide)
theorem gp_57 {τ : Nat → Option Ty} {K : Nat → ClassId} {h : Nat} {q : Nat → Nat} {σ σ' : Nat → va_E} (Y : MS τ h q) (G : GM K h q σ) (hok : okMi (K 0) 2 (0) (6) (σ' (q 57))) (hne : ∀ b : Nat, b ≠ q 57 → σ' b = σ b) : GM K h q σ' := G.put Y (j := 57) rfl (by decide) rfl hok hne
theorem gq_57 {τ : Nat → Option Ty} {K : Nat → ClassId} {h : Nat} {q : Nat → Nat} {σ σ' : Nat → va_E} (Y : MS τ h q) (G : GT K h q σ) (hok : okMi (K 0) 2 (0) (6) (σ' (q 57))) (hne : ∀ b : Nat, b ≠ q 57 → σ' b = σ b) : GT K h q σ' := G.put Y (j := 57) rfl (by decide) hok hne
theorem ym_58 {τ : Nat → Option Ty} {h : Nat} {q : Nat → Nat} (Y : MS τ h q) : τ (q 58) = some (158, 0, 0) := Y.r 58 _ rfl (by decide)
theorem ga_58 {K : Nat → ClassId} {h : Nat} {q : Nat → Nat} {σ : Nat → va_E} (G : GT K h q σ) : okMi (K 0) 2 (-2147483648) (2147483647) (σ (q 58)) := G.r 58 _ rfl (by decide)
theorem gp_58 {τ : Nat → Option Ty} {K : Nat → ClassId} {h : Nat} {q : Nat → Nat} {σ σ' : Nat → va_E} (Y : MS τ h q) (G : GM K h q σ) (hok : okMi (K 0) 2 (-2147483648) (2147483647) (σ' (q 58))) (hne : ∀ b : Nat, b ≠ q 58 → σ' b = σ b) : GM K h q σ' := G.put Y (j := 58) rfl (by decide) rfl hok hne
theorem gq_58 {τ : Nat → Option Ty} {K : Nat → ClassId} {h : Nat} {q : Nat → Nat} {σ σ' : Nat → va_E} (Y : MS τ h q) (G : GT K h q σ) (hok : okMi (K 0) 2 (-2147483648) (2147483647) (σ' (q 58))) (hne : ∀ b : Nat, b ≠ q 58 → σ' b = σ b) : GT K h q σ' := G.put Y (j := 58) rfl (by decide) hok hne
theorem ym_59 {τ : Nat → Option Ty} {h : Nat} {q : Nat → Nat} (Y : MS τ h q) : τ (q 59) = some (159, 0, 0) := Y.r 59 _ rfl (by decide)
theorem ga_59 {K : Nat → ClassId} {h : Nat} {q : Nat → Nat} {σ : Nat → va_E} (G : GT K h q σ) : okMi (K 0) 2 (-2147483648) (2147483647) (σ (q 59)) := G.r 59 _ rfl (by decide)
theorem gp_59 {τ : Nat → Option Ty} {K : Nat → ClassId} {h : Nat} {q : Nat → Nat} {σ σ' : Nat → va_E} (Y : MS τ h q) (G : GM K h q σ) (hok : okMi (K 0) 2 (-2147483648) (2147483647) (σ' (q 59))) (hne : ∀ b : Nat, b ≠ q 59 → σ' b = σ b) : GM K h q σ' := G.put Y (j := 59) rfl (by decide) rfl hok hne
theorem gq_59 {τ : Nat → Option Ty} {K : Nat → ClassId} {h : Nat} {q : Nat → Nat} {σ σ' : Nat → va_E} (Y : MS τ h q) (G : GT K h q σ) (hok : okMi (K 0) 2 (-2147483648) (2147483647) (σ' (q 59))) (hne : ∀ b : Nat, b ≠ q 59 → σ' b = σ b) : GT K h q σ' := G.put Y (j := 59) rfl (by decide) hok hne
theorem ym_60 {τ : Nat → Option Ty} {h : Nat} {q : Nat → Nat} (Y : MS τ h q) : τ (q 60) = some (160, 0, 0) := Y.r 60 _ rfl (by decide)
theorem ga_60 {K : Nat → ClassId} {h : Nat} {q : Nat → Nat} {σ : Nat → va_E} (G : GT K h q σ) : okMi (K 2) 80 (-128) (127) (σ (q 60)) := G.r 60 _ rfl (by decide)
theorem gp_60 {τ : Nat → Option Ty} {K : Nat → ClassId} {h : Nat} {q : Nat → Nat} {σ σ' : Nat → va_E} (Y : MS τ h q) (G : GM K h q σ) (hok : okMi (K 2) 80 (-128) (127) (σ' (q 60))) (hne : ∀ b : Nat, b ≠ q 60 → σ' b = σ b) : GM K h q σ' := G.put Y (j := 60) rfl (by decide) rfl hok hne
theorem gq_60 {τ : Nat → Option Ty} {K : Nat → ClassId} {h : Nat} {q : Nat → Nat} {σ σ' : Nat → va_E} (Y : MS τ h q) (G : GT K h q σ) (hok : okMi (K 2) 80 (-128) (127) (σ' (q 60))) (hne : ∀ b : Nat, b ≠ q 60 → σ' b = σ b) : GT K h q σ' := G.put Y (j := 60) rfl (by decide) hok hne
theorem ym_61 {τ : Nat → Option Ty} {h : Nat} {q : Nat → Nat} (Y : MS τ h q) : τ (q 61) = some (161, 0, 0) := Y.r 61 _ rfl (by decide)
theorem ga_61 {K : Nat → ClassId} {h : Nat} {q : Nat → Nat} {σ : Nat → va_E} (G : GT K h q σ) : okMi (K 2) 192 (-128) (127) (σ (q 61)) := G.r 61 _ rfl (by decide)
theorem gp_61 {τ : Nat → Option Ty} {K : Nat → ClassId} {h : Nat} {q : Nat → Nat} {σ σ' : Nat → va_E} (Y : MS τ h q) (G : GM K h q σ) (hok : okMi (K 2) 192 (-128) (127) (σ' (q 61))) (hne : ∀ b : Nat, b ≠ q 61 → σ' b = σ b) : GM K h q σ' := G.put Y (j := 61) rfl (by decide) rfl hok hne
theorem gq_61 {τ : Nat → Option Ty} {K : Nat → ClassId} {h : Nat} {q : Nat → Nat} {σ σ' : Nat → va_E} (Y : MS τ h q) (G : GT K h q σ) (hok : okMi (K 2) 192 (-128) (127) (σ' (q 61))) (hne : ∀ b : Nat, b ≠ q 61 → σ' b = σ b) : GT K h q σ' := G.put Y (j := 61) rfl (by decide) hok hne
theorem ym_62 {τ : Nat → Option Ty} {h : Nat} {q : Nat → Nat} (Y : MS τ h q) : τ (q 62) = some (162, 0, 0) := Y.r 62 _ rfl (by decide)
theorem ga_62 {K : Nat → ClassId} {h : Nat} {q : Nat → Nat} {σ : Nat → va_E} (G : GT K h q σ) : okMi (K 2) 32 (-128) (127) (σ (q 62)) := G.r 62 _ rfl (by decide)
theorem gp_62 {τ : Nat → Option Ty} {K : Nat → ClassId} {h : Nat} {q : Nat → Nat} {σ σ' : Nat → va_E} (Y : MS τ h q) (G : GM K h q σ) (hok : okMi (K 2) 32 (-128) (127) (σ' (q 62))) (hne : ∀ b : Nat, b ≠ q 62 → σ' b = σ b) : GM K h q σ' := G.put Y (j := 62) rfl (by decide) rfl hok hne
theorem gq_62 {τ : Nat → Option Ty} {K : Nat → ClassId} {h : Nat} {q : Nat → Nat} {σ σ' : Nat → va_E} (Y : MS τ h q) (G : GT K h q σ) (hok : okMi (K 2) 32 (-128) (127) (σ' (q 62))) (hne : ∀ b : Nat, b ≠ q 62 → σ' b = σ b) : GT K h q σ' := G.put Y (j := 62) rfl (by decide) hok hne
theorem ym_63 {τ : Nat → Option Ty} {h : Nat} {q : Nat → Nat} (Y : MS τ h q) : τ (q 63) = some (163, 0, 0) := Y.r 63 _ rfl (by decide)
theorem ga_63 {K : Nat → ClassId} {h : Nat} {q : Nat → Nat} {σ : Nat → va_E} (G : GT K h q σ) : okMi (K 2) 32 (-128) (127) (σ (q 63)) := G.r 63 _ rfl (by decide)
theorem gp_63 {τ : Nat → Option Ty} {K : Nat → ClassId} {h : Nat} {q : Nat → Nat} {σ σ' : Nat → va_E} (Y : MS τ h q) (G : GM K h q σ) (hok : okMi (K 2) 32 (-128) (127) (σ' (q 63))) (hne : ∀ b : Nat, b ≠ q 63 → σ' b = σ b) : GM K h q σ' := G.put Y (j := 63) rfl (by decide) rfl hok hne
theorem gq_63 {τ : Nat → Option Ty} {K : Nat → ClassId} {h : Nat} {q : Nat → Nat} {σ σ' : Nat → va_E} (Y : MS τ h q) (G : GT K h q σ) (hok : okMi (K 2) 32 (-128) (127) (σ' (q 63))) (hne : ∀ b : Nat, b ≠ q 63 → σ' b = σ b) : GT K h q σ' := G.put Y (j := 63) rfl (by decide) hok hne
theorem ym_64 {τ : Nat → Option Ty} {h : Nat} {q : Nat → Nat} (Y : MS τ h q) : τ (q 64) = some (164, 0, 0) := Y.r 64 _ rfl (by decide)
theorem ga_64 {K : Nat → ClassId} {h : Nat} {q : Nat → Nat} {σ : Nat → va_E} (G : GT K h q σ) : okMi (K 2) 16 (-128) (127) (σ (q 64)) := G.r 64 _ rfl (by decide)
theorem gp_64 {τ : Nat → Option Ty} {K : Nat → ClassId} {h : Nat} {q : Nat → Nat} {σ σ' : Nat → va_E} (Y : MS τ h q) (G : GM K h q σ) (hok : okMi (K 2) 16 (-128) (127) (σ' (q 64))) (hne : ∀ b : Nat, b ≠ q 64 → σ' b = σ b) : GM K h q σ' := G.put Y (j := 64) rfl (by decide) rfl hok hne
theorem gq_64 {τ : Nat → Option Ty} {K : Nat → ClassId} {h : Nat} {q : Nat → Nat} {σ σ' : Nat → va_E} (Y : MS τ h q) (G : GT K h q σ) (hok : okMi (K 2) 16 (-128) (127) (σ' (q 64))) (hne : ∀ b : Nat, b ≠ q 64 → σ' b = σ b) : GT K h q σ' := G.put Y (j := 64) rfl (by decide) hok hne
theorem ym_65 {τ : Nat → Option Ty} {h : Nat} {q : Nat → Nat} (Y : MS τ h q) : τ (q 65) = some (165, 0, 0) := Y.r 65 _ rfl (by decide)
theorem ga_65 {K : Nat → ClassId} {h : Nat} {q : Nat → Nat} {σ : Nat → va_E} (G : GT K h q σ) : okMi (K 2) 16 (-128) (127) (σ (q 65)) := G.r 65 _ rfl (by decide)
theorem gp_65 {τ : Nat → Option Ty} {K : Nat → ClassId} {h : Nat} {q : Nat → Nat} {σ σ' : Nat → va_E} (Y : MS τ h q) (G : GM K h q σ) (hok : okMi (K 2) 16 (-128) (127) (σ' (q 65))) (hne : ∀ b : Nat, b ≠ q 65 → σ' b = σ b) : GM K h q σ' := G.put Y (j := 65) rfl (by decide) rfl hok hne
theorem gq_65 {τ : Nat → Option Ty} {K : Nat → ClassId} {h : Nat} {q : Nat → Nat} {σ σ' : Nat → va_E} (Y : MS τ h q) (G : GT K h q σ) (hok : okMi (K 2) 16 (-128) (127) (σ' (q 65))) (hne : ∀ b : Nat, b ≠ q 65 → σ' b = σ b) : GT K h q σ' := G.put Y (j := 65) rfl (by decide) hok hne
theorem ym_66 {τ : Nat → Option Ty} {h : Nat} {q : Nat → Nat} (Y : MS τ h q) : τ (q 66) = some (166, 0, 0) := Y.r 66 _ rfl (by decide)
theorem ga_66 {K : Nat → ClassId} {h : Nat} {q : Nat → Nat} {σ : Nat → va_E} (G : GT K h q σ) : okMi (K 2) 8 (-128) (127) (σ (q 66)) := G.r 66 _ rfl (by decide)
theorem gp_66 {τ : Nat → Option Ty} {K : Nat → ClassId} {h : Nat} {q : Nat → Nat} {σ σ' : Nat → va_E} (Y : MS τ h q) (G : GM K h q σ) (hok : okMi (K 2) 8 (-128) (127) (σ' (q 66))) (hne : ∀ b : Nat, b ≠ q 66 → σ' b = σ b) : GM K h q σ' := G.put Y (j := 66) rfl (by decide) rfl hok hne
theorem gq_66 {τ : Nat → Option Ty} {K : Nat → ClassId} {h : Nat} {q : Nat → Nat} {σ σ' : Nat → va_E} (Y : MS τ h q) (G : GT K h q σ) (hok : okMi (K 2) 8 (-128) (127) (σ' (q 66))) (hne : ∀ b : Nat, b ≠ q 66 → σ' b = σ b) : GT K h q σ' := G.put Y (j := 66) rfl (by decide) hok hne
theorem ym_67 {τ : Nat → Option Ty} {h : Nat} {q : Nat → Nat} (Y : MS τ h q) : τ (q 67) = some (167, 0, 0) := Y.r 67 _ rfl (by decide)
theorem ga_67 {K : Nat → ClassId} {h : Nat} {q : Nat → Nat} {σ : Nat → va_E} (G : GT K h q σ) : okMi (K 0) 12 (0) (16) (σ (q 67)) := G.r 67 _ rfl (by decide)
theorem gp_67 {τ : Nat → Option Ty} {K : Nat → ClassId} {h : Nat} {q : Nat → Nat} {σ σ' : Nat → va_E} (Y : MS τ h q) (G : GM K h q σ) (hok : okMi (K 0) 12 (0) (16) (σ' (q 67))) (hne : ∀ b : Nat, b ≠ q 67 → σ' b = σ b) : GM K h q σ' := G.put Y (j := 67) rfl (by decide) rfl hok hne
theorem gq_67 {τ : Nat → Option Ty} {K : Nat → ClassId} {h : Nat} {q : Nat → Nat} {σ σ' : Nat → va_E} (Y : MS τ h q) (G : GT K h q σ) (hok : okMi (K 0) 12 (0) (16) (σ' (q 67))) (hne : ∀ b : Nat, b ≠ q 67 → σ' b = σ b) : GT K h q σ' := G.put Y (j := 67) rfl (by decide) hok hne
theorem ym_68 {τ : Nat → Option Ty} {h : Nat} {q : Nat → Nat} (Y : MS τ h q) : τ (q 68) = some (168, 0, 0) := Y.r 68 _ rfl (by decide)
theorem ga_68 {K : Nat → ClassId} {h : Nat} {q : Nat → Nat} {σ : Nat → va_E} (G : GT K h q σ) : okMi (K 3) 2 (0) (1) (σ (q 68)) := G.r 68 _ rfl (by decide)
theorem gp_68 {τ : Nat → Option Ty} {K : Nat → ClassId} {h : Nat} {q : Nat → Nat} {σ σ' : Nat → va_E} (Y : MS τ h q) (G : GM K h q σ) (hok : okMi (K 3) 2 (0) (1) (σ' (q 68))) (hne : ∀ b : Nat, b ≠ q 68 → σ' b = σ b) : GM K h q σ' := G.put Y (j := 68) rfl (by decide) rfl hok hne
theorem gq_68 {τ : Nat → Option Ty} {K : Nat → ClassId} {h : Nat} {q : Nat → Nat} {σ σ' : Nat → va_E} (Y : MS τ h q) (G : GT K h q σ) (hok : okMi (K 3) 2 (0) (1) (σ' (q 68))) (hne : ∀ b : Nat, b ≠ q 68 → σ' b = σ b) : GT K h q σ' := G.put Y (j := 68) rfl (by decide) hok hne
theorem ym_69 {τ : Nat → Option Ty} {h : Nat} {q : Nat → Nat} (Y : MS τ h q) : τ (q 69) = some (169, 0, 0) := Y.r 69 _ rfl (by decide)
theorem ga_69 {K : Nat → ClassId} {h : Nat} {q : Nat → Nat} {σ : Nat → va_E} (G : GT K h q σ) : okMi (K 3) 2 (0) (1) (σ (q 69)) := G.r 69 _ rfl (by decide)
theorem gp_69 {τ : Nat → Option Ty} {K : Nat → ClassId} {h : Nat} {q : Nat → Nat} {σ σ' : Nat → va_E} (Y : MS τ h q) (G : GM K h q σ) (hok : okMi (K 3) 2 (0) (1) (σ' (q 69))) (hne : ∀ b : Nat, b ≠ q 69 → σ' b = σ b) : GM K h q σ' := G.put Y (j := 69) rfl (by decide) rfl hok hne
theorem gq_69 {τ : Nat → Option Ty} {K : Nat → ClassId} {h : Nat} {q : Nat → Nat} {σ σ' : Nat → va_E} (Y : MS τ h q) (G : GT K h q σ) (hok : okMi (K 3) 2 (0) (1) (σ' (q 69))) (hne : ∀ b : Nat, b ≠ q 69 → σ' b = σ b) : GT K h q σ' := G.put Y (j := 69) rfl (by decide) hok hne
theorem ym_70 {τ : Nat → Option Ty} {h : Nat} {q : Nat → Nat} (Y : MS τ h q) : τ (q 70) = some (170, 0, 0) := Y.r 70 _ rfl (by decide)
theorem ga_70 {K : Nat → ClassId} {h : Nat} {q : Nat → Nat} {σ : Nat → va_E} (G : GT K h q σ) : okMi (K 3) 2 (0) (1) (σ (q 70)) := G.r 70 _ rfl (by decide)
theorem gp_70 {τ : Nat → Option Ty} {K : Nat → ClassId} {h : Nat} {q : Nat → Nat} {σ σ' : Nat → va_E} (Y : MS τ h q) (G : GM K h q σ) (hok : okMi (K 3) 2 (0) (1) (σ' (q 70))) (hne : ∀ b : Nat, b ≠ q 70 → σ' b = σ b) : GM K h q σ' := G.put Y (j := 70) rfl (by decide) rfl hok hne
theorem gq_70 {τ : Nat → Option Ty} {K : Nat → ClassId} {h : Nat} {q : Nat → Nat} {σ σ' : Nat → va_E} (Y : MS τ h q) (G : GT K h q σ) (hok : okMi (K 3) 2 (0) (1) (σ' (q 70))) (hne : ∀ b : Nat, b ≠ q 70 → σ' b = σ b) : GT K h q σ' := G.put Y (j := 70) rfl (by decide) hok hne
theorem ym_71 {τ : Nat → Option Ty} {h : Nat} {q : Nat → Nat} (Y : MS τ h q) : τ (q 71) = some (171, 0, 0) := Y.r 71 _ rfl (by decide)
theorem ga_71 {K : Nat → ClassId} {h : Nat} {q : Nat → Nat} {σ : Nat → va_E} (G : GT K h q σ) : okMi (K 3) 2 (0) (1) (σ (q 71)) := G.r 71 _ rfl (by decide)
theorem gp_71 {τ : Nat → Option Ty} {K : Nat → ClassId} {h : Nat} {q : Nat → Nat} {σ σ' : Nat → va_E} (Y : MS τ h q) (G : GM K h q σ) (hok : okMi (K 3) 2 (0) (1) (σ' (q 71))) (hne : ∀ b : Nat, b ≠ q 71 → σ' b = σ b) : GM K h q σ' := G.put Y (j := 71) rfl (by decide) rfl hok hne
theorem gq_71 {τ : Nat → Option Ty} {K : Nat → ClassId} {h : Nat} {q : Nat → Nat} {σ σ' : Nat → va_E} (Y : MS τ h q) (G : GT K h q σ) (hok : okMi (K 3) 2 (0) (1) (σ' (q 71))) (hne : ∀ b : Nat, b ≠ q 71 → σ' b = σ b) : GT K h q σ' := G.put Y (j := 71) rfl (by decide) hok hne
theorem ym_72 {τ : Nat → Option Ty} {h : Nat} {q : Nat → Nat} (Y : MS τ h q) : τ (q 72) = some (172, 0, 0) := Y.r 72 _ rfl (by decide)
theorem ga_72 {K : Nat → ClassId} {h : Nat} {q : Nat → Nat} {σ : Nat → va_E} (G : GT K h q σ) : okMi (K 3) 2 (0) (1) (σ (q 72)) := G.r 72 _ rfl (by decide)
theorem gp_72 {τ : Nat → Option Ty} {K : Nat → ClassId} {h : Nat} {q : Nat → Nat} {σ σ' : Nat → va_E} (Y : MS τ h q) (G : GM K h q σ) (hok : okMi (K 3) 2 (0) (1) (σ' (q 72))) (hne : ∀ b : Nat, b ≠ q 72 → σ' b = σ b) : GM K h q σ' := G.put Y (j := 72) rfl (by decide) rfl hok hne
theorem gq_72 {τ : Nat → Option Ty} {K : Nat → ClassId} {h : Nat} {q : Nat → Nat} {σ σ' : Nat → va_E} (Y : MS τ h q) (G : GT K h q σ) (hok : okMi (K 3) 2 (0) (1) (σ' (q 72))) (hne : ∀ b : Nat, b ≠ q 72 → σ' b = σ b) : GT K h q σ' := G.put Y (j := 72) rfl (by decide) hok hne
theorem ym_73 {τ : Nat → Option Ty} {h : Nat} {q : Nat → Nat} (Y : MS τ h q) : τ (q 73) = some (173, 0, 0) := Y.r 73 _ rfl (by decide)
theorem ga_73 {K : Nat → ClassId} {h : Nat} {q : Nat → Nat} {σ : Nat → va_E} (G : GT K h q σ) : okMi (K 3) 2 (0) (1) (σ (q 73)) := G.r 73 _ rfl (by decide)
theorem gp_73 {τ : Nat → Option Ty} {K : Nat → ClassId} {h : Nat} {q : Nat → Nat} {σ σ' : Nat → va_E} (Y : MS τ h q) (G : GM K h q σ) (hok : okMi (K 3) 2 (0) (1) (σ' (q 73))) (hne : ∀ b : Nat, b ≠ q 73 → σ' b = σ b) : GM K h q σ' := G.put Y (j := 73) rfl (by decide) rfl hok hne
theorem gq_73 {τ : Nat → Option Ty} {K : Nat → ClassId} {h : Nat} {q : Nat → Nat} {σ σ' : Nat → va_E} (Y : MS τ h q) (G : GT K h q σ) (hok : okMi (K 3) 2 (0) (1) (σ' (q 73))) (hne : ∀ b : Nat, b ≠ q 73 → σ' b = σ b) : GT K h q σ' := G.put Y (j := 73) rfl (by decide) hok hne
theorem ym_74 {τ : Nat → Option Ty} {h : Nat} {q : Nat → Nat} (Y : MS τ h q) : τ (q 74) = some (174, 0, 0) := Y.r 74 _ rfl (by decide)
theorem ga_74 {K : Nat → ClassId} {h : Nat} {q : Nat → Nat} {σ : Nat → va_E} (G : GT K h q σ) : okMi (K 3) 2 (0) (1) (σ (q 74)) := G.r 74 _ rfl (by decide)
theorem gp_74 {τ : Nat → Option Ty} {K : Nat → ClassId} {h : Nat} {q : Nat → Nat} {σ σ' : Nat → va_E} (Y : MS τ h q) (G : GM K h q σ) (hok : okMi (K 3) 2 (0) (1) (σ' (q 74))) (hne : ∀ b : Nat, b ≠ q 74 → σ' b = σ b) : GM K h q σ' := G.put Y (j := 74) rfl (by decide) rfl hok hne
theorem gq_74 {τ : Nat → Option Ty} {K : Nat → ClassId} {h : Nat} {q : Nat → Nat} {σ σ' : Nat → va_E} (Y : MS τ h q) (G : GT K h q σ) (hok : okMi (K 3) 2 (0) (1) (σ' (q 74))) (hne : ∀ b : Nat, b ≠ q 74 → σ' b = σ b) : GT K h q σ' := G.put Y (j := 74) rfl (by decide) hok hne
theorem ym_75 {τ : Nat → Option Ty} {h : Nat} {q : Nat → Nat} (Y : MS τ h q) : τ (q 75) = some (175, 0, 0) := Y.r 75 _ rfl (by decide)
theorem ga_75 {K : Nat → ClassId} {h : Nat} {q : Nat → Nat} {σ : Nat → va_E} (G : GT K h q σ) : okMi (K 3) 2 (0) (1) (σ (q 75)) := G.r 75 _ rfl (by decide)
theorem gp_75 {τ : Nat → Option Ty} {K : Nat → ClassId} {h : Nat} {q : Nat → Nat} {σ σ' : Nat → va_E} (Y : MS τ h q) (G : GM K h q σ) (hok : okMi (K 3) 2 (0) (1) (σ' (q 75))) (hne : ∀ b : Nat, b ≠ q 75 → σ' b = σ b) : GM K h q σ' := G.put Y (j := 75) rfl (by decide) rfl hok hne
theorem gq_75 {τ : Nat → Option Ty} {K : Nat → ClassId} {h : Nat} {q : Nat → Nat} {σ σ' : Nat → va_E} (Y : MS τ h q) (G : GT K h q σ) (hok : okMi (K 3) 2 (0) (1) (σ' (q 75))) (hne : ∀ b : Nat, b ≠ q 75 → σ' b = σ b) : GT K h q σ' := G.put Y (j := 75) rfl (by decide) hok hne
theorem ym_76 {τ : Nat → Option Ty} {h : Nat} {q : Nat → Nat} (Y : MS τ h q) : τ (q 76) = some (176, 0, 0) := Y.r 76 _ rfl (by decide)
theorem ga_76 {K : Nat → ClassId} {h : Nat} {q : Nat → Nat} {σ : Nat → va_E} (G : GT K h q σ) : okMi (K 3) 2 (0) (1) (σ (q 76)) := G.r 76 _ rfl (by decide)
theorem gp_76 {τ : Nat → Option Ty} {K : Nat → ClassId} {h : Nat} {q : Nat → Nat} {σ σ' : Nat → va_E} (Y : MS τ h q) (G : GM K h q σ) (hok : okMi (K 3) 2 (0) (1) (σ' (q 76))) (hne : ∀ b : Nat, b ≠ q 76 → σ' b = σ b) : GM K h q σ' := G.put Y (j := 76) rfl (by decide) rfl hok hne
theorem gq_76 {τ : Nat → Option Ty} {K : Nat → ClassId} {h : Nat} {q : Nat → Nat} {σ σ' : Nat → va_E} (Y : MS τ h q) (G : GT K h q σ) (hok : okMi (K 3) 2 (0) (1) (σ' (q 76))) (hne : ∀ b : Nat, b ≠ q 76 → σ' b = σ b) : GT K h q σ' := G.put Y (j := 76) rfl (by decide) hok hne
theorem ym_77 {τ : Nat → Option Ty} {h : Nat} {q : Nat → Nat} (Y : MS τ h q) : τ (q 77) = some (177, 0, 0) := Y.r 77 _ rfl (by decide)
theorem ga_77 {K : Nat → ClassId} {h : Nat} {q : Nat → Nat} {σ : Nat → va_E} (G : GT K h q σ) : okMi (K 2) 16 (-128) (127) (σ (q 77)) := G.r 77 _ rfl (by decide)
theorem gp_77 {τ : Nat → Option Ty} {K : Nat → ClassId} {h : Nat} {q : Nat → Nat} {σ σ' : Nat → va_E} (Y : MS τ h q) (G : GM K h q σ) (hok : okMi (K 2) 16 (-128) (127) (σ' (q 77))) (hne : ∀ b : Nat, b ≠ q 77 → σ' b = σ b) : GM K h q σ' := G.put Y (j := 77) rfl (by decide) rfl hok hne
theorem gq_77 {τ : Nat → Option Ty} {K : Nat → ClassId} {h : Nat} {q : Nat → Nat} {σ σ' : Nat → va_E} (Y : MS τ h q) (G : GT K h q σ) (hok : okMi (K 2) 16 (-128) (127) (σ' (q 77))) (hne : ∀ b : Nat, b ≠ q 77 → σ' b = σ b) : GT K h q σ' := G.put Y (j := 77) rfl (by decide) hok hne
theorem ym_78 {τ : Nat → Option Ty} {h : Nat} {q : Nat → Nat} (Y : MS τ h q) : τ (q 78) = some (178, 0, 0) := Y.r 78 _ rfl (by decide)
theorem ga_78 {K : Nat → ClassId} {h : Nat} {q : Nat → Nat} {σ : Nat → va_E} (G : GT K h q σ) : okMi (K 2) 16 (-128) (127) (σ (q 78)) := G.r 78 _ rfl (by decide)
theorem gp_78 {τ : Nat → Option Ty} {K : Nat → ClassId} {h : Nat} {q : Nat → Nat} {σ σ' : Nat → va_E} (Y : MS τ h q) (G : GM K h q σ) (hok : okMi (K 2) 16 (-128) (127) (σ' (q 78))) (hne : ∀ b : Nat, b ≠ q 78 → σ' b = σ b) : GM K h q σ' := G.put Y (j := 78) rfl (by decide) rfl hok hne
theorem gq_78 {τ : Nat → Option Ty} {K : Nat → ClassId} {h : Nat} {q : Nat → Nat} {σ σ' : Nat → va_E} (Y : MS τ h q) (G : GT K h q σ) (hok : okMi (K 2) 16 (-128) (127) (σ' (q 78))) (hne : ∀ b : Nat, b ≠ q 78 → σ' b = σ b) : GT K h q σ' := G.put Y (j := 78) rfl (by decide) hok hne
theorem ym_79 {τ : Nat → Option Ty} {h : Nat} {q : Nat → Nat} (Y : MS τ h q) : τ (q 79) = some (179, 0, 0) := Y.r 79 _ rfl (by decide)
theorem ga_79 {K : Nat → ClassId} {h : Nat} {q : Nat → Nat} {σ : Nat → va_E} (G : GT K h q σ) : okMi (K 2) 16 (-128) (127) (σ (q 79)) := G.r 79 _ rfl (by decide)
theorem gp_79 {τ : Nat → Option Ty} {K : Nat → ClassId} {h : Nat} {q : Nat → Nat} {σ σ' : Nat → va_E} (Y : MS τ h q) (G : GM K h q σ) (hok : okMi (K 2) 16 (-128) (127) (σ' (q 79))) (hne : ∀ b : Nat, b ≠ q 79 → σ' b = σ b) : GM K h q σ' := G.put Y (j := 79) rfl (by decide) rfl hok hne
theorem gq_79 {τ : Nat → Option Ty} {K : Nat → ClassId} {h : Nat} {q : Nat → Nat} {σ σ' : Nat → va_E} (Y : MS τ h q) (G : GT K h q σ) (hok : okMi (K 2) 16 (-128) (127) (σ' (q 79))) (hne : ∀ b : Nat, b ≠ q 79 → σ' b = σ b) : GT K h q σ' := G.put Y (j := 79) rfl (by decide) hok hne
theorem ym_80 {τ : Nat → Option Ty} {h : Nat} {q : Nat → Nat} (Y : MS τ h q) : τ (q 80) = some (180, 0, 0) := Y.r 80 _ rfl (by decide)
theorem ga_80 {K : Nat → ClassId} {h : Nat} {q : Nat → Nat} {σ : Nat → va_E} (G : GT K h q σ) : okMi (K 2) 40 (-128) (127) (σ (q 80)) := G.r 80 _ rfl (by decide)
theorem gp_80 {τ : Nat → Option Ty} {K : Nat → ClassId} {h : Nat} {q : Nat → Nat} {σ σ' : Nat → va_E} (Y : MS τ h q) (G : GM K h q σ) (hok : okMi (K 2) 40 (-128) (127) (σ' (q 80))) (hne : ∀ b : Nat, b ≠ q 80 → σ' b = σ b) : GM K h q σ' := G.put Y (j := 80) rfl (by decide) rfl hok hne
theorem gq_80 {τ : Nat → Option Ty} {K : Nat → ClassId} {h : Nat} {q : Nat → Nat} {σ σ' : Nat → va_E} (Y : MS τ h q) (G : GT K h q σ) (hok : okMi (K 2) 40 (-128) (127) (σ' (q 80))) (hne : ∀ b : Nat, b ≠ q 80 → σ' b = σ b) : GT K h q σ' := G.put Y (j := 80) rfl (by decide) hok hne
theorem ym_81 {τ : Nat → Option Ty} {h : Nat} {q : Nat → Nat} (Y : MS τ h q) : τ (q 81) = some (181, 0, 0) := Y.r 81 _ rfl (by decide)
theorem ga_81 {K : Nat → ClassId} {h : Nat} {q : Nat → Nat} {σ : Nat → va_E} (G : GT K h q σ) : okMi (K 2) 40 (-128) (127) (σ (q 81)) := G.r 81 _ rfl (by decide)
theorem gp_81 {τ : Nat → Option Ty} {K : Nat → ClassId} {h : Nat} {q : Nat → Nat} {σ σ' : Nat → va_E} (Y : MS τ h q) (G : GM K h q σ) (hok : okMi (K 2) 40 (-128) (127) (σ' (q 81))) (hne : ∀ b : Nat, b ≠ q 81 → σ' b = σ b) : GM K h q σ' := G.put Y (j := 81) rfl (by decide) rfl hok hne
theorem gq_81 {τ : Nat → Option Ty} {K : Nat → ClassId} {h : Nat} {q : Nat → Nat} {σ σ' : Nat → va_E} (Y : MS τ h q) (G : GT K h q σ) (hok : okMi (K 2) 40 (-128) (127) (σ' (q 81))) (hne : ∀ b : Nat, b ≠ q 81 → σ' b = σ b) : GT K h q σ' := G.put Y (j := 81) rfl (by decide) hok hne
theorem ym_82 {τ : Nat → Option Ty} {h : Nat} {q : Nat → Nat} (Y : MS τ h q) : τ (q 82) = some (182, 0, 0) := Y.r 82 _ rfl (by decide)
theorem ga_82 {K : Nat → ClassId} {h : Nat} {q : Nat → Nat} {σ : Nat → va_E} (G : GT K h q σ) : okMi (K 2) 1536 (-128) (127) (σ (q 82)) := G.r 82 _ rfl (by decide)
theorem gp_82 {τ : Nat → Option Ty} {K : Nat → ClassId} {h : Nat} {q : Nat → Nat} {σ σ' : Nat → va_E} (Y : MS τ h q) (G : GM K h q σ) (hok : okMi (K 2) 1536 (-128) (127) (σ' (q 82))) (hne : ∀ b : Nat, b ≠ q 82 → σ' b = σ b) : GM K h q σ' := G.put Y (j := 82) rfl (by decide) rfl hok hne
theorem gq_82 {τ : Nat → Option Ty} {K : Nat → ClassId} {h : Nat} {q : Nat → Nat} {σ σ' : Nat → va_E} (Y : MS τ h q) (G : GT K h q σ) (hok : okMi (K 2) 1536 (-128) (127) (σ' (q 82))) (hne : ∀ b : Nat, b ≠ q 82 → σ' b = σ b) : GT K h q σ' := G.put Y (j := 82) rfl (by decide) hok hne
theorem ym_83 {τ : Nat → Option Ty} {h : Nat} {q : Nat → Nat} (Y : MS τ h q) : τ (q 83) = some (183, 0, 0) := Y.r 83 _ rfl (by decide)
theorem ga_83 {K : Nat → ClassId} {h : Nat} {q : Nat → Nat} {σ : Nat → va_E} (G : GT K h q σ) : okMi (K 2) 192 (-128) (127) (σ (q 83)) := G.r 83 _ rfl (by decide)
theorem gp_83 {τ : Nat → Option Ty} {K : Nat → ClassId} {h : Nat} {q : Nat → Nat} {σ σ' : Nat → va_E} (Y : MS τ h q) (G : GM K h q σ) (hok : okMi (K 2) 192 (-128) (127) (σ' (q 83))) (hne : ∀ b : Nat, b ≠ q 83 → σ' b = σ b) : GM K h q σ' := G.put Y (j := 83) rfl (by decide) rfl hok hne
theorem gq_83 {τ : Nat → Option Ty} {K : Nat → ClassId} {h : Nat} {q : Nat → Nat} {σ σ' : Nat → va_E} (Y : MS τ h q) (G : GT K h q σ) (hok : okMi (K 2) 192 (-128) (127) (σ' (q 83))) (hne : ∀ b : Nat, b ≠ q 83 → σ' b = σ b) : GT K h q σ' := G.put Y (j := 83) rfl (by decide) hok hne
theorem ym_84 {τ : Nat → Option Ty} {h : Nat} {q : Nat → Nat} (Y : MS τ h q) : τ (q 84) = some (184, 0, 0) := Y.r 84 _ rfl (by decide)
theorem ga_84 {K : Nat → ClassId} {h : Nat} {q : Nat → Nat} {σ : Nat → va_E} (G : GT K h q σ) : okMi (K 0) 16 (0) (96) (σ (q 84)) := G.r 84 _ rfl (by decide)
theorem gp_84 {τ : Nat → Option Ty} {K : Nat → ClassId} {h : Nat} {q : Nat → Nat} {σ σ' : Nat → va_E} (Y : MS τ h q) (G : GT K h q σ) (hok : okMi (K 0) 16 (0) (96) (σ' (q 84))) (hne : ∀ b : Nat, b ≠ q 84 → σ' b = σ b) : GT K h q σ' := G.put Y (j := 84) rfl (by decide) hok hne
theorem ym_85 {τ : Nat → Option Ty} {h : Nat} {q : Nat → Nat} (Y : MS τ h q) : τ (q 85) = some (185, 0, 0) := Y.r 85 _ rfl (by decide)
theorem ga_85 {K : Nat → ClassId} {h : Nat} {q : Nat → Nat} {σ : Nat → va_E} (G : GT K h q σ) : okMi (K 0) 2 (0) (8) (σ (q 85)) := G.r 85 _ rfl (by decide)
theorem gp_85 {τ : Nat → Option Ty} {K : Nat → ClassId} {h : Nat} {q : Nat → Nat} {σ σ' : Nat → va_E} (Y : MS τ h q) (G : GT K h q σ) (hok : okMi (K 0) 2 (0) (8) (σ' (q 85))) (hne : ∀ b : Nat, b ≠ q 85 → σ' b = σ b) : GT K h q σ' := G.put Y (j := 85) rfl (by decide) hok hne
theorem ym_86 {τ : Nat → Option Ty} {h : Nat} {q : Nat → Nat} (Y : MS τ h q) : τ (q 86) = some (186, 0, 0) := Y.r 86 _ rfl (by decide)
theorem ga_86 {K : Nat → ClassId} {h : Nat} {q : Nat → Nat} {σ : Nat → va_E} (G : GT K h q σ) : okMi (K 0) 2 (0) (96) (σ (q 86)) := G.r 86 _ rfl (by decide)
theorem gp_86 {τ : Nat → Option Ty} {K : Nat → ClassId} {h : Nat} {q : Nat → Nat} {σ σ' : Nat → va_E} (Y : MS τ h q) (G : GT K h q σ) (hok : okMi (K 0) 2 (0) (96) (σ' (q 86))) (hne : ∀ b : Nat, b ≠ q 86 → σ' b = σ b) : GT K h q σ' := G.put Y (j := 86) rfl (by decide) hok hne
theorem ym_87 {τ : Nat → Option Ty} {h : Nat} {q : Nat → Nat} (Y : MS τ h q) : τ (q 87) = some (187, 0, 0) := Y.r 87 _ rfl (by decide)
theorem ga_87 {K : Nat → ClassId} {h : Nat} {q : Nat → Nat} {σ : Nat → va_E} (G : GT K h q σ) : okMi (K 0) 2 (0) (96) (σ (q 87)) := G.r 87 _ rfl (by decide)
theorem gp_87 {τ : Nat → Option Ty} {K : Nat → ClassId} {h : Nat} {q : Nat → Nat} {σ σ' : Nat → va_E} (Y : MS τ h q) (G : GM K h q σ) (hok : okMi (K 0) 2 (0) (96) (σ' (q 87))) (hne : ∀ b : Nat, b ≠ q 87 → σ' b = σ b) : GM K h q σ' := G.put Y (j := 87) rfl (by decide) rfl hok hne
theorem gq_87 {τ : Nat → Option Ty} {K : Nat → ClassId} {h : Nat} {q : Nat → Nat} {σ σ' : Nat → va_E} (Y : MS τ h q) (G : GT K h q σ) (hok : okMi (K 0) 2 (0) (96) (σ' (q 87))) (hne : ∀ b : Nat, b ≠ q 87 → σ' b = σ b) : GT K h q σ' := G.put Y (j := 87) rfl (by decide) hok hne
theorem ym_88 {τ : Nat → Option Ty} {h : Nat} {q : Nat → Nat} (Y : MS τ h q) : τ (q 88) = some (188, 0, 0) := Y.r 88 _ rfl (by decide)
theorem ga_88 {K : Nat → ClassId} {h : Nat} {q : Nat → Nat} {σ : Nat → va_E} (G : GT K h q σ) : okMi (K 0) 2 (0) (96) (σ (q 88)) := G.r 88 _ rfl (by decide)
theorem gp_88 {τ : Nat → Option Ty} {K : Nat → ClassId} {h : Nat} {q : Nat → Nat} {σ σ' : Nat → va_E} (Y : MS τ h q) (G : GM K h q σ) (hok : okMi (K 0) 2 (0) (96) (σ' (q 88))) (hne : ∀ b : Nat, b ≠ q 88 → σ' b = σ b) : GM K h q σ' := G.put Y (j := 88) rfl (by decide) rfl hok hne
theorem gq_88 {τ : Nat → Option Ty} {K : Nat → ClassId} {h : Nat} {q : Nat → Nat} {σ σ' : Nat → va_E} (Y : MS τ h q) (G : GT K h q σ) (hok : okMi (K 0) 2 (0) (96) (σ' (q 88))) (hne : ∀ b : Nat, b ≠ q 88 → σ' b = σ b) : GT K h q σ' := G.put Y (j := 88) rfl (by decide) hok hne
theorem ym_89 {τ : Nat → Option Ty} {h : Nat} {q : Nat → Nat} (Y : MS τ h q) : τ (q 89) = some (189, 0, 0) := Y.r 89 _ rfl (by decide)
theorem ga_89 {K : Nat → ClassId} {h : Nat} {q : Nat → Nat} {σ : Nat → va_E} (G : GT K h q σ) : okMi (K 3) 2 (0) (1) (σ (q 89)) := G.r 89 _ rfl (by decide)
theorem gp_89 {τ : Nat → Option Ty} {K : Nat → ClassId} {h : Nat} {q : Nat → Nat} {σ σ' : Nat → va_E} (Y : MS τ h q) (G : GM K h q σ) (hok : okMi (K 3) 2 (0) (1) (σ' (q 89))) (hne : ∀ b : Nat, b ≠ q 89 → σ' b = σ b) : GM K h q σ' := G.put Y (j := 89) rfl (by decide) rfl hok hne
theorem gq_89 {τ : Nat → Option Ty} {K : Nat → ClassId} {h : Nat} {q : Nat → Nat} {σ σ' : Nat → va_E} (Y : MS τ h q) (G : GT K h q σ) (hok : okMi (K 3) 2 (0) (1) (σ' (q 89))) (hne : ∀ b : Nat, b ≠ q 89 → σ' b = σ b) : GT K h q σ' := G.put Y (j := 89) rfl (by decide) hok hne
theorem ym_90 {τ : Nat → Option Ty} {h : Nat} {q : Nat → Nat} (Y : MS τ h q) : τ (q 90) = some (190, 0, 0) := Y.r 90 _ rfl (by decide)
theorem ga_90 {K : Nat → ClassId} {h : Nat} {q : Nat → Nat} {σ : Nat → va_E} (G : GT K h q σ) : okMi (K 2) 96 (-128) (127) (σ (q 90)) := G.r 90 _ rfl (by decide)
theorem gp_90 {τ : Nat → Option Ty} {K : Nat → ClassId} {h : Nat} {q : Nat → Nat} {σ σ' : Nat → va_E} (Y : MS τ h q) (G : GM K h q σ) (hok : okMi (K 2) 96 (-128) (127) (σ' (q 90))) (hne : ∀ b : Nat, b ≠ q 90 → σ' b = σ b) : GM K h q σ' := G.put Y (j := 90) rfl (by decide) rfl hok hne
theorem gq_90 {τ : Nat → Option Ty} {K : Nat → ClassId} {h : Nat} {q : Nat → Nat} {σ σ' : Nat → va_E} (Y : MS τ h q) (G : GT K h q σ) (hok : okMi (K 2) 96 (-128) (127) (σ' (q 90))) (hne : ∀ b : Nat, b ≠ q 90 → σ' b = σ b) : GT K h q σ' := G.put Y (j := 90) rfl (by decide) hok hne
theorem ym_91 {τ : Nat → Option Ty} {h : Nat} {q : Nat → Nat} (Y : MS τ h q) : τ (q 91) = some (191, 0, 0) := Y.r 91 _ rfl (by decide)
theorem ga_91 {K : Nat → ClassId} {h : Nat} {q : Nat → Nat} {σ : Nat → va_E} (G : GT K h q σ) : okMi (K 2) 96 (-128) (127) (σ (q 91)) := G.r 91 _ rfl (by decide)
theorem gp_91 {τ : Nat → Option Ty} {K : Nat → ClassId} {h : Nat} {q : Nat → Nat} {σ σ' : Nat → va_E} (Y : MS τ h q) (G : GM K h q σ) (hok : okMi (K 2) 96 (-128) (127) (σ' (q 91))) (hne : ∀ b : Nat, b ≠ q 91 → σ' b = σ b) : GM K h q σ' := G.put Y (j := 91) rfl (by decide) rfl hok hne
theorem gq_91 {τ : Nat → Option Ty} {K : Nat → ClassId} {h : Nat} {q : Nat → Nat} {σ σ' : Nat → va_E} (Y : MS τ h q) (G : GT K h q σ) (hok : okMi (K 2) 96 (-128) (127) (σ' (q 91))) (hne : ∀ b : Nat, b ≠ q 91 → σ' b = σ b) : GT K h q σ' := G.put Y (j := 91) rfl (by decide) hok hne
theorem ym_92 {τ : Nat → Option Ty} {h : Nat} {q : Nat → Nat} (Y : MS τ h q) : τ (q 92) = some (192, 0, 0) := Y.r 92 _ rfl (by decide)
theorem ga_92 {K : Nat → ClassId} {h : Nat} {q : Nat → Nat} {σ : Nat → va_E} (G : GT K h q σ) : okMi (K 0) 2 (-2147483648) (2147483647) (σ (q 92)) := G.r 92 _ rfl (by decide)
theorem gp_92 {τ : Nat → Option Ty} {K : Nat → ClassId} {h : Nat} {q : Nat → Nat} {σ σ' : Nat → va_E} (Y : MS τ h q) (G : GM K h q σ) (hok : okMi (K 0) 2 (-2147483648) (2147483647) (σ' (q 92))) (hne : ∀ b : Nat, b ≠ q 92 → σ' b = σ b) : GM K h q σ' := G.put Y (j := 92) rfl (by decide) rfl hok hne
theorem gq_92 {τ : Nat → Option Ty} {K : Nat → ClassId} {h : Nat} {q : Nat → Nat} {σ σ' : Nat → va_E} (Y : MS τ h q) (G : GT K h q σ) (hok : okMi (K 0) 2 (-2147483648) (2147483647) (σ' (q 92))) (hne : ∀ b : Nat, b ≠ q 92 → σ' b = σ b) : GT K h q σ' := G.put Y (j := 92) rfl (by decide) hok hne
theorem ym_93 {τ : Nat → Option Ty} {h : Nat} {q : Nat → Nat} (Y : MS τ h q) : τ (q 93) = some (193, 0, 0) := Y.r 93 _ rfl (by decide)
theorem ga_93 {K : Nat → ClassId} {h : Nat} {q : Nat → Nat} {σ : Nat → va_E} (G : GT K h q σ) : okMi (K 0) 2 (-2147483648) (2147483647) (σ (q 93)) := G.r 93 _ rfl (by decide)
theorem gp_93 {τ : Nat → Option Ty} {K : Nat → ClassId} {h : Nat} {q : Nat → Nat} {σ σ' : Nat → va_E} (Y : MS τ h q) (G : GM K h q σ) (hok : okMi (K 0) 2 (-2147483648) (2147483647) (σ' (q 93))) (hne : ∀ b : Nat, b ≠ q 93 → σ' b = σ b) : GM K h q σ' := G.put Y (j := 93) rfl (by decide) rfl hok hne
theorem gq_93 {τ : Nat → Option Ty} {K : Nat → ClassId} {h : Nat} {q : Nat → Nat} {σ σ' : Nat → va_E} (Y : MS τ h q) (G : GT K h q σ) (hok : okMi (K 0) 2 (-2147483648) (2147483647) (σ' (q 93))) (hne : ∀ b : Nat, b ≠ q 93 → σ' b = σ b) : GT K h q σ' := G.put Y (j := 93) rfl (by decide) hok hne
theorem ym_94 {τ : Nat → Option Ty} {h : Nat} {q : Nat → Nat} (Y : MS τ h q) : τ (q 94) = some (194, 0, 0) := Y.r 94 _ rfl (by decide)
theorem ga_94 {K : Nat → ClassId} {h : Nat} {q : Nat → Nat} {σ : Nat → va_E} (G : GT K h q σ) : okMi (K 0) 2 (-2147483648) (2147483647) (σ (q 94)) := G.r 94 _ rfl (by decide)
theorem gp_94 {τ : Nat → Option Ty} {K : Nat → ClassId} {h : Nat} {q : Nat → Nat} {σ σ' : Nat → va_E} (Y : MS τ h q) (G : GM K h q σ) (hok : okMi (K 0) 2 (-2147483648) (2147483647) (σ' (q 94))) (hne : ∀ b : Nat, b ≠ q 94 → σ' b = σ b) : GM K h q σ' := G.put Y (j := 94) rfl (by decide) rfl hok hne
theorem gq_94 {τ : Nat → Option Ty} {K : Nat → ClassId} {h : Nat} {q : Nat → Nat} {σ σ' : Nat → va_E} (Y : MS τ h q) (G : GT K h q σ) (hok : okMi (K 0) 2 (-2147483648) (2147483647) (σ' (q 94))) (hne : ∀ b : Nat, b ≠ q 94 → σ' b = σ b) : GT K h q σ' := G.put Y (j := 94) rfl (by decide) hok hne
theorem ym_95 {τ : Nat → Option Ty} {h : Nat} {q : Nat → Nat} (Y : MS τ h q) : τ (q 95) = some (195, 0, 0) := Y.r 95 _ rfl (by decide)
theorem ga_95 {K : Nat → ClassId} {h : Nat} {q : Nat → Nat} {σ : Nat → va_E} (G : GT K h q σ) : okMi (K 2) 28 (-128) (127) (σ (q 95)) := G.r 95 _ rfl (by decide)
theorem gp_95 {τ : Nat → Option Ty} {K : Nat → ClassId} {h : Nat} {q : Nat → Nat} {σ σ' : Nat → va_E} (Y : MS τ h q) (G : GM K h q σ) (hok : okMi (K 2) 28 (-128) (127) (σ' (q 95))) (hne : ∀ b : Nat, b ≠ q 95 → σ' b = σ b) : GM K h q σ' := G.put Y (j := 95) rfl (by decide) rfl hok hne
theorem gq_95 {τ : Nat → Option Ty} {K : Nat → ClassId} {h : Nat} {q : Nat → Nat} {σ σ' : Nat → va_E} (Y : MS τ h q) (G : GT K h q σ) (hok : okMi (K 2) 28 (-128) (127) (σ' (q 95))) (hne : ∀ b : Nat, b ≠ q 95 → σ' b = σ b) : GT K h q σ' := G.put Y (j := 95) rfl (by decide) hok hne
theorem ym_96 {τ : Nat → Option Ty} {h : Nat} {q : Nat → Nat} (Y : MS τ h q) : τ (q 96) = some (196, 0, 0) := Y.r 96 _ rfl (by decide)
theorem ga_96 {K : Nat → ClassId} {h : Nat} {q : Nat → Nat} {σ : Nat → va_E} (G : GT K h q σ) : okMi (K 2) 32 (-128) (127) (σ (q 96)) := G.r 96 _ rfl (by decide)
theorem gp_96 {τ : Nat → Option Ty} {K : Nat → ClassId} {h : Nat} {q : Nat → Nat} {σ σ' : Nat → va_E} (Y : MS τ h q) (G : GM K h q σ) (hok : okMi (K 2) 32 (-128) (127) (σ' (q 96))) (hne : ∀ b : Nat, b ≠ q 96 → σ' b = σ b) : GM K h q σ' := G.put Y (j := 96) rfl (by decide) rfl hok hne
theorem gq_96 {τ : Nat → Option Ty} {K : Nat → ClassId} {h : Nat} {q : Nat → Nat} {σ σ' : Nat → va_E} (Y : MS τ h q) (G : GT K h q σ) (hok : okMi (K 2) 32 (-128) (127) (σ' (q 96))) (hne : ∀ b : Nat, b ≠ q 96 → σ' b = σ b) : GT K h q σ' := G.put Y (j := 96) rfl (by decide) hok hne
theorem ym_97 {τ : Nat → Option Ty} {h : Nat} {q : Nat → Nat} (Y : MS τ h q) : τ (q 97) = some (197, 0, 0) := Y.r 97 _ rfl (by decide)
theorem ga_97 {K : Nat → ClassId} {h : Nat} {q : Nat → Nat} {σ : Nat → va_E} (G : GT K h q σ) : okMi (K 2) 32 (-128) (127) (σ (q 97)) := G.r 97 _ rfl (by decide)
theorem gp_97 {τ : Nat → Option Ty} {K : Nat → ClassId} {h : Nat} {q : Nat → Nat} {σ σ' : Nat → va_E} (Y : MS τ h q) (G : GM K h q σ) (hok : okMi (K 2) 32 (-128) (127) (σ' (q 97))) (hne : ∀ b : Nat, b ≠ q 97 → σ' b = σ b) : GM K h q σ' := G.put Y (j := 97) rfl (by decide) rfl hok hne
theorem gq_97 {τ : Nat → Option Ty} {K : Nat → ClassId} {h : Nat} {q : Nat → Nat} {σ σ' : Nat → va_E} (Y : MS τ h q) (G : GT K h q σ) (hok : okMi (K 2) 32 (-128) (127) (σ' (q 97))) (hne : ∀ b : Nat, b ≠ q 97 → σ' b = σ b) : GT K h q σ' := G.put Y (j := 97) rfl (by decide) hok hne
theorem ym_98 {τ : Nat → Option Ty} {h : Nat} {q : Nat → Nat} (Y : MS τ h q) : τ (q 98) = some (198, 0, 0) := Y.r 98 _ rfl (by decide)
theorem ga_98 {K : Nat → ClassId} {h : Nat} {q : Nat → Nat} {σ : Nat → va_E} (G : GT K h q σ) : okMi (K 2) 16 (-128) (127) (σ (q 98)) := G.r 98 _ rfl (by decide)
theorem gp_98 {τ : Nat → Option Ty} {K : Nat → ClassId} {h : Nat} {q : Nat → Nat} {σ σ' : Nat → va_E} (Y : MS τ h q) (G : GM K h q σ) (hok : okMi (K 2) 16 (-128) (127) (σ' (q 98))) (hne : ∀ b : Nat, b ≠ q 98 → σ' b = σ b) : GM K h q σ' := G.put Y (j := 98) rfl (by decide) rfl hok hne
theorem gq_98 {τ : Nat → Option Ty} {K : Nat → ClassId} {h : Nat} {q : Nat → Nat} {σ σ' : Nat → va_E} (Y : MS τ h q) (G : GT K h q σ) (hok : okMi (K 2) 16 (-128) (127) (σ' (q 98))) (hne : ∀ b : Nat, b ≠ q 98 → σ' b = σ b) : GT K h q σ' := G.put Y (j := 98) rfl (by decide) hok hne
theorem ym_99 {τ : Nat → Option Ty} {h : Nat} {q : Nat → Nat} (Y : MS τ h q) : τ (q 99) = some (199, 0, 0) := Y.r 99 _ rfl (by decide)
theorem ga_99 {K : Nat → ClassId} {h : Nat} {q : Nat → Nat} {σ : Nat → va_E} (G : GT K h q σ) : okMi (K 2) 16 (-128) (127) (σ (q 99)) := G.r 99 _ rfl (by decide)
theorem gp_99 {τ : Nat → Option Ty} {K : Nat → ClassId} {h : Nat} {q : Nat → Nat} {σ σ' : Nat → va_E} (Y : MS τ h q) (G : GM K h q σ) (hok : okMi (K 2) 16 (-128) (127) (σ' (q 99))) (hne : ∀ b : Nat, b ≠ q 99 → σ' b = σ b) : GM K h q σ' := G.put Y (j := 99) rfl (by decide) rfl hok hne
theorem gq_99 {τ : Nat → Option Ty} {K : Nat → ClassId} {h : Nat} {q : Nat → Nat} {σ σ' : Nat → va_E} (Y : MS τ h q) (G : GT K h q σ) (hok : okMi (K 2) 16 (-128) (127) (σ' (q 99))) (hne : ∀ b : Nat, b ≠ q 99 → σ' b = σ b) : GT K h q σ' := G.put Y (j := 99) rfl (by decide) hok hne
theorem ym_100 {τ : Nat → Option Ty} {h : Nat} {q : Nat → Nat} (Y : MS τ h q) : τ (q 100) = some (200, 0, 0) := Y.r 100 _ rfl (by decide)
theorem ga_100 {K : Nat → ClassId} {h : Nat} {q : Nat → Nat} {σ : Nat → va_E} (G : GT K h q σ) : okMi (K 0) 2 (0) (20) (σ (q 100)) := G.r 100 _ rfl (by decide)
theorem gp_100 {τ : Nat → Option Ty} {K : Nat → ClassId} {h : Nat} {q : Nat → Nat} {σ σ' : Nat → va_E} (Y : MS τ h q) (G : GM K h q σ) (hok : okMi (K 0) 2 (0) (20) (σ' (q 100))) (hne : ∀ b : Nat, b ≠ q 100 → σ' b = σ b) : GM K h q σ' := G.put Y (j := 100) rfl (by decide) rfl hok hne
theorem gq_100 {τ : Nat → Option Ty} {K : Nat → ClassId} {h : Nat} {q : Nat → Nat} {σ σ' : Nat → va_E} (Y : MS τ h q) (G : GT K h q σ) (hok : okMi (K 0) 2 (0) (20) (σ' (q 100))) (hne : ∀ b : Nat, b ≠ q 100 → σ' b = σ b) : GT K h q σ' := G.put Y (j := 100) rfl (by decide) hok hne
theorem ym_101 {τ : Nat → Option Ty} {h : Nat} {q : Nat → Nat} (Y : MS τ h q) : τ (q 101) = some (201, 0, 0) := Y.r 101 _ rfl (by decide)
theorem ga_101 {K : Nat → ClassId} {h : Nat} {q : Nat → Nat} {σ : Nat → va_E} (G : GT K h q σ) : okMi (K 0) 40 (-2147483648) (2147483647) (σ (q 101)) := G.r 101 _ rfl (by decide)
theorem gp_101 {τ : Nat → Option Ty} {K : Nat → ClassId} {h : Nat} {q : Nat → Nat} {σ σ' : Nat → va_E} (Y : MS τ h q) (G : GM K h q σ) (hok : okMi (K 0) 40 (-2147483648) (2147483647) (σ' (q 101))) (hne : ∀ b : Nat, b ≠ q 101 → σ' b = σ b) : GM K h q σ' := G.put Y (j := 101) rfl (by decide) rfl hok hne
theorem gq_101 {τ : Nat → Option Ty} {K : Nat → ClassId} {h : Nat} {q : Nat → Nat} {σ σ' : Nat → va_E} (Y : MS τ h q) (G : GT K h q σ) (hok : okMi (K 0) 40 (-2147483648) (2147483647) (σ' (q 101))) (hne : ∀ b : Nat, b ≠ q 101 → σ' b = σ b) : GT K h q σ' := G.put Y (j := 101) rfl (by decide) hok hne
theorem ym_102 {τ : Nat → Option Ty} {h : Nat} {q : Nat → Nat} (Y : MS τ h q) : τ (q 102) = some (202, 0, 0) := Y.r 102 _ rfl (by decide)
theorem ga_102 {K : Nat → ClassId} {h : Nat} {q : Nat → Nat} {σ : Nat → va_E} (G : GT K h q σ) : okMi (K 0) 40 (-2147483648) (2147483647) (σ (q 102)) := G.r 102 _ rfl (by decide)
theorem gp_102 {τ : Nat → Option Ty} {K : Nat → ClassId} {h : Nat} {q : Nat → Nat} {σ σ' : Nat → va_E} (Y : MS τ h q) (G : GM K h q σ) (hok : okMi (K 0) 40 (-2147483648) (2147483647) (σ' (q 102))) (hne : ∀ b : Nat, b ≠ q 102 → σ' b = σ b) : GM K h q σ' := G.put Y (j := 102) rfl (by decide) rfl hok hne
theorem gq_102 {τ : Nat → Option Ty} {K : Nat → ClassId} {h : Nat} {q : Nat → Nat} {σ σ' : Nat → va_E} (Y : MS τ h q) (G : GT K h q σ) (hok : okMi (K 0) 40 (-2147483648) (2147483647) (σ' (q 102))) (hne : ∀ b : Nat, b ≠ q 102 → σ' b = σ b) : GT K h q σ' := G.put Y (j := 102) rfl (by decide) hok hne
theorem ym_103 {τ : Nat → Option Ty} {h : Nat} {q : Nat → Nat} (Y : MS τ h q) : τ (q 103) = some (203, 0, 0) := Y.r 103 _ rfl (by decide)
theorem ga_103 {K : Nat → ClassId} {h : Nat} {q : Nat → Nat} {σ : Nat → va_E} (G : GT K h q σ) : okMi (K 0) 40 (0) (40) (σ (q 103)) := G.r 103 _ rfl (by decide)
theorem gp_103 {τ : Nat → Option Ty} {K : Nat → ClassId} {h : Nat} {q : Nat → Nat} {σ σ' : Nat → va_E} (Y : MS τ h q) (G : GM K h q σ) (hok : okMi (K 0) 40 (0) (40) (σ' (q 103))) (hne : ∀ b : Nat, b ≠ q 103 → σ' b = σ b) : GM K h q σ' := G.put Y (j := 103) rfl (by decide) rfl hok hne
theorem gq_103 {τ : Nat → Option Ty} {K : Nat → ClassId} {h : Nat} {q : Nat → Nat} {σ σ' : Nat → va_E} (Y : MS τ h q) (G : GT K h q σ) (hok : okMi (K 0) 40 (0) (40) (σ' (q 103))) (hne : ∀ b : Nat, b ≠ q 103 → σ' b = σ b) : GT K h q σ' := G.put Y (j := 103) rfl (by decide) hok hne
theorem ym_104 {τ : Nat → Option Ty} {h : Nat} {q : Nat → Nat} (Y : MS τ h q) : τ (q 104) = some (204, 0, 0) := Y.r 104 _ rfl (by decide)
theorem ga_104 {K : Nat → ClassId} {h : Nat} {q : Nat → Nat} {σ : Nat → va_E} (G : GT K h q σ) : okMi (K 0) 2 (23) (64) (σ (q 104)) := G.r 104 _ rfl (by decide)
theorem gp_104 {τ : Nat → Option Ty} {K : Nat → ClassId} {h : Nat} {q : Nat → Nat} {σ σ' : Nat → va_E} (Y : MS τ h q) (G : GM K h q σ) (hok : okMi (K 0) 2 (23) (64) (σ' (q 104))) (hne : ∀ b : Nat, b ≠ q 104 → σ' b = σ b) : GM K h q σ' := G.put Y (j := 104) rfl (by decide) rfl hok hne
theorem gq_104 {τ : Nat → Option Ty} {K : Nat → ClassId} {h : Nat} {q : Nat → Nat} {σ σ' : Nat → va_E} (Y : MS τ h q) (G : GT K h q σ) (hok : okMi (K 0) 2 (23) (64) (σ' (q 104))) (hne : ∀ b : Nat, b ≠ q 104 → σ' b = σ b) : GT K h q σ' := G.put Y (j := 104) rfl (by decide) hok hne
theorem ym_105 {τ : Nat → Option Ty} {h : Nat} {q : Nat → Nat} (Y : MS τ h q) : τ (q 105) = some (205, 0, 0) := Y.r 105 _ rfl (by decide)
theorem ga_105 {K : Nat → ClassId} {h : Nat} {q : Nat → Nat} {σ : Nat → va_E} (G : GT K h q σ) : okMi (K 0) 2 (23) (64) (σ (q 105)) := G.r 105 _ rfl (by decide)
theorem gp_105 {τ : Nat → Option Ty} {K : Nat → ClassId} {h : Nat} {q : Nat → Nat} {σ σ' : Nat → va_E} (Y : MS τ h q) (G : GM K h q σ) (hok : okMi (K 0) 2 (23) (64) (σ' (q 105))) (hne : ∀ b : Nat, b ≠ q 105 → σ' b = σ b) : GM K h q σ' := G.put Y (j := 105) rfl (by decide) rfl hok hne
theorem gq_105 {τ : Nat → Option Ty} {K : Nat → ClassId} {h : Nat} {q : Nat → Nat} {σ σ' : Nat → va_E} (Y : MS τ h q) (G : GT K h q σ) (hok : okMi (K 0) 2 (23) (64) (σ' (q 105))) (hne : ∀ b : Nat, b ≠ q 105 → σ' b = σ b) : GT K h q σ' := G.put Y (j := 105) rfl (by decide) hok hne
theorem ym_106 {τ : Nat → Option Ty} {h : Nat} {q : Nat → Nat} (Y : MS τ h q) : τ (q 106) = some (206, 0, 0) := Y.r 106 _ rfl (by decide)
theorem ga_106 {K : Nat → ClassId} {h : Nat} {q : Nat → Nat} {σ : Nat → va_E} (G : GT K h q σ) : okMi (K 0) 2 (0) (6) (σ (q 106)) := G.r 106 _ rfl (by decide)
theorem gp_106 {τ : Nat → Option Ty} {K : Nat → ClassId} {h : Nat} {q : Nat → Nat} {σ σ' : Nat → va_E} (Y : MS τ h q) (G : GT K h q σ) (hok : okMi (K 0) 2 (0) (6) (σ' (q 106))) (hne : ∀ b : Nat, b ≠ q 106 → σ' b = σ b) : GT K h q σ' := G.put Y (j := 106) rfl (by decide) hok hne
theorem ym_107 {τ : Nat → Option Ty} {h : Nat} {q : Nat → Nat} (Y : MS τ h q) : τ (q 107) = some (207, 0, 0) := Y.r 107 _ rfl (by decide)
theorem ga_107 {K : Nat → ClassId} {h : Nat} {q : Nat → Nat} {σ : Nat → va_E} (G : GT K h q σ) : okMi (K 2) 1600 (-128) (127) (σ (q 107)) := G.r 107 _ rfl (by decide)
theorem gp_107 {τ : Nat → Option Ty} {K : Nat → ClassId} {h : Nat} {q : Nat → Nat} {σ σ' : Nat → va_E} (Y : MS τ h q) (G : GM K h q σ) (hok : okMi (K 2) 1600 (-128) (127) (σ' (q 107))) (hne : ∀ b : Nat, b ≠ q 107 → σ' b = σ b) : GM K h q σ' := G.put Y (j := 107) rfl (by decide) rfl hok hne
theorem gq_107 {τ : Nat → Option Ty} {K : Nat → ClassId} {h : Nat} {q : Nat → Nat} {σ σ' : Nat → va_E} (Y : MS τ h q) (G : GT K h q σ) (hok : okMi (K 2) 1600 (-128) (127) (σ' (q 107))) (hne : ∀ b : Nat, b ≠ q 107 → σ' b = σ b) : GT K h q σ' := G.put Y (j := 107) rfl (by decide) hok hne
theorem ym_108 {τ : Nat → Option Ty} {h : Nat} {q : Nat → Nat} (Y : MS τ h q) : τ (q 108) = some (208, 0, 0) := Y.r 108 _ rfl (by decide)
theorem ga_108 {K : Nat → ClassId} {h : Nat} {q : Nat → Nat} {σ : Nat → va_E} (G : GT K h q σ) : okMi (K 2) 768 (-128) (127) (σ (q 108)) := G.r 108 _ rfl (by decide)
theorem gp_108 {τ : Nat → Option Ty} {K : Nat → ClassId} {h : Nat} {q : Nat → Nat} {σ σ' : Nat → va_E} (Y : MS τ h q) (G : GM K h q σ) (hok : okMi (K 2) 768 (-128) (127) (σ' (q 108))) (hne : ∀ b : Nat, b ≠ q 108 → σ' b = σ b) : GM K h q σ' := G.put Y (j := 108) rfl (by decide) rfl hok hne
theorem gq_108 {τ : Nat → Option Ty} {K : Nat → ClassId} {h : Nat} {q : Nat → Nat} {σ σ' : Nat → va_E} (Y : MS τ h q) (G : GT K h q σ) (hok : okMi (K 2) 768 (-128) (127) (σ' (q 108))) (hne : ∀ b : Nat, b ≠ q 108 → σ' b = σ b) : GT K h q σ' := G.put Y (j := 108) rfl (by decide) hok hne
theorem ym_109 {τ : Nat → Option Ty} {h : Nat} {q : Nat → Nat} (Y : MS τ h q) : τ (q 109) = some (209, 0, 0) := Y.r 109 _ rfl (by decide)
theorem ga_109 {K : Nat → ClassId} {h : Nat} {q : Nat → Nat} {σ : Nat → va_E} (G : GT K h q σ) : okMi (K 2) 800 (-128) (127) (σ (q 109)) := G.r 109 _ rfl (by decide)
theorem gp_109 {τ : Nat → Option Ty} {K : Nat → ClassId} {h : Nat} {q : Nat → Nat} {σ σ' : Nat → va_E} (Y : MS τ h q) (G : GM K h q σ) (hok : okMi (K 2) 800 (-128) (127) (σ' (q 109))) (hne : ∀ b : Nat, b ≠ q 109 → σ' b = σ b) : GM K h q σ' := G.put Y (j := 109) rfl (by decide) rfl hok hne
theorem gq_109 {τ : Nat → Option Ty} {K : Nat → ClassId} {h : Nat} {q : Nat → Nat} {σ σ' : Nat → va_E} (Y : MS τ h q) (G : GT K h q σ) (hok : okMi (K 2) 800 (-128) (127) (σ' (q 109))) (hne : ∀ b : Nat, b ≠ q 109 → σ' b = σ b) : GT K h q σ' := G.put Y (j := 109) rfl (by decide) hok hne
theorem ym_110 {τ : Nat → Option Ty} {h : Nat} {q : Nat → Nat} (Y : MS τ h q) : τ (q 110) = some (210, 0, 0) := Y.r 110 _ rfl (by decide)
theorem ga_110 {K : Nat → ClassId} {h : Nat} {q : Nat → Nat} {σ : Nat → va_E} (G : GT K h q σ) : okMi (K 0) 12 (0) (20) (σ (q 110)) := G.r 110 _ rfl (by decide)
theorem gp_110 {τ : Nat → Option Ty} {K : Nat → ClassId} {h : Nat} {q : Nat → Nat} {σ σ' : Nat → va_E} (Y : MS τ h q) (G : GT K h q σ) (hok : okMi (K 0) 12 (0) (20) (σ' (q 110))) (hne : ∀ b : Nat, b ≠ q 110 → σ' b = σ b) : GT K h q σ' := G.put Y (j := 110) rfl (by decide) hok hne
theorem ym_111 {τ : Nat → Option Ty} {h : Nat} {q : Nat → Nat} (Y : MS τ h q) : τ (q 111) = some (211, 0, 0) := Y.r 111 _ rfl (by decide)
theorem ga_111 {K : Nat → ClassId} {h : Nat} {q : Nat → Nat} {σ : Nat → va_E} (G : GT K h q σ) : okMi (K 0) 12 (0) (65535) (σ (q 111)) := G.r 111 _ rfl (by decide)
theorem gp_111 {τ : Nat → Option Ty} {K : Nat → ClassId} {h : Nat} {q : Nat → Nat} {σ σ' : Nat → va_E} (Y : MS τ h q) (G : GM K h q σ) (hok : okMi (K 0) 12 (0) (65535) (σ' (q 111))) (hne : ∀ b : Nat, b ≠ q 111 → σ' b = σ b) : GM K h q σ' := G.put Y (j := 111) rfl (by decide) rfl hok hne
theorem gq_111 {τ : Nat → Option Ty} {K : Nat → ClassId} {h : Nat} {q : Nat → Nat} {σ σ' : Nat → va_E} (Y : MS τ h q) (G : GT K h q σ) (hok : okMi (K 0) 12 (0) (65535) (σ' (q 111))) (hne : ∀ b : Nat, b ≠ q 111 → σ' b = σ b) : GT K h q σ' := G.put Y (j := 111) rfl (by decide) hok hne
theorem ym_112 {τ : Nat → Option Ty} {h : Nat} {q : Nat → Nat} (Y : MS τ h q) : τ (q 112) = some (212, 0, 0) := Y.r 112 _ rfl (by decide)
theorem ga_112 {K : Nat → ClassId} {h : Nat} {q : Nat → Nat} {σ : Nat → va_E} (G : GT K h q σ) : okMi (K 0) 12 (0) (64) (σ (q 112)) := G.r 112 _ rfl (by decide)
theorem gp_112 {τ : Nat → Option Ty} {K : Nat → ClassId} {h : Nat} {q : Nat → Nat} {σ σ' : Nat → va_E} (Y : MS τ h q) (G : GM K h q σ) (hok : okMi (K 0) 12 (0) (64) (σ' (q 112))) (hne : ∀ b : Nat, b ≠ q 112 → σ' b = σ b) : GM K h q σ' := G.put Y (j := 112) rfl (by decide) rfl hok hne
theorem gq_112 {τ : Nat → Option Ty} {K : Nat → ClassId} {h : Nat} {q : Nat → Nat} {σ σ' : Nat → va_E} (Y : MS τ h q) (G : GT K h q σ) (hok : okMi (K 0) 12 (0) (64) (σ' (q 112))) (hne : ∀ b : Nat, b ≠ q 112 → σ' b = σ b) : GT K h q σ' := G.put Y (j := 112) rfl (by decide) hok hne
theorem ym_113 {τ : Nat → Option Ty} {h : Nat} {q : Nat → Nat} (Y : MS τ h q) : τ (q 113) = some (213, 0, 0) := Y.r 113 _ rfl (by decide)
theorem ga_113 {K : Nat → ClassId} {h : Nat} {q : Nat → Nat} {σ : Nat → va_E} (G : GT K h q σ) : okMi (K 0) 20 (0) (40) (σ (q 113)) := G.r 113 _ rfl (by decide)
theorem gp_113 {τ : Nat → Option Ty} {K : Nat → ClassId} {h : Nat} {q : Nat → Nat} {σ σ' : Nat → va_E} (Y : MS τ h q) (G : GM K h q σ) (hok : okMi (K 0) 20 (0) (40) (σ' (q 113))) (hne : ∀ b : Nat, b ≠ q 113 → σ' b = σ b) : GM K h q σ' := G.put Y (j := 113) rfl (by decide) rfl hok hne
theorem gq_113 {τ : Nat → Option Ty} {K : Nat → ClassId} {h : Nat} {q : Nat → Nat} {σ σ' : Nat → va_E} (Y : MS τ h q) (G : GT K h q σ) (hok : okMi (K 0) 20 (0) (40) (σ' (q 113))) (hne : ∀ b : Nat, b ≠ q 113 → σ' b = σ b) : GT K h q σ' := G.put Y (j := 113) rfl (by decide) hok hne
theorem ym_114 {τ : Nat → Option Ty} {h : Nat} {q : Nat → Nat} (Y : MS τ h q) : τ (q 114) = some (214, 0, 0) := Y.r 114 _ rfl (by decide)
theorem ga_114 {K : Nat → ClassId} {h : Nat} {q : Nat → Nat} {σ : Nat → va_E} (G : GT K h q σ) : okMi (K 3) 2 (0) (1) (σ (q 114)) := G.r 114 _ rfl (by decide)
theorem gp_114 {τ : Nat → Option Ty} {K : Nat → ClassId} {h : Nat} {q : Nat → Nat} {σ σ' : Nat → va_E} (Y : MS τ h q) (G : GM K h q σ) (hok : okMi (K 3) 2 (0) (1) (σ' (q 114))) (hne : ∀ b : Nat, b ≠ q 114 → σ' b = σ b) : GM K h q σ' := G.put Y (j := 114) rfl (by decide) rfl hok hne
theorem gq_114 {τ : Nat → Option Ty} {K : Nat → ClassId} {h : Nat} {q : Nat → Nat} {σ σ' : Nat → va_E} (Y : MS τ h q) (G : GT K h q σ) (hok : okMi (K 3) 2 (0) (1) (σ' (q 114))) (hne : ∀ b : Nat, b ≠ q 114 → σ' b = σ b) : GT K h q σ' := G.put Y (j := 114) rfl (by decide) hok hne
theorem ym_116 {τ : Nat → Option Ty} {h : Nat} {q : Nat → Nat} (Y : MS τ h q) : τ (q 116) = some (216, 0, 0) := Y.r 116 _ rfl (by decide)
theorem ga_116 {K : Nat → ClassId} {h : Nat} {q : Nat → Nat} {σ : Nat → va_E} (G : GT K h q σ) : okMi (K 0) 2 (-2147483648) (2147483647) (σ (q 116)) := G.r 116 _ rfl (by decide)
theorem gp_116 {τ : Nat → Option Ty} {K : Nat → ClassId} {h : Nat} {q : Nat → Nat} {σ σ' : Nat → va_E} (Y : MS τ h q) (G : GM K h q σ) (hok : okMi (K 0) 2 (-2147483648) (2147483647) (σ' (q 116))) (hne : ∀ b : Nat, b ≠ q 116 → σ' b = σ b) : GM K h q σ' := G.put Y (j := 116) rfl (by decide) rfl hok hne
theorem gq_116 {τ : Nat → Option Ty} {K : Nat → ClassId} {h : Nat} {q : Nat → Nat} {σ σ' : Nat → va_E} (Y : MS τ h q) (G : GT K h q σ) (hok : okMi (K 0) 2 (-2147483648) (2147483647) (σ' (q 116))) (hne : ∀ b : Nat, b ≠ q 116 → σ' b = σ b) : GT K h q σ' := G.put Y (j := 116) rfl (by decide) hok hne
theorem ym_117 {τ : Nat → Option Ty} {h : Nat} {q : Nat → Nat} (Y : MS τ h q) : τ (q 117) = some (217, 0, 0) := Y.r 117 _ rfl (by decide)
theorem ga_117 {K : Nat → ClassId} {h : Nat} {q : Nat → Nat} {σ : Nat → va_E} (G : GT K h q σ) : okMi (K 0) 2 (-2147483648) (2147483647) (σ (q 117)) := G.r 117 _ rfl (by decide)
theorem gp_117 {τ : Nat → Option Ty} {K : Nat → ClassId} {h : Nat} {q : Nat → Nat} {σ σ' : Nat → va_E} (Y : MS τ h q) (G : GM K h q σ) (hok : okMi (K 0) 2 (-2147483648) (2147483647) (σ' (q 117))) (hne : ∀ b : Nat, b ≠ q 117 → σ' b = σ b) : GM K h q σ' := G.put Y (j := 117) rfl (by decide) rfl hok hne
theorem gq_117 {τ : Nat → Option Ty} {K : Nat → ClassId} {h : Nat} {q : Nat → Nat} {σ σ' : Nat → va_E} (Y : MS τ h q) (G : GT K h q σ) (hok : okMi (K 0) 2 (-2147483648) (2147483647) (σ' (q 117))) (hne : ∀ b : Nat, b ≠ q 117 → σ' b = σ b) : GT K h q σ' := G.put Y (j := 117) rfl (by decide) hok hne
theorem ym_118 {τ : Nat → Option Ty} {h : Nat} {q : Nat → Nat} (Y : MS τ h q) : τ (q 118) = some (218, 0, 0) := Y.r 118 _ rfl (by decide)
theorem ga_118 {K : Nat → ClassId} {h : Nat} {q : Nat → Nat} {σ : Nat → va_E} (G : GT K h q σ) : okMi (K 0) 2 (-2147483648) (2147483647) (σ (q 118)) := G.r 118 _ rfl (by decide)
theorem gp_118 {τ : Nat → Option Ty} {K : Nat → ClassId} {h : Nat} {q : Nat → Nat} {σ σ' : Nat → va_E} (Y : MS τ h q) (G : GM K h q σ) (hok : okMi (K 0) 2 (-2147483648) (2147483647) (σ' (q 118))) (hne : ∀ b : Nat, b ≠ q 118 → σ' b = σ b) : GM K h q σ' := G.put Y (j := 118) rfl (by decide) rfl hok hne
theorem gq_118 {τ : Nat → Option Ty} {K : Nat → ClassId} {h : Nat} {q : Nat → Nat} {σ σ' : Nat → va_E} (Y : MS τ h q) (G : GT K h q σ) (hok : okMi (K 0) 2 (-2147483648) (2147483647) (σ' (q 118))) (hne : ∀ b : Nat, b ≠ q 118 → σ' b = σ b) : GT K h q σ' := G.put Y (j := 118) rfl (by decide) hok hne
theorem ym_119 {τ : Nat → Option Ty} {h : Nat} {q : Nat → Nat} (Y : MS τ h q) : τ (q 119) = some (219, 0, 0) := Y.r 119 _ rfl (by decide)
theorem ga_119 {K : Nat → ClassId} {h : Nat} {q : Nat → Nat} {σ : Nat → va_E} (G : GT K h q σ) : okMi (K 0) 2 (-2147483648) (2147483647) (σ (q 119)) := G.r 119 _ rfl (by decide)
theorem gp_119 {τ : Nat → Option Ty} {K : Nat → ClassId} {h : Nat} {q : Nat → Nat} {σ σ' : Nat → va_E} (Y : MS τ h q) (G : GM K h q σ) (hok : okMi (K 0) 2 (-2147483648) (2147483647) (σ' (q 119))) (hne : ∀ b : Nat, b ≠ q 119 → σ' b = σ b) : GM K h q σ' := G.put Y (j := 119) rfl (by decide) rfl hok hne
theorem gq_119 {τ : Nat → Option Ty} {K : Nat → ClassId} {h : Nat} {q : Nat → Nat} {σ σ' : Nat → va_E} (Y : MS τ h q) (G : GT K h q σ) (hok : okMi (K 0) 2 (-2147483648) (2147483647) (σ' (q 119))) (hne : ∀ b : Nat, b ≠ q 119 → σ' b = σ b) : GT K h q σ' := G.put Y (j := 119) rfl (by decide) hok hne
theorem ym_120 {τ : Nat → Option Ty} {h : Nat} {q : Nat → Nat} (Y : MS τ h q) : τ (q 120) = some (220, 0, 0) := Y.r 120 _ rfl (by decide)
theorem ga_120 {K : Nat → ClassId} {h : Nat} {q : Nat → Nat} {σ : Nat → va_E} (G : GT K h q σ) : okMi (K 0) 2 (0) (40) (σ (q 120)) := G.r 120 _ rfl (by decide)
theorem gp_120 {τ : Nat → Option Ty} {K : Nat → ClassId} {h : Nat} {q : Nat → Nat} {σ σ' : Nat → va_E} (Y : MS τ h q) (G : GM K h q σ) (hok : okMi (K 0) 2 (0) (40) (σ' (q 120))) (hne : ∀ b : Nat, b ≠ q 120 → σ' b = σ b) : GM K h q σ' := G.put Y (j := 120) rfl (by decide) rfl hok hne
theorem gq_120 {τ : Nat → Option Ty} {K : Nat → ClassId} {h : Nat} {q : Nat → Nat} {σ σ' : Nat → va_E} (Y : MS τ h q) (G : GT K h q σ) (hok : okMi (K 0) 2 (0) (40) (σ' (q 120))) (hne : ∀ b : Nat, b ≠ q 120 → σ' b = σ b) : GT K h q σ' := G.put Y (j := 120) rfl (by decide) hok hne
theorem ym_121 {τ : Nat → Option Ty} {h : Nat} {q : Nat → Nat} (Y : MS τ h q) : τ (q 121) = some (221, 0, 0) := Y.r 121 _ rfl (by decide)
theorem ga_121 {K : Nat → ClassId} {h : Nat} {q : Nat → Nat} {σ : Nat → va_E} (G : GT K h q σ) : okMi (K 0) 2 (0) (40) (σ (q 121)) := G.r 121 _ rfl (by decide)
theorem gp_121 {τ : Nat → Option Ty} {K : Nat → ClassId} {h : Nat} {q : Nat → Nat} {σ σ' : Nat → va_E} (Y : MS τ h q) (G : GM K h q σ) (hok : okMi (K 0) 2 (0) (40) (σ' (q 121))) (hne : ∀ b : Nat, b ≠ q 121 → σ' b = σ b) : GM K h q σ' := G.put Y (j := 121) rfl (by decide) rfl hok hne
theorem gq_121 {τ : Nat → Option Ty} {K : Nat → ClassId} {h : Nat} {q : Nat → Nat} {σ σ' : Nat → va_E} (Y : MS τ h q) (G : GT K h q σ) (hok : okMi (K 0) 2 (0) (40) (σ' (q 121))) (hne : ∀ b : Nat, b ≠ q 121 → σ' b = σ b) : GT K h q σ' := G.put Y (j := 121) rfl (by decide) hok hne
theorem ym_122 {τ : Nat → Option Ty} {h : Nat} {q : Nat → Nat} (Y : MS τ h q) : τ (q 122) = some (222, 0, 0) := Y.r 122 _ rfl (by decide)
theorem ga_122 {K : Nat → ClassId} {h : Nat} {q : Nat → Nat} {σ : Nat → va_E} (G : GT K h q σ) : okMi (K 2) 80 (-128) (127) (σ (q 122)) := G.r 122 _ rfl (by decide)
theorem gp_122 {τ : Nat → Option Ty} {K : Nat → ClassId} {h : Nat} {q : Nat → Nat} {σ σ' : Nat → va_E} (Y : MS τ h q) (G : GM K h q σ) (hok : okMi (K 2) 80 (-128) (127) (σ' (q 122))) (hne : ∀ b : Nat, b ≠ q 122 → σ' b = σ b) : GM K h q σ' := G.put Y (j := 122) rfl (by decide) rfl hok hne
theorem gq_122 {τ : Nat → Option Ty} {K : Nat → ClassId} {h : Nat} {q : Nat → Nat} {σ σ' : Nat → va_E} (Y : MS τ h q) (G : GT K h q σ) (hok : okMi (K 2) 80 (-128) (127) (σ' (q 122))) (hne : ∀ b : Nat, b ≠ q 122 → σ' b = σ b) : GT K h q σ' := G.put Y (j := 122) rfl (by decide) hok hne
