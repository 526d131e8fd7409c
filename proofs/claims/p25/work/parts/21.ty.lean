def okRow (τ : Nat → Option Ty) (ρ : Nat) (e : va_E) : Prop := ∃ (b N : Nat) (n : Int), e = .inr (9, [.ref b, .int (iI n)]) ∧ τ b = some (2, ρ, N) ∧ (0 ≤ n ∧ n ≤ (N : Int) ∧ (N : Int) ≤ 256)
def okB (K : Nat → ClassId) (N : Nat) (e : va_E) : Prop := ∃ f : Nat → Int32, e = .inl (K 0, N, .inl f) ∧ (N : Int) ≤ 256 ∧ ∀ i : Nat, ∃ z : Int, f i = iI z ∧ (0 ≤ z ∧ z ≤ 255)
def okP (K : Nat → ClassId) (N : Nat) (e : va_E) : Prop := ∃ f : Nat → Int32, e = .inl (K 0, N, .inl f) ∧ (N : Int) ≤ 256
def okC (K : Nat → ClassId) (N : Nat) (e : va_E) : Prop := ∃ f : Nat → Int32, e = .inl (K 0, N, .inl f) ∧ (N : Int) ≤ 256 ∧ ∀ i : Nat, ∃ z : Int, f i = iI z ∧ (0 ≤ z ∧ z ≤ 64)
def okRA (K : Nat → ClassId) (τ : Nat → Option Ty) (ρ N : Nat) (e : va_E) : Prop := ∃ f : Nat → Option Nat, e = .inl (K 4, N, .inr (.inr (.inr (.inr f)))) ∧ ∀ i : Nat, i < N → ∃ a : Nat, f i = some a ∧ τ a = some (1, ρ, 0)
def okII (K : Nat → ClassId) (τ : Nat → Option Ty) (N : Nat) (e : va_E) : Prop := ∃ f : Nat → Option Nat, e = .inl (K 6, N, .inr (.inr (.inr (.inr f)))) ∧ ∀ i : Nat, i < N → ∃ a : Nat, f i = some a ∧ τ a = some (3, 21, 64)
def okIJ (K : Nat → ClassId) (τ : Nat → Option Ty) (N : Nat) (e : va_E) : Prop := ∃ f : Nat → Option Nat, e = .inl (K 6, N, .inr (.inr (.inr (.inr f)))) ∧ ∀ i : Nat, i < N → ∃ a : Nat, f i = some a ∧ τ a = some (3, 22, 3)
def okDV (K : Nat → ClassId) (τ : Nat → Option Ty) (N : Nat) (e : va_E) : Prop := ∃ f : Nat → Option Nat, e = .inl (K 5, N, .inr (.inr (.inr (.inr f)))) ∧ ∀ i : Nat, i < N → ∃ a : Nat, f i = some a ∧ τ a = some (33, 0, 0)
def okAir (τ : Nat → Option Ty) (e : va_E) : Prop := ∃ (x0 : Nat) (x1 : Nat) (x2 : Nat) (x3 : Nat) (x4 : Nat) (x5 : Nat) (x6 : Nat) (x7 : Int) (x8 : Int) (x9 : Int), e = .inr (0, [.ref x0, .ref x1, .ref x2, .ref x3, .ref x4, .ref x5, .ref x6, .int (iI x7), .int (iI x8), .int (iI x9)]) ∧ τ x0 = some (5, 3, 8) ∧ τ x1 = some (3, 20, 8) ∧ τ x2 = some (6, 21, 2) ∧ τ x3 = some (4, 24, 2) ∧ τ x4 = some (3, 25, 2) ∧ τ x5 = some (1, 4, 0) ∧ τ x6 = some (1, 5, 0) ∧ (-2147483648 ≤ x7 ∧ x7 ≤ 2147483647) ∧ (0 ≤ x8 ∧ x8 ≤ 8) ∧ (0 ≤ x9 ∧ x9 ≤ 1)
def okCipher (τ : Nat → Option Ty) (e : va_E) : Prop := ∃ (x0 : Nat) (x1 : Nat), e = .inr (1, [.ref x0, .ref x1]) ∧ τ x0 = some (2, 31, 176) ∧ τ x1 = some (2, 32, 16)
def okClient (τ : Nat → Option Ty) (e : va_E) : Prop := ∃ (x0 : Int) (x1 : Int) (x2 : Int) (x3 : Int) (x4 : Int) (x5 : Nat), e = .inr (2, [.int (iI x0), .int (iI x1), .int (iI x2), .int (iI x3), .int (iI x4), .ref x5]) ∧ (-2147483648 ≤ x0 ∧ x0 ≤ 2147483647) ∧ (-2147483648 ≤ x1 ∧ x1 ≤ 2147483647) ∧ (-2147483648 ≤ x2 ∧ x2 ≤ 2147483647) ∧ (-2147483648 ≤ x3 ∧ x3 ≤ 2147483647) ∧ (-2147483648 ≤ x4 ∧ x4 ≤ 2147483647) ∧ τ x5 = some (1, 15, 0)
def okDevice (τ : Nat → Option Ty) (e : va_E) : Prop := ∃ (x0 : Int) (x1 : Int) (x2 : Int) (x3 : Int) (x4 : Int) (x5 : Int) (x6 : Nat) (x7 : Int) (x8 : Int) (x9 : Nat) (x10 : Int) (x11 : Nat) (x12 : Nat) (x13 : Nat) (x14 : Nat) (x15 : Nat) (x16 : Nat) (x17 : Nat) (x18 : Nat), e = .inr (3, [.int (iI x0), .long (lI x1), .int (iI x2), .int (iI x3), .int (iI x4), .int (iI x5), .ref x6, .int (iI x7), .long (lI x8), .ref x9, .long (lI x10), .ref x11, .ref x12, .ref x13, .ref x14, .ref x15, .ref x16, .ref x17, .ref x18]) ∧ (-2147483648 ≤ x0 ∧ x0 ≤ 2147483647) ∧ InL x1 ∧ (-2147483648 ≤ x2 ∧ x2 ≤ 2147483647) ∧ (-2147483648 ≤ x3 ∧ x3 ≤ 2147483647) ∧ (-2147483648 ≤ x4 ∧ x4 ≤ 2147483647) ∧ (-2147483648 ≤ x5 ∧ x5 ≤ 2147483647) ∧ τ x6 = some (1, 6, 0) ∧ (-2147483648 ≤ x7 ∧ x7 ≤ 2147483647) ∧ InL x8 ∧ τ x9 = some (1, 7, 0) ∧ InL x10 ∧ τ x11 = some (36, 0, 0) ∧ τ x12 = some (37, 0, 0) ∧ τ x13 = some (35, 0, 0) ∧ τ x14 = some (38, 0, 0) ∧ τ x15 = some (40, 0, 0) ∧ τ x16 = some (32, 0, 0) ∧ τ x17 = some (34, 0, 0) ∧ τ x18 = some (1, 8, 0)
def okDiary (τ : Nat → Option Ty) (e : va_E) : Prop := ∃ (x0 : Nat) (x1 : Nat) (x2 : Nat) (x3 : Int) (x4 : Int) (x5 : Int), e = .inr (4, [.ref x0, .ref x1, .ref x2, .int (iI x3), .int (iI x4), .int (iI x5)]) ∧ τ x0 = some (3, 23, 32) ∧ τ x1 = some (7, 22, 32) ∧ τ x2 = some (5, 16, 32) ∧ (0 ≤ x3 ∧ x3 ≤ 31) ∧ (0 ≤ x4 ∧ x4 ≤ 32) ∧ (-2147483648 ≤ x5 ∧ x5 ≤ 2147483647)
def okGuard (τ : Nat → Option Ty) (e : va_E) : Prop := ∃ (x0 : Nat) (x1 : Nat) (x2 : Int) (x3 : Nat) (x4 : Nat) (x5 : Nat) (x6 : Int) (x7 : Int) (x8 : Int) (x9 : Int) (x10 : Int) (x11 : Int) (x12 : Int) (x13 : Int) (x14 : Nat) (x15 : Nat), e = .inr (5, [.ref x0, .ref x1, .int (iI x2), .ref x3, .ref x4, .ref x5, .int (iI x6), .int (iI x7), .int (iI x8), .int (iI x9), .int (iI x10), .int (iI x11), .int (iI x12), .int (iI x13), .ref x14, .ref x15]) ∧ τ x0 = some (31, 0, 0) ∧ τ x1 = some (3, 40, 16) ∧ (0 ≤ x2 ∧ x2 ≤ 1) ∧ τ x3 = some (3, 41, 16) ∧ τ x4 = some (3, 42, 16) ∧ τ x5 = some (3, 43, 8) ∧ (0 ≤ x6 ∧ x6 ≤ 1) ∧ (0 ≤ x7 ∧ x7 ≤ 1) ∧ (0 ≤ x8 ∧ x8 ≤ 1) ∧ (0 ≤ x9 ∧ x9 ≤ 1) ∧ (0 ≤ x10 ∧ x10 ≤ 1) ∧ (0 ≤ x11 ∧ x11 ≤ 1) ∧ (-2147483648 ≤ x12 ∧ x12 ≤ 2147483647) ∧ (-2147483648 ≤ x13 ∧ x13 ≤ 2147483647) ∧ τ x14 = some (3, 44, 16) ∧ τ x15 = some (3, 45, 16)
def okLink (τ : Nat → Option Ty) (e : va_E) : Prop := ∃ (x0 : Int) (x1 : Int) (x2 : Int) (x3 : Int) (x4 : Int) (x5 : Int) (x6 : Int) (x7 : Int) (x8 : Int) (x9 : Int) (x10 : Int) (x11 : Int) (x12 : Int) (x13 : Int) (x14 : Int) (x15 : Int) (x16 : Int) (x17 : Int) (x18 : Int) (x19 : Int), e = .inr (6, [.int (iI x0), .int (iI x1), .int (iI x2), .int (iI x3), .int (iI x4), .long (lI x5), .long (lI x6), .int (iI x7), .int (iI x8), .int (iI x9), .int (iI x10), .int (iI x11), .int (iI x12), .int (iI x13), .int (iI x14), .int (iI x15), .int (iI x16), .int (iI x17), .int (iI x18), .long (lI x19)]) ∧ (-2147483648 ≤ x0 ∧ x0 ≤ 2147483647) ∧ (-2147483648 ≤ x1 ∧ x1 ≤ 2147483647) ∧ (-2147483648 ≤ x2 ∧ x2 ≤ 2147483647) ∧ (-2147483648 ≤ x3 ∧ x3 ≤ 2147483647) ∧ (-2147483648 ≤ x4 ∧ x4 ≤ 2147483647) ∧ InL x5 ∧ InL x6 ∧ (0 ≤ x7 ∧ x7 ≤ 1) ∧ (-2147483648 ≤ x8 ∧ x8 ≤ 2147483647) ∧ (-2147483648 ≤ x9 ∧ x9 ≤ 2147483647) ∧ (-2147483648 ≤ x10 ∧ x10 ≤ 2147483647) ∧ (-2147483648 ≤ x11 ∧ x11 ≤ 2147483647) ∧ (-2147483648 ≤ x12 ∧ x12 ≤ 2147483647) ∧ (-2147483648 ≤ x13 ∧ x13 ≤ 2147483647) ∧ (0 ≤ x14 ∧ x14 ≤ 1) ∧ (-2147483648 ≤ x15 ∧ x15 ≤ 2147483647) ∧ (-2147483648 ≤ x16 ∧ x16 ≤ 2147483647) ∧ (-2147483648 ≤ x17 ∧ x17 ≤ 2147483647) ∧ (-2147483648 ≤ x18 ∧ x18 ≤ 2147483647) ∧ InL x19
def okMail (τ : Nat → Option Ty) (e : va_E) : Prop := ∃ (x0 : Nat) (x1 : Int) (x2 : Int) (x3 : Nat) (x4 : Int) (x5 : Int) (x6 : Int) (x7 : Nat) (x8 : Int) (x9 : Int) (x10 : Int) (x11 : Nat) (x12 : Int) (x13 : Nat) (x14 : Int) (x15 : Nat), e = .inr (7, [.ref x0, .int (iI x1), .int (iI x2), .ref x3, .int (iI x4), .int (iI x5), .int (iI x6), .ref x7, .int (iI x8), .int (iI x9), .int (iI x10), .ref x11, .int (iI x12), .ref x13, .int (iI x14), .ref x15]) ∧ τ x0 = some (1, 2, 0) ∧ (-2147483648 ≤ x1 ∧ x1 ≤ 2147483647) ∧ (-2147483648 ≤ x2 ∧ x2 ≤ 2147483647) ∧ τ x3 = some (5, 9, 6) ∧ (0 ≤ x4 ∧ x4 ≤ 5) ∧ (0 ≤ x5 ∧ x5 ≤ 6) ∧ (0 ≤ x6 ∧ x6 ≤ 1) ∧ τ x7 = some (5, 10, 8) ∧ (0 ≤ x8 ∧ x8 ≤ 7) ∧ (0 ≤ x9 ∧ x9 ≤ 8) ∧ (-2147483648 ≤ x10 ∧ x10 ≤ 2147483647) ∧ τ x11 = some (1, 11, 0) ∧ (0 ≤ x12 ∧ x12 ≤ 1) ∧ τ x13 = some (1, 12, 0) ∧ (-2147483648 ≤ x14 ∧ x14 ≤ 2147483647) ∧ τ x15 = some (1, 9, 0)
def okPairing (τ : Nat → Option Ty) (e : va_E) : Prop := ∃ (x0 : Nat) (x1 : Int) (x2 : Int) (x3 : Nat) (x4 : Nat) (x5 : Nat) (x6 : Nat) (x7 : Nat), e = .inr (8, [.ref x0, .int (iI x1), .int (iI x2), .ref x3, .ref x4, .ref x5, .ref x6, .ref x7]) ∧ τ x0 = some (31, 0, 0) ∧ (-2147483648 ≤ x1 ∧ x1 ≤ 2147483647) ∧ (-2147483648 ≤ x2 ∧ x2 ≤ 2147483647) ∧ τ x3 = some (3, 46, 16) ∧ τ x4 = some (2, 33, 16) ∧ τ x5 = some (2, 34, 16) ∧ τ x6 = some (3, 47, 16) ∧ τ x7 = some (2, 35, 16)
def okServer (τ : Nat → Option Ty) (e : va_E) : Prop := ∃ (x0 : Nat) (x1 : Nat) (x2 : Nat) (x3 : Int) (x4 : Int) (x5 : Int) (x6 : Nat) (x7 : Int) (x8 : Int) (x9 : Nat), e = .inr (10, [.ref x0, .ref x1, .ref x2, .int (iI x3), .int (iI x4), .int (iI x5), .ref x6, .int (iI x7), .int (iI x8), .ref x9]) ∧ τ x0 = some (3, 26, 20) ∧ τ x1 = some (3, 27, 20) ∧ τ x2 = some (5, 13, 20) ∧ (0 ≤ x3 ∧ x3 ≤ 20) ∧ (-2147483648 ≤ x4 ∧ x4 ≤ 2147483647) ∧ (-2147483648 ≤ x5 ∧ x5 ≤ 2147483647) ∧ τ x6 = some (5, 14, 6) ∧ (0 ≤ x7 ∧ x7 ≤ 6) ∧ (0 ≤ x8 ∧ x8 ≤ 1) ∧ τ x9 = some (3, 28, 20)
def okLow (τ : Nat → Option Ty) (e : va_E) : Prop := ∃ (x0 : Nat) (x1 : Nat) (x2 : Nat) (x3 : Nat) (x4 : Int), e = .inr (11, [.ref x0, .ref x1, .ref x2, .ref x3, .int (iI x4)]) ∧ τ x0 = some (8, 0, 2) ∧ τ x1 = some (30, 0, 0) ∧ τ x2 = some (1, 1, 0) ∧ τ x3 = some (1, 2, 0) ∧ (-2147483648 ≤ x4 ∧ x4 ≤ 2147483647)
def Ok (K : Nat → ClassId) (τ : Nat → Option Ty) (t : Ty) (e : va_E) : Prop := match t.1 with
  | 1 => okRow τ t.2.1 e
  | 2 => okB K t.2.2 e
  | 3 => okP K t.2.2 e
  | 4 => okC K t.2.2 e
  | 5 => okRA K τ t.2.1 t.2.2 e
  | 6 => okII K τ t.2.2 e
  | 7 => okIJ K τ t.2.2 e
  | 8 => okDV K τ t.2.2 e
  | 30 => okAir τ e
  | 31 => okCipher τ e
  | 32 => okClient τ e
  | 33 => okDevice τ e
  | 34 => okDiary τ e
  | 35 => okGuard τ e
  | 36 => okLink τ e
  | 37 => okMail τ e
  | 38 => okPairing τ e
  | 40 => okServer τ e
  | 41 => okLow τ e
  | _ => False
def Good (K : Nat → ClassId) (τ : Nat → Option Ty) (σ : Nat → va_E) : Prop := ∀ (a : Nat) (t : Ty), τ a = some t → Ok K τ t (σ a)
theorem Good.put {K : Nat → ClassId} {τ : Nat → Option Ty} {σ σ' : Nat → va_E} (hG : Good K τ σ) {a : Nat} {t : Ty} (ht : τ a = some t) (hok : Ok K τ t (σ' a)) (hne : ∀ b : Nat, b ≠ a → σ' b = σ b) : Good K τ σ' := fun b u hb => by
  by_cases e : b = a
  · subst e
    cases Option.some.inj (hb.symm.trans ht)
    exact hok
  · rw [hne b e]
    exact hG b u hb
theorem el_upd {f : Nat → Int32} {lo hi z : Int} (h : ∀ i : Nat, ∃ z : Int, f i = iI z ∧ (lo ≤ z ∧ z ≤ hi)) (hz : lo ≤ z ∧ z ≤ hi) (k : Nat) : ∀ i : Nat, ∃ y : Int, upd f k (iI z) i = iI y ∧ (lo ≤ y ∧ y ≤ hi) := fun i => by
  by_cases e : i = k
  · exact ⟨z, by rw [upd, if_pos e], hz⟩
  · obtain ⟨y, h1, h2⟩ := h i
    exact ⟨y, by rw [upd, if_neg e]; exact h1, h2⟩
theorem cls_Row {K : Nat → ClassId} {τ : Nat → Option Ty} {σ : Nat → va_E} (hG : Good K τ σ) {a ρ : Nat} (ht : τ a = some (1, ρ, 0)) : ∃ fs : List Value, σ a = .inr (9, fs) := by
  obtain ⟨b, N, n, h, -⟩ := (hG a _ ht : okRow τ ρ (σ a))
  exact ⟨_, h⟩
theorem cls_Air {K : Nat → ClassId} {τ : Nat → Option Ty} {σ : Nat → va_E} (hG : Good K τ σ) {a : Nat} (ht : τ a = some (30, 0, 0)) : ∃ fs : List Value, σ a = .inr (0, fs) := by
  obtain ⟨_, _, _, _, _, _, _, _, _, _, h, -⟩ := (hG a _ ht : okAir τ (σ a))
  exact ⟨_, h⟩
theorem cls_Cipher {K : Nat → ClassId} {τ : Nat → Option Ty} {σ : Nat → va_E} (hG : Good K τ σ) {a : Nat} (ht : τ a = some (31, 0, 0)) : ∃ fs : List Value, σ a = .inr (1, fs) := by
  obtain ⟨_, _, h, -⟩ := (hG a _ ht : okCipher τ (σ a))
  exact ⟨_, h⟩
theorem cls_Client {K : Nat → ClassId} {τ : Nat → Option Ty} {σ : Nat → va_E} (hG : Good K τ σ) {a : Nat} (ht : τ a = some (32, 0, 0)) : ∃ fs : List Value, σ a = .inr (2, fs) := by
  obtain ⟨_, _, _, _, _, _, h, -⟩ := (hG a _ ht : okClient τ (σ a))
  exact ⟨_, h⟩
theorem cls_Device {K : Nat → ClassId} {τ : Nat → Option Ty} {σ : Nat → va_E} (hG : Good K τ σ) {a : Nat} (ht : τ a = some (33, 0, 0)) : ∃ fs : List Value, σ a = .inr (3, fs) := by
  obtain ⟨_, _, _, _, _, _, _, _, _, _, _, _, _, _, _, _, _, _, _, h, -⟩ := (hG a _ ht : okDevice τ (σ a))
  exact ⟨_, h⟩
theorem cls_Diary {K : Nat → ClassId} {τ : Nat → Option Ty} {σ : Nat → va_E} (hG : Good K τ σ) {a : Nat} (ht : τ a = some (34, 0, 0)) : ∃ fs : List Value, σ a = .inr (4, fs) := by
  obtain ⟨_, _, _, _, _, _, h, -⟩ := (hG a _ ht : okDiary τ (σ a))
  exact ⟨_, h⟩
theorem cls_Guard {K : Nat → ClassId} {τ : Nat → Option Ty} {σ : Nat → va_E} (hG : Good K τ σ) {a : Nat} (ht : τ a = some (35, 0, 0)) : ∃ fs : List Value, σ a = .inr (5, fs) := by
  obtain ⟨_, _, _, _, _, _, _, _, _, _, _, _, _, _, _, _, h, -⟩ := (hG a _ ht : okGuard τ (σ a))
  exact ⟨_, h⟩
theorem cls_Link {K : Nat → ClassId} {τ : Nat → Option Ty} {σ : Nat → va_E} (hG : Good K τ σ) {a : Nat} (ht : τ a = some (36, 0, 0)) : ∃ fs : List Value, σ a = .inr (6, fs) := by
  obtain ⟨_, _, _, _, _, _, _, _, _, _, _, _, _, _, _, _, _, _, _, _, h, -⟩ := (hG a _ ht : okLink τ (σ a))
  exact ⟨_, h⟩
theorem cls_Mail {K : Nat → ClassId} {τ : Nat → Option Ty} {σ : Nat → va_E} (hG : Good K τ σ) {a : Nat} (ht : τ a = some (37, 0, 0)) : ∃ fs : List Value, σ a = .inr (7, fs) := by
  obtain ⟨_, _, _, _, _, _, _, _, _, _, _, _, _, _, _, _, h, -⟩ := (hG a _ ht : okMail τ (σ a))
  exact ⟨_, h⟩
theorem cls_Pairing {K : Nat → ClassId} {τ : Nat → Option Ty} {σ : Nat → va_E} (hG : Good K τ σ) {a : Nat} (ht : τ a = some (38, 0, 0)) : ∃ fs : List Value, σ a = .inr (8, fs) := by
  obtain ⟨_, _, _, _, _, _, _, _, h, -⟩ := (hG a _ ht : okPairing τ (σ a))
  exact ⟨_, h⟩
theorem cls_Server {K : Nat → ClassId} {τ : Nat → Option Ty} {σ : Nat → va_E} (hG : Good K τ σ) {a : Nat} (ht : τ a = some (40, 0, 0)) : ∃ fs : List Value, σ a = .inr (10, fs) := by
  obtain ⟨_, _, _, _, _, _, _, _, _, _, h, -⟩ := (hG a _ ht : okServer τ (σ a))
  exact ⟨_, h⟩
theorem cls_Low {K : Nat → ClassId} {τ : Nat → Option Ty} {σ : Nat → va_E} (hG : Good K τ σ) {a : Nat} (ht : τ a = some (41, 0, 0)) : ∃ fs : List Value, σ a = .inr (11, fs) := by
  obtain ⟨_, _, _, _, _, h, -⟩ := (hG a _ ht : okLow τ (σ a))
  exact ⟨_, h⟩
theorem row_inj {b b' : Nat} {n n' : Int} (e : (Sum.inr (9, [.ref b, .int (iI n)]) : va_E) = .inr (9, [.ref b', .int (iI n')])) (h : InR n) (h' : InR n') : n = n' := by
  have e1 := (Prod.mk.inj (Sum.inr.inj e)).2
  have e2 := (List.cons.inj (List.cons.inj e1).2).1
  exact (iI_eq h h').mp (Value.int.inj e2)
theorem row_inj2 {b b' : Nat} {n n' : Int} (e : (Sum.inr (9, [.ref b, .int (iI n)]) : va_E) = .inr (9, [.ref b', .int (iI n')])) (h : InR n) (h' : InR n') : b = b' ∧ n = n' := by
  refine ⟨?_, row_inj e h h'⟩
  have e1 := (Prod.mk.inj (Sum.inr.inj e)).2
  exact Value.ref.inj (List.cons.inj e1).1
theorem arr_inj {k k' : ClassId} {N N' : Nat} {f f' : Nat → Int32} (e : (Sum.inl (k, N, Sum.inl f) : va_E) = .inl (k', N', .inl f')) : f = f' := Sum.inl.inj (Prod.mk.inj (Prod.mk.inj (Sum.inl.inj e)).2).2
/-- z is what Row.two(i) gives of the row h -/
def TwoV (K : Nat → ClassId) (σ : Nat → va_E) (h : Nat) (i z : Int) : Prop := ∀ (b : Nat) (n : Int) (N : Nat) (f : Nat → Int32), σ h = .inr (9, [.ref b, .int (iI n)]) → InR n → σ b = .inl (K 0, N, .inl f) → (0 ≤ i → i < n - 1 → f i.toNat ||| (f (i + 1).toNat <<< (iI 8 &&& 31)) = iI z) ∧ ((i < 0 ∨ n - 1 ≤ i) → z = 0)
theorem TwoV.uniq {K : Nat → ClassId} {τ : Nat → Option Ty} {σ : Nat → va_E} (hG : Good K τ σ) {h ρ : Nat} (ht : τ h = some (1, ρ, 0)) {i z z' : Int} (h1 : TwoV K σ h i z) (h2 : TwoV K σ h i z') (r : InR z) (r' : InR z') : z = z' := by
  obtain ⟨b, N, n, e, tb, q⟩ : okRow τ ρ (σ h) := hG h _ ht
  obtain ⟨f, e2, q2, -⟩ : okB K N (σ b) := hG b _ tb
  obtain ⟨a1, a2⟩ := h1 b n N f e (by omega) e2
  obtain ⟨b1, b2⟩ := h2 b n N f e (by omega) e2
  by_cases c1 : 0 ≤ i
  · by_cases c2 : i < n - 1
    · exact (iI_eq r r').mp ((a1 c1 c2).symm.trans (b1 c1 c2))
    · rw [a2 (by omega), b2 (by omega)]
  · rw [a2 (by omega), b2 (by omega)]
theorem nar01 {z : Int} (h : 0 ≤ z ∧ z ≤ 1) : narrow .boolean (.int (iI z)) = .int (iI z) := by
  rcases (show z = 0 ∨ z = 1 by omega) with rfl | rfl <;> decide +kernel
theorem fit01 {z : Int} (h : 0 ≤ z ∧ z ≤ 1) : fits .boolean (.int (iI z)) = true := by
  rcases (show z = 0 ∨ z = 1 by omega) with rfl | rfl <;> decide +kernel
theorem obj_inj {σ : Nat → va_E} {h ci : Nat} {fs gs : List Value} (e : σ h = .inr (ci, fs)) (e' : σ h = .inr (ci, gs)) : fs = gs := (Prod.mk.inj (Sum.inr.inj (e.symm.trans e'))).2
/-- the number in place j of the object h, whatever it is, is so -/
def Fld (σ : Nat → va_E) (h ci j : Nat) (P : Int → Prop) : Prop := ∀ (fs : List Value) (z : Int), σ h = .inr (ci, fs) → fs[j]? = some (.int (iI z)) → InR z → P z
theorem Fld.mk {σ : Nat → va_E} {h ci j : Nat} {P : Int → Prop} {fs : List Value} {z : Int} (e : σ h = .inr (ci, fs)) (ez : fs[j]? = some (.int (iI z))) (r : InR z) (hp : P z) : Fld σ h ci j P := fun gs y e' ey r' => by
  obtain rfl := obj_inj e e'
  have q := Value.int.inj (Option.some.inj (ez.symm.trans ey))
  rw [← (iI_eq r r').mp q]
  exact hp
theorem Fld.use {σ : Nat → va_E} {h ci j : Nat} {P : Int → Prop} (H : Fld σ h ci j P) {fs : List Value} {z : Int} (e : σ h = .inr (ci, fs)) (ez : fs[j]? = some (.int (iI z))) (r : InR z) : P z := H fs z e ez r
