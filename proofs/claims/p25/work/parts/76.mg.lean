/-- what stands in the rows of a fresh reference -/
def mrow (K : Nat → ClassId) (f : Nat → Int32) (fa sa : Int64) (j : Nat) : va_E := match j with
  | 1 => .inl (K 2, 100, .inl ((fun _ => 0)))
  | 3 => .inl (K 0, 256, .inl (f))
  | 4 => .inl (K 2, 16, .inl ((fun _ => 0)))
  | 5 => .inl (K 2, 16, .inl ((fun _ => 0)))
  | 6 => .inl (K 2, 16, .inl ((fun _ => 0)))
  | 7 => .inl (K 0, 2, .inl ((fun _ => 0)))
  | 8 => .inl (K 0, 2, .inl (gl [0, 1]))
  | 9 => .inl (K 0, 2, .inl ((fun _ => 0)))
  | 10 => .inl (K 0, 2, .inl ((fun _ => 0)))
  | 11 => .inl (K 0, 2, .inl ((fun _ => 0)))
  | 12 => .inl (K 1, 2, .inr (.inl (glL [(fa &&& 281474976710655), (sa &&& 281474976710655)])))
  | 13 => .inl (K 1, 2, .inr (.inl ((fun _ => 0))))
  | 14 => .inl (K 1, 2, .inr (.inl ((fun _ => 0))))
  | 15 => .inl (K 1, 2, .inr (.inl ((fun _ => 0))))
  | 16 => .inl (K 1, 2, .inr (.inl ((fun _ => 0))))
  | 17 => .inl (K 1, 2, .inr (.inl ((fun _ => 0))))
  | 18 => .inl (K 1, 2, .inr (.inl ((fun _ => 0))))
  | 19 => .inl (K 2, 40, .inl ((fun _ => 0)))
  | 20 => .inl (K 2, 64, .inl ((fun _ => 0)))
  | 21 => .inl (K 0, 2, .inl ((fun _ => 0)))
  | 22 => .inl (K 0, 2, .inl ((fun _ => 0)))
  | 23 => .inl (K 0, 2, .inl ((fun _ => 0)))
  | 24 => .inl (K 0, 2, .inl ((fun _ => 0)))
  | 25 => .inl (K 0, 128, .inl ((fun _ => 0)))
  | 26 => .inl (K 0, 2, .inl ((fun _ => 0)))
  | 27 => .inl (K 0, 2, .inl ((fun _ => 0)))
  | 28 => .inl (K 0, 2, .inl ((fun _ => 0)))
  | 29 => .inl (K 0, 2, .inl ((fun _ => 0)))
  | 30 => .inl (K 0, 2, .inl ((fun _ => 0)))
  | 31 => .inl (K 0, 2, .inl (gl [(-1), (-1)]))
  | 32 => .inl (K 0, 2, .inl ((fun _ => 0)))
  | 33 => .inl (K 0, 2, .inl ((fun _ => 0)))
  | 34 => .inl (K 0, 2, .inl ((fun _ => 0)))
  | 35 => .inl (K 0, 2, .inl ((fun _ => 0)))
  | 36 => .inl (K 0, 2, .inl (gl [(-1), (-1)]))
  | 37 => .inl (K 0, 2, .inl (gl [(-1), (-1)]))
  | 38 => .inl (K 0, 2, .inl ((fun _ => 0)))
  | 39 => .inl (K 2, 8, .inl ((fun _ => 0)))
  | 40 => .inl (K 3, 2, .inl ((fun _ => 0)))
  | 41 => .inl (K 3, 2, .inl ((fun _ => 0)))
  | 42 => .inl (K 3, 2, .inl ((fun _ => 0)))
  | 44 => .inl (K 0, 2880, .inl ((fun _ => 0)))
  | 45 => .inl (K 0, 2, .inl ((fun _ => 0)))
  | 46 => .inl (K 0, 2, .inl ((fun _ => 0)))
  | 47 => .inl (K 2, 640, .inl ((fun _ => 0)))
  | 48 => .inl (K 0, 16, .inl ((fun _ => 0)))
  | 49 => .inl (K 0, 16, .inl ((fun _ => 0)))
  | 50 => .inl (K 3, 16, .inl ((fun _ => 0)))
  | 52 => .inl (K 2, 40, .inl ((fun _ => 0)))
  | 53 => .inl (K 2, 40, .inl ((fun _ => 0)))
  | 54 => .inl (K 0, 2, .inl ((fun _ => 0)))
  | 55 => .inl (K 0, 2, .inl ((fun _ => 0)))
  | 56 => .inl (K 0, 2, .inl ((fun _ => 0)))
  | 57 => .inl (K 0, 2, .inl ((fun _ => 0)))
  | 58 => .inl (K 0, 2, .inl ((fun _ => 0)))
  | 59 => .inl (K 0, 2, .inl ((fun _ => 0)))
  | 60 => .inl (K 2, 80, .inl ((fun _ => 0)))
  | 61 => .inl (K 2, 192, .inl ((fun _ => 0)))
  | 62 => .inl (K 2, 32, .inl ((fun _ => 0)))
  | 63 => .inl (K 2, 32, .inl ((fun _ => 0)))
  | 64 => .inl (K 2, 16, .inl ((fun _ => 0)))
  | 65 => .inl (K 2, 16, .inl ((fun _ => 0)))
  | 66 => .inl (K 2, 8, .inl ((fun _ => 0)))
  | 67 => .inl (K 0, 12, .inl ((fun _ => 0)))
  | 68 => .inl (K 3, 2, .inl ((fun _ => 0)))
  | 69 => .inl (K 3, 2, .inl ((fun _ => 0)))
  | 70 => .inl (K 3, 2, .inl ((fun _ => 0)))
  | 71 => .inl (K 3, 2, .inl ((fun _ => 0)))
  | 72 => .inl (K 3, 2, .inl ((fun _ => 0)))
  | 73 => .inl (K 3, 2, .inl ((fun _ => 0)))
  | 74 => .inl (K 3, 2, .inl ((fun _ => 0)))
  | 75 => .inl (K 3, 2, .inl ((fun _ => 0)))
  | 76 => .inl (K 3, 2, .inl ((fun _ => 0)))
  | 77 => .inl (K 2, 16, .inl ((fun _ => 0)))
  | 78 => .inl (K 2, 16, .inl ((fun _ => 0)))
  | 79 => .inl (K 2, 16, .inl ((fun _ => 0)))
  | 80 => .inl (K 2, 40, .inl ((fun _ => 0)))
  | 81 => .inl (K 2, 40, .inl ((fun _ => 0)))
  | 82 => .inl (K 2, 1536, .inl ((fun _ => 0)))
  | 83 => .inl (K 2, 192, .inl ((fun _ => 0)))
  | 84 => .inl (K 0, 16, .inl ((fun _ => 0)))
  | 85 => .inl (K 0, 2, .inl ((fun _ => 0)))
  | 86 => .inl (K 0, 2, .inl ((fun _ => 0)))
  | 87 => .inl (K 0, 2, .inl ((fun _ => 0)))
  | 88 => .inl (K 0, 2, .inl ((fun _ => 0)))
  | 89 => .inl (K 3, 2, .inl ((fun _ => 0)))
  | 90 => .inl (K 2, 96, .inl ((fun _ => 0)))
  | 91 => .inl (K 2, 96, .inl ((fun _ => 0)))
  | 92 => .inl (K 0, 2, .inl ((fun _ => 0)))
  | 93 => .inl (K 0, 2, .inl (gl [(-1), (-1)]))
  | 94 => .inl (K 0, 2, .inl ((fun _ => 0)))
  | 95 => .inl (K 2, 28, .inl ((fun _ => 0)))
  | 96 => .inl (K 2, 32, .inl ((fun _ => 0)))
  | 97 => .inl (K 2, 32, .inl ((fun _ => 0)))
  | 98 => .inl (K 2, 16, .inl ((fun _ => 0)))
  | 99 => .inl (K 2, 16, .inl ((fun _ => 0)))
  | 100 => .inl (K 0, 2, .inl ((fun _ => 0)))
  | 101 => .inl (K 0, 40, .inl ((fun _ => 0)))
  | 102 => .inl (K 0, 40, .inl ((fun _ => 0)))
  | 103 => .inl (K 0, 40, .inl ((fun _ => 0)))
  | 104 => .inl (K 0, 2, .inl ((fun _ => 23)))
  | 105 => .inl (K 0, 2, .inl ((fun _ => 23)))
  | 106 => .inl (K 0, 2, .inl ((fun _ => 0)))
  | 107 => .inl (K 2, 1600, .inl ((fun _ => 0)))
  | 108 => .inl (K 2, 768, .inl ((fun _ => 0)))
  | 109 => .inl (K 2, 800, .inl ((fun _ => 0)))
  | 110 => .inl (K 0, 12, .inl ((fun _ => 0)))
  | 111 => .inl (K 0, 12, .inl ((fun _ => 0)))
  | 112 => .inl (K 0, 12, .inl ((fun _ => 0)))
  | 113 => .inl (K 0, 20, .inl ((fun _ => 0)))
  | 114 => .inl (K 3, 2, .inl ((fun _ => 0)))
  | 116 => .inl (K 0, 2, .inl (gl [(-1), (-1)]))
  | 117 => .inl (K 0, 2, .inl ((fun _ => 0)))
  | 118 => .inl (K 0, 2, .inl ((fun _ => 0)))
  | 119 => .inl (K 0, 2, .inl ((fun _ => 0)))
  | 120 => .inl (K 0, 2, .inl ((fun _ => 0)))
  | 121 => .inl (K 0, 2, .inl ((fun _ => 0)))
  | 122 => .inl (K 2, 80, .inl ((fun _ => 0)))
  | _ => .inl (K 0, 0, .inl f)
def mrows : List Nat := [1, 3, 4, 5, 6, 7, 8, 9, 10, 11, 12, 13, 14, 15, 16, 17, 18, 19, 20, 21, 22, 23, 24, 25, 26, 27, 28, 29, 30, 31, 32, 33, 34, 35, 36, 37, 38, 39, 40, 41, 42, 44, 45, 46, 47, 48, 49, 50, 52, 53, 54, 55, 56, 57, 58, 59, 60, 61, 62, 63, 64, 65, 66, 67, 68, 69, 70, 71, 72, 73, 74, 75, 76, 77, 78, 79, 80, 81, 82, 83, 84, 85, 86, 87, 88, 89, 90, 91, 92, 93, 94, 95, 96, 97, 98, 99, 100, 101, 102, 103, 104, 105, 106, 107, 108, 109, 110, 111, 112, 113, 114, 116, 117, 118, 119, 120, 121, 122]
def mW (K : Nat → ClassId) (h : Nat) (q : Nat → Nat) (f : Nat → Int32) (fa sa : Int64) : va_W := (h, .inr (12, fsM q 0 0 0 0 0)) :: mrows.map (fun j => (q j, mrow K f fa sa j))
theorem arrV_cg {c : ClassId} {N : Nat} {f g : Nat → Value} (h : ∀ j : Nat, j < N → f j = g j) : arrV c N f = arrV c N g := by
  unfold arrV
  congr 1
  apply Array.ext
  · simp
  · intro i h1 h2
    simp at h1 h2
    simp [h i h1]
theorem gl23 (c : ClassId) : vp_cell c (2, .inl (gl [23, 23])) = vp_cell c (2, .inl (fun _ => 23)) := by
  show arrV c 2 (fun j => .int (gl [23, 23] j)) = arrV c 2 (fun j => .int ((fun _ : Nat => (23 : Int32)) j))
  apply arrV_cg
  intro j hj
  rcases (show j = 0 ∨ j = 1 by omega) with rfl | rfl <;> rfl
theorem find_q {q : Nat → Nat} : ∀ (l : List Nat), (l.map q).Nodup → ∀ j ∈ l, l.find? (fun i => q i == q j) = some j
  | [], _, _, h => nomatch h
  | x :: l, hn, j, hj => by
    rw [List.map_cons, List.nodup_cons] at hn
    by_cases e : x = j
    · subst e
      simp
    · have hj' : j ∈ l := (List.mem_cons.mp hj).resolve_left (fun h => e h.symm)
      have hne : q x ≠ q j := fun h => hn.1 (by rw [h]; exact List.mem_map.mpr ⟨j, hj', rfl⟩)
      rw [List.find?_cons_of_neg (by simpa using hne)]
      exact find_q l hn.2 j hj'
def mτ (h : Nat) (q : Nat → Nat) : Nat → Option Ty := fun a => if a = h then some (50, 0, 0) else (mrows.find? (fun j => q j == a)).map (fun j => (100 + j, 0, 0))
def mσ (K : Nat → ClassId) (h : Nat) (q : Nat → Nat) (f : Nat → Int32) (fa sa : Int64) : Nat → va_E := fun a => if a = h then .inr (12, fsM q 0 0 0 0 0) else match mrows.find? (fun j => q j == a) with
  | some j => mrow K f fa sa j
  | none => .inr (12, fsM q 0 0 0 0 0)
def mdom (h : Nat) (q : Nat → Nat) : List Nat := h :: mrows.map q
theorem tab_row {j : Nat} {t : Nat × Nat × Int × Int} (h : tabM[j]? = some t) (h9 : t.1 ≠ 9) : j ∈ mrows := by
  have k : ∀ j : Nat, j < 123 → (∀ t, tabM[j]? = some t → t.1 ≠ 9 → j ∈ mrows) := by
    intro j hj t ht h9
    have k2 : ∀ j : Nat, j < 123 → ((tabM[j]?).any (fun t => t.1 != 9)) = true → j ∈ mrows := by decide
    exact k2 j hj (by rw [ht]; simpa using h9)
  have hl : j < 123 := by
    have := (List.getElem?_eq_some_iff.mp h).1
    simpa [tabM] using this
  exact k j hl t h h9
theorem mσ_h {K : Nat → ClassId} {h : Nat} {q : Nat → Nat} {f : Nat → Int32} {fa sa : Int64} : mσ K h q f fa sa h = .inr (12, fsM q 0 0 0 0 0) := if_pos rfl
theorem mσ_q {K : Nat → ClassId} {h : Nat} {q : Nat → Nat} {f : Nat → Int32} {fa sa : Int64} (hn : (mdom h q).Nodup) {j : Nat} (hj : j ∈ mrows) : mσ K h q f fa sa (q j) = mrow K f fa sa j := by
  have h1 := List.nodup_cons.mp hn
  have hne : q j ≠ h := fun e => h1.1 (by rw [← e]; exact List.mem_map.mpr ⟨j, hj, rfl⟩)
  unfold mσ
  rw [if_neg hne, find_q mrows h1.2 j hj]
theorem mτ_q {h : Nat} {q : Nat → Nat} (hn : (mdom h q).Nodup) {j : Nat} (hj : j ∈ mrows) : mτ h q (q j) = some (100 + j, 0, 0) := by
  have h1 := List.nodup_cons.mp hn
  have hne : q j ≠ h := fun e => h1.1 (by rw [← e]; exact List.mem_map.mpr ⟨j, hj, rfl⟩)
  unfold mτ
  rw [if_neg hne, find_q mrows h1.2 j hj]
  rfl
theorem mSk {h : Nat} {q : Nat → Nat} (hn : (mdom h q).Nodup) : Sk (mτ h q) (mdom h q) := ⟨hn, fun a t ha => by
  by_cases e : a = h
  · rw [e]
    exact List.mem_cons_self
  · unfold mτ at ha
    rw [if_neg e] at ha
    cases hf : mrows.find? (fun j => q j == a) with
    | none => rw [hf] at ha; cases ha
    | some j =>
      have h1 := List.find?_some hf
      have h2 := List.mem_of_find?_eq_some hf
      have h3 : q j = a := by simpa using h1
      exact List.mem_cons_of_mem _ (List.mem_map.mpr ⟨j, h2, h3⟩)⟩
theorem mMS {h : Nat} {q : Nat → Nat} (hn : (mdom h q).Nodup) : MS (mτ h q) h q := ⟨if_pos rfl, fun j t ht h9 => mτ_q hn (tab_row ht h9)⟩
theorem mfd {K : Nat → ClassId} {h : Nat} {q : Nat → Nat} {f : Nat → Int32} {fa sa : Int64} (hn : (mdom h q).Nodup) : fd (mdom h q) (mσ K h q f fa sa) = mW K h q f fa sa := by
  show (h, mσ K h q f fa sa h) :: fd (mrows.map q) (mσ K h q f fa sa) = _
  rw [mσ_h]
  unfold mW fd
  congr 1
  rw [List.map_map]
  apply List.map_congr_left
  intro j hj
  show (q j, mσ K h q f fa sa (q j)) = _
  rw [mσ_q hn hj]
def AllIx {α : Type} (P : Nat → α → Prop) : Nat → List α → Prop
  | _, [] => True
  | n, x :: l => P n x ∧ AllIx P (n + 1) l
theorem all_ix {α : Type} {P : Nat → α → Prop} : ∀ (l : List α) (n : Nat), AllIx P n l → ∀ (j : Nat) (t : α), l[j]? = some t → P (n + j) t
  | [], _, _, j, t, h => by simp at h
  | x :: l, n, h, 0, t, ht => by
    simp at ht
    subst ht
    exact h.1
  | x :: l, n, h, j + 1, t, ht => by
    have := all_ix l (n + 1) h.2 j t (by simpa using ht)
    rwa [show n + 1 + j = n + (j + 1) by omega] at this
theorem el_gl {a b : Int32} {x y lo hi : Int} (ha : a = iI x) (hb : b = iI y) (rx : lo ≤ x ∧ x ≤ hi) (ry : lo ≤ y ∧ y ≤ hi) (r0 : lo ≤ 0 ∧ 0 ≤ hi) : ∀ i : Nat, ∃ z : Int, gl [a, b] i = iI z ∧ (lo ≤ z ∧ z ≤ hi)
  | 0 => ⟨x, ha, rx⟩
  | 1 => ⟨y, hb, ry⟩
  | i + 2 => ⟨0, rfl, r0⟩
theorem const_el {v : Int32} {x lo hi : Int} (hv : v = iI x) (r : lo ≤ x ∧ x ≤ hi) : ∀ i : Nat, ∃ z : Int, (fun _ : Nat => v) i = iI z ∧ (lo ≤ z ∧ z ≤ hi) := fun _ => ⟨x, hv, r⟩
set_option maxRecDepth 100000 in
theorem mall (K : Nat → ClassId) (f : Nat → Int32) (fa sa : Int64) (hf : ∀ i : Nat, ∃ z : Int, f i = iI z ∧ (0 ≤ z ∧ z ≤ 255)) : AllIx (fun j t => t.1 ≠ 9 → okAr K t (mrow K f fa sa j)) 0 tabM :=
  ⟨fun h => absurd rfl h,
   fun _ => (⟨_, rfl, const_el (x := 0) (by decide) (by decide)⟩ : okAr K (2, 100, -128, 127) (mrow K f fa sa 1)),
   fun h => absurd rfl h,
   fun _ => (⟨_, rfl, hf⟩ : okAr K (0, 256, 0, 255) (mrow K f fa sa 3)),
   fun _ => (⟨_, rfl, const_el (x := 0) (by decide) (by decide)⟩ : okAr K (2, 16, -128, 127) (mrow K f fa sa 4)),
   fun _ => (⟨_, rfl, const_el (x := 0) (by decide) (by decide)⟩ : okAr K (2, 16, -128, 127) (mrow K f fa sa 5)),
   fun _ => (⟨_, rfl, const_el (x := 0) (by decide) (by decide)⟩ : okAr K (2, 16, -128, 127) (mrow K f fa sa 6)),
   fun _ => (⟨_, rfl, const_el (x := 0) (by decide) (by decide)⟩ : okAr K (0, 2, 0, 5) (mrow K f fa sa 7)),
   fun _ => (⟨_, rfl, el_gl (x := 0) (y := 1) (by decide) (by decide) (by decide) (by decide) (by decide)⟩ : okAr K (0, 2, -2147483648, 2147483647) (mrow K f fa sa 8)),
   fun _ => (⟨_, rfl, const_el (x := 0) (by decide) (by decide)⟩ : okAr K (0, 2, -2147483648, 2147483647) (mrow K f fa sa 9)),
   fun _ => (⟨_, rfl, const_el (x := 0) (by decide) (by decide)⟩ : okAr K (0, 2, -2147483648, 2147483647) (mrow K f fa sa 10)),
   fun _ => (⟨_, rfl, const_el (x := 0) (by decide) (by decide)⟩ : okAr K (0, 2, 0, 20) (mrow K f fa sa 11)),
   fun _ => (⟨_, rfl⟩ : okAr K (1, 2, 0, 0) (mrow K f fa sa 12)),
   fun _ => (⟨_, rfl⟩ : okAr K (1, 2, 0, 0) (mrow K f fa sa 13)),
   fun _ => (⟨_, rfl⟩ : okAr K (1, 2, 0, 0) (mrow K f fa sa 14)),
   fun _ => (⟨_, rfl⟩ : okAr K (1, 2, 0, 0) (mrow K f fa sa 15)),
   fun _ => (⟨_, rfl⟩ : okAr K (1, 2, 0, 0) (mrow K f fa sa 16)),
   fun _ => (⟨_, rfl⟩ : okAr K (1, 2, 0, 0) (mrow K f fa sa 17)),
   fun _ => (⟨_, rfl⟩ : okAr K (1, 2, 0, 0) (mrow K f fa sa 18)),
   fun _ => (⟨_, rfl, const_el (x := 0) (by decide) (by decide)⟩ : okAr K (2, 40, -128, 127) (mrow K f fa sa 19)),
   fun _ => (⟨_, rfl, const_el (x := 0) (by decide) (by decide)⟩ : okAr K (2, 64, -128, 127) (mrow K f fa sa 20)),
   fun _ => (⟨_, rfl, const_el (x := 0) (by decide) (by decide)⟩ : okAr K (0, 2, -2147483648, 2147483647) (mrow K f fa sa 21)),
   fun _ => (⟨_, rfl, const_el (x := 0) (by decide) (by decide)⟩ : okAr K (0, 2, 0, 31) (mrow K f fa sa 22)),
   fun _ => (⟨_, rfl, const_el (x := 0) (by decide) (by decide)⟩ : okAr K (0, 2, -2147483648, 2147483647) (mrow K f fa sa 23)),
   fun _ => (⟨_, rfl, const_el (x := 0) (by decide) (by decide)⟩ : okAr K (0, 2, 0, 64) (mrow K f fa sa 24)),
   fun _ => (⟨_, rfl, const_el (x := 0) (by decide) (by decide)⟩ : okAr K (0, 128, 0, 319) (mrow K f fa sa 25)),
   fun _ => (⟨_, rfl, const_el (x := 0) (by decide) (by decide)⟩ : okAr K (0, 2, -2147483648, 2147483647) (mrow K f fa sa 26)),
   fun _ => (⟨_, rfl, const_el (x := 0) (by decide) (by decide)⟩ : okAr K (0, 2, 0, 16) (mrow K f fa sa 27)),
   fun _ => (⟨_, rfl, const_el (x := 0) (by decide) (by decide)⟩ : okAr K (0, 2, -2147483648, 2147483647) (mrow K f fa sa 28)),
   fun _ => (⟨_, rfl, const_el (x := 0) (by decide) (by decide)⟩ : okAr K (0, 2, -2147483648, 2147483647) (mrow K f fa sa 29)),
   fun _ => (⟨_, rfl, const_el (x := 0) (by decide) (by decide)⟩ : okAr K (0, 2, 0, 36) (mrow K f fa sa 30)),
   fun _ => (⟨_, rfl, el_gl (x := (-1)) (y := (-1)) (by decide) (by decide) (by decide) (by decide) (by decide)⟩ : okAr K (0, 2, -2147483648, 2147483647) (mrow K f fa sa 31)),
   fun _ => (⟨_, rfl, const_el (x := 0) (by decide) (by decide)⟩ : okAr K (0, 2, -2147483648, 2147483647) (mrow K f fa sa 32)),
   fun _ => (⟨_, rfl, const_el (x := 0) (by decide) (by decide)⟩ : okAr K (0, 2, -2147483648, 2147483647) (mrow K f fa sa 33)),
   fun _ => (⟨_, rfl, const_el (x := 0) (by decide) (by decide)⟩ : okAr K (0, 2, -2147483648, 2147483647) (mrow K f fa sa 34)),
   fun _ => (⟨_, rfl, const_el (x := 0) (by decide) (by decide)⟩ : okAr K (0, 2, -2147483648, 2147483647) (mrow K f fa sa 35)),
   fun _ => (⟨_, rfl, el_gl (x := (-1)) (y := (-1)) (by decide) (by decide) (by decide) (by decide) (by decide)⟩ : okAr K (0, 2, -2147483648, 2147483647) (mrow K f fa sa 36)),
   fun _ => (⟨_, rfl, el_gl (x := (-1)) (y := (-1)) (by decide) (by decide) (by decide) (by decide) (by decide)⟩ : okAr K (0, 2, -2147483648, 2147483647) (mrow K f fa sa 37)),
   fun _ => (⟨_, rfl, const_el (x := 0) (by decide) (by decide)⟩ : okAr K (0, 2, -2147483648, 2147483647) (mrow K f fa sa 38)),
   fun _ => (⟨_, rfl, const_el (x := 0) (by decide) (by decide)⟩ : okAr K (2, 8, -128, 127) (mrow K f fa sa 39)),
   fun _ => (⟨_, rfl, const_el (x := 0) (by decide) (by decide)⟩ : okAr K (3, 2, 0, 1) (mrow K f fa sa 40)),
   fun _ => (⟨_, rfl, const_el (x := 0) (by decide) (by decide)⟩ : okAr K (3, 2, 0, 1) (mrow K f fa sa 41)),
   fun _ => (⟨_, rfl, const_el (x := 0) (by decide) (by decide)⟩ : okAr K (3, 2, 0, 1) (mrow K f fa sa 42)),
   fun h => absurd rfl h,
   fun _ => (⟨_, rfl, fun _ => ⟨0, rfl, by decide, fun _ => by decide⟩⟩ : okAr K (4, 2880, 0, 0) (mrow K f fa sa 44)),
   fun _ => (⟨_, rfl, const_el (x := 0) (by decide) (by decide)⟩ : okAr K (0, 2, 0, 32) (mrow K f fa sa 45)),
   fun _ => (⟨_, rfl, const_el (x := 0) (by decide) (by decide)⟩ : okAr K (0, 2, -2147483648, 2147483647) (mrow K f fa sa 46)),
   fun _ => (⟨_, rfl, const_el (x := 0) (by decide) (by decide)⟩ : okAr K (2, 640, -128, 127) (mrow K f fa sa 47)),
   fun _ => (⟨_, rfl, const_el (x := 0) (by decide) (by decide)⟩ : okAr K (0, 16, 0, 40) (mrow K f fa sa 48)),
   fun _ => (⟨_, rfl, const_el (x := 0) (by decide) (by decide)⟩ : okAr K (0, 16, -2147483648, 2147483647) (mrow K f fa sa 49)),
   fun _ => (⟨_, rfl, const_el (x := 0) (by decide) (by decide)⟩ : okAr K (3, 16, 0, 1) (mrow K f fa sa 50)),
   fun h => absurd rfl h,
   fun _ => (⟨_, rfl, const_el (x := 0) (by decide) (by decide)⟩ : okAr K (2, 40, -128, 127) (mrow K f fa sa 52)),
   fun _ => (⟨_, rfl, const_el (x := 0) (by decide) (by decide)⟩ : okAr K (2, 40, -128, 127) (mrow K f fa sa 53)),
   fun _ => (⟨_, rfl, const_el (x := 0) (by decide) (by decide)⟩ : okAr K (0, 2, -2147483648, 2147483647) (mrow K f fa sa 54)),
   fun _ => (⟨_, rfl, const_el (x := 0) (by decide) (by decide)⟩ : okAr K (0, 2, 0, 31) (mrow K f fa sa 55)),
   fun _ => (⟨_, rfl, const_el (x := 0) (by decide) (by decide)⟩ : okAr K (0, 2, -2147483648, 2147483647) (mrow K f fa sa 56)),
   fun _ => (⟨_, rfl, const_el (x := 0) (by decide) (by decide)⟩ : okAr K (0, 2, 0, 6) (mrow K f fa sa 57)),
   fun _ => (⟨_, rfl, const_el (x := 0) (by decide) (by decide)⟩ : okAr K (0, 2, -2147483648, 2147483647) (mrow K f fa sa 58)),
   fun _ => (⟨_, rfl, const_el (x := 0) (by decide) (by decide)⟩ : okAr K (0, 2, -2147483648, 2147483647) (mrow K f fa sa 59)),
   fun _ => (⟨_, rfl, const_el (x := 0) (by decide) (by decide)⟩ : okAr K (2, 80, -128, 127) (mrow K f fa sa 60)),
   fun _ => (⟨_, rfl, const_el (x := 0) (by decide) (by decide)⟩ : okAr K (2, 192, -128, 127) (mrow K f fa sa 61)),
   fun _ => (⟨_, rfl, const_el (x := 0) (by decide) (by decide)⟩ : okAr K (2, 32, -128, 127) (mrow K f fa sa 62)),
   fun _ => (⟨_, rfl, const_el (x := 0) (by decide) (by decide)⟩ : okAr K (2, 32, -128, 127) (mrow K f fa sa 63)),
   fun _ => (⟨_, rfl, const_el (x := 0) (by decide) (by decide)⟩ : okAr K (2, 16, -128, 127) (mrow K f fa sa 64)),
   fun _ => (⟨_, rfl, const_el (x := 0) (by decide) (by decide)⟩ : okAr K (2, 16, -128, 127) (mrow K f fa sa 65)),
   fun _ => (⟨_, rfl, const_el (x := 0) (by decide) (by decide)⟩ : okAr K (2, 8, -128, 127) (mrow K f fa sa 66)),
   fun _ => (⟨_, rfl, const_el (x := 0) (by decide) (by decide)⟩ : okAr K (0, 12, 0, 16) (mrow K f fa sa 67)),
   fun _ => (⟨_, rfl, const_el (x := 0) (by decide) (by decide)⟩ : okAr K (3, 2, 0, 1) (mrow K f fa sa 68)),
   fun _ => (⟨_, rfl, const_el (x := 0) (by decide) (by decide)⟩ : okAr K (3, 2, 0, 1) (mrow K f fa sa 69)),
   fun _ => (⟨_, rfl, const_el (x := 0) (by decide) (by decide)⟩ : okAr K (3, 2, 0, 1) (mrow K f fa sa 70)),
   fun _ => (⟨_, rfl, const_el (x := 0) (by decide) (by decide)⟩ : okAr K (3, 2, 0, 1) (mrow K f fa sa 71)),
   fun _ => (⟨_, rfl, const_el (x := 0) (by decide) (by decide)⟩ : okAr K (3, 2, 0, 1) (mrow K f fa sa 72)),
   fun _ => (⟨_, rfl, const_el (x := 0) (by decide) (by decide)⟩ : okAr K (3, 2, 0, 1) (mrow K f fa sa 73)),
   fun _ => (⟨_, rfl, const_el (x := 0) (by decide) (by decide)⟩ : okAr K (3, 2, 0, 1) (mrow K f fa sa 74)),
   fun _ => (⟨_, rfl, const_el (x := 0) (by decide) (by decide)⟩ : okAr K (3, 2, 0, 1) (mrow K f fa sa 75)),
   fun _ => (⟨_, rfl, const_el (x := 0) (by decide) (by decide)⟩ : okAr K (3, 2, 0, 1) (mrow K f fa sa 76)),
   fun _ => (⟨_, rfl, const_el (x := 0) (by decide) (by decide)⟩ : okAr K (2, 16, -128, 127) (mrow K f fa sa 77)),
   fun _ => (⟨_, rfl, const_el (x := 0) (by decide) (by decide)⟩ : okAr K (2, 16, -128, 127) (mrow K f fa sa 78)),
   fun _ => (⟨_, rfl, const_el (x := 0) (by decide) (by decide)⟩ : okAr K (2, 16, -128, 127) (mrow K f fa sa 79)),
   fun _ => (⟨_, rfl, const_el (x := 0) (by decide) (by decide)⟩ : okAr K (2, 40, -128, 127) (mrow K f fa sa 80)),
   fun _ => (⟨_, rfl, const_el (x := 0) (by decide) (by decide)⟩ : okAr K (2, 40, -128, 127) (mrow K f fa sa 81)),
   fun _ => (⟨_, rfl, const_el (x := 0) (by decide) (by decide)⟩ : okAr K (2, 1536, -128, 127) (mrow K f fa sa 82)),
   fun _ => (⟨_, rfl, const_el (x := 0) (by decide) (by decide)⟩ : okAr K (2, 192, -128, 127) (mrow K f fa sa 83)),
   fun _ => (⟨_, rfl, const_el (x := 0) (by decide) (by decide)⟩ : okAr K (0, 16, 0, 96) (mrow K f fa sa 84)),
   fun _ => (⟨_, rfl, const_el (x := 0) (by decide) (by decide)⟩ : okAr K (0, 2, 0, 8) (mrow K f fa sa 85)),
   fun _ => (⟨_, rfl, const_el (x := 0) (by decide) (by decide)⟩ : okAr K (0, 2, 0, 96) (mrow K f fa sa 86)),
   fun _ => (⟨_, rfl, const_el (x := 0) (by decide) (by decide)⟩ : okAr K (0, 2, 0, 96) (mrow K f fa sa 87)),
   fun _ => (⟨_, rfl, const_el (x := 0) (by decide) (by decide)⟩ : okAr K (0, 2, 0, 96) (mrow K f fa sa 88)),
   fun _ => (⟨_, rfl, const_el (x := 0) (by decide) (by decide)⟩ : okAr K (3, 2, 0, 1) (mrow K f fa sa 89)),
   fun _ => (⟨_, rfl, const_el (x := 0) (by decide) (by decide)⟩ : okAr K (2, 96, -128, 127) (mrow K f fa sa 90)),
   fun _ => (⟨_, rfl, const_el (x := 0) (by decide) (by decide)⟩ : okAr K (2, 96, -128, 127) (mrow K f fa sa 91)),
   fun _ => (⟨_, rfl, const_el (x := 0) (by decide) (by decide)⟩ : okAr K (0, 2, -2147483648, 2147483647) (mrow K f fa sa 92)),
   fun _ => (⟨_, rfl, el_gl (x := (-1)) (y := (-1)) (by decide) (by decide) (by decide) (by decide) (by decide)⟩ : okAr K (0, 2, -2147483648, 2147483647) (mrow K f fa sa 93)),
   fun _ => (⟨_, rfl, const_el (x := 0) (by decide) (by decide)⟩ : okAr K (0, 2, -2147483648, 2147483647) (mrow K f fa sa 94)),
   fun _ => (⟨_, rfl, const_el (x := 0) (by decide) (by decide)⟩ : okAr K (2, 28, -128, 127) (mrow K f fa sa 95)),
   fun _ => (⟨_, rfl, const_el (x := 0) (by decide) (by decide)⟩ : okAr K (2, 32, -128, 127) (mrow K f fa sa 96)),
   fun _ => (⟨_, rfl, const_el (x := 0) (by decide) (by decide)⟩ : okAr K (2, 32, -128, 127) (mrow K f fa sa 97)),
   fun _ => (⟨_, rfl, const_el (x := 0) (by decide) (by decide)⟩ : okAr K (2, 16, -128, 127) (mrow K f fa sa 98)),
   fun _ => (⟨_, rfl, const_el (x := 0) (by decide) (by decide)⟩ : okAr K (2, 16, -128, 127) (mrow K f fa sa 99)),
   fun _ => (⟨_, rfl, const_el (x := 0) (by decide) (by decide)⟩ : okAr K (0, 2, 0, 20) (mrow K f fa sa 100)),
   fun _ => (⟨_, rfl, const_el (x := 0) (by decide) (by decide)⟩ : okAr K (0, 40, -2147483648, 2147483647) (mrow K f fa sa 101)),
   fun _ => (⟨_, rfl, const_el (x := 0) (by decide) (by decide)⟩ : okAr K (0, 40, -2147483648, 2147483647) (mrow K f fa sa 102)),
   fun _ => (⟨_, rfl, const_el (x := 0) (by decide) (by decide)⟩ : okAr K (0, 40, 0, 40) (mrow K f fa sa 103)),
   fun _ => (⟨_, rfl, const_el (x := 23) (by decide) (by decide)⟩ : okAr K (0, 2, 23, 64) (mrow K f fa sa 104)),
   fun _ => (⟨_, rfl, const_el (x := 23) (by decide) (by decide)⟩ : okAr K (0, 2, 23, 64) (mrow K f fa sa 105)),
   fun _ => (⟨_, rfl, const_el (x := 0) (by decide) (by decide)⟩ : okAr K (0, 2, 0, 6) (mrow K f fa sa 106)),
   fun _ => (⟨_, rfl, const_el (x := 0) (by decide) (by decide)⟩ : okAr K (2, 1600, -128, 127) (mrow K f fa sa 107)),
   fun _ => (⟨_, rfl, const_el (x := 0) (by decide) (by decide)⟩ : okAr K (2, 768, -128, 127) (mrow K f fa sa 108)),
   fun _ => (⟨_, rfl, const_el (x := 0) (by decide) (by decide)⟩ : okAr K (2, 800, -128, 127) (mrow K f fa sa 109)),
   fun _ => (⟨_, rfl, const_el (x := 0) (by decide) (by decide)⟩ : okAr K (0, 12, 0, 20) (mrow K f fa sa 110)),
   fun _ => (⟨_, rfl, const_el (x := 0) (by decide) (by decide)⟩ : okAr K (0, 12, 0, 65535) (mrow K f fa sa 111)),
   fun _ => (⟨_, rfl, const_el (x := 0) (by decide) (by decide)⟩ : okAr K (0, 12, 0, 64) (mrow K f fa sa 112)),
   fun _ => (⟨_, rfl, const_el (x := 0) (by decide) (by decide)⟩ : okAr K (0, 20, 0, 40) (mrow K f fa sa 113)),
   fun _ => (⟨_, rfl, const_el (x := 0) (by decide) (by decide)⟩ : okAr K (3, 2, 0, 1) (mrow K f fa sa 114)),
   fun h => absurd rfl h,
   fun _ => (⟨_, rfl, el_gl (x := (-1)) (y := (-1)) (by decide) (by decide) (by decide) (by decide) (by decide)⟩ : okAr K (0, 2, -2147483648, 2147483647) (mrow K f fa sa 116)),
   fun _ => (⟨_, rfl, const_el (x := 0) (by decide) (by decide)⟩ : okAr K (0, 2, -2147483648, 2147483647) (mrow K f fa sa 117)),
   fun _ => (⟨_, rfl, const_el (x := 0) (by decide) (by decide)⟩ : okAr K (0, 2, -2147483648, 2147483647) (mrow K f fa sa 118)),
   fun _ => (⟨_, rfl, const_el (x := 0) (by decide) (by decide)⟩ : okAr K (0, 2, -2147483648, 2147483647) (mrow K f fa sa 119)),
   fun _ => (⟨_, rfl, const_el (x := 0) (by decide) (by decide)⟩ : okAr K (0, 2, 0, 40) (mrow K f fa sa 120)),
   fun _ => (⟨_, rfl, const_el (x := 0) (by decide) (by decide)⟩ : okAr K (0, 2, 0, 40) (mrow K f fa sa 121)),
   fun _ => (⟨_, rfl, const_el (x := 0) (by decide) (by decide)⟩ : okAr K (2, 80, -128, 127) (mrow K f fa sa 122)), trivial⟩
theorem mGT {K : Nat → ClassId} {h : Nat} {q : Nat → Nat} {f : Nat → Int32} {fa sa : Int64} (hn : (mdom h q).Nodup) (hf : ∀ i : Nat, ∃ z : Int, f i = iI z ∧ (0 ≤ z ∧ z ≤ 255)) : GT K h q (mσ K h q f fa sa) := by
  refine ⟨⟨0, 0, 0, 0, 0, mσ_h, by decide, by decide, by decide, by decide, by decide⟩, fun j t ht h9 => ?_⟩
  rw [mσ_q hn (tab_row ht h9)]
  have := all_ix tabM 0 (mall K f fa sa hf) j t ht h9
  rwa [Nat.zero_add] at this
theorem z0 {x : Int} (e : (0 : Int32) = iI x) (r : InR x) : x = 0 := ((iI_eq (a := 0) (by decide) r).mp e).symm
theorem mGM {K : Nat → ClassId} {h : Nat} {q : Nat → Nat} {f : Nat → Int32} {fa sa : Int64} (hn : (mdom h q).Nodup) (hf : ∀ i : Nat, ∃ z : Int, f i = iI z ∧ (0 ≤ z ∧ z ≤ 255)) : GM K h q (mσ K h q f fa sa) := by
  refine ⟨mGT hn hf, ?_, ?_, ?_, ?_⟩
  · refine RelA.mk (mσ_q hn (j := 85) (by decide)) (mσ_q hn (j := 86) (by decide)) (mσ_q hn (j := 84) (by decide)) ?_
    intro d hd x y z e1 e2 e3 r1 r2 r3
    have a2 := z0 e2 r2
    have a3 := z0 e3 r3
    omega
  · refine RelB.mk (mσ_q hn (j := 106) (by decide)) (mσ_q hn (j := 110) (by decide)) ?_
    intro d hd x e1 r1 k hk
    have a1 := z0 e1 r1
    omega
  · refine RelC.mk (mσ_q hn (j := 7) (by decide)) (mσ_q hn (j := 15) (by decide)) ?_
    intro d hd x e1 r1 hx
    have a1 := z0 e1 r1
    omega
  · refine RelD.mk (mσ_q hn (j := 41) (by decide)) (mσ_q hn (j := 16) (by decide)) ?_
    intro d hd x e1 r1 hx
    have a1 := z0 e1 r1
    omega
def mW0 (K : Nat → ClassId) (h : Nat) (q : Nat → Nat) (f : Nat → Int32) (fa sa : Int64) : va_W := [(h, .inr (12, fsM q 0 0 0 0 0)), ((q 1), .inl (K 2, 100, .inl (fun _ => 0))), ((q 3), .inl (K 0, 256, .inl f)), ((q 4), .inl (K 2, 16, .inl (fun _ => 0))), ((q 5), .inl (K 2, 16, .inl (fun _ => 0))), ((q 6), .inl (K 2, 16, .inl (fun _ => 0))), ((q 7), .inl (K 0, 2, .inl (gl [0, 0]))), ((q 8), .inl (K 0, 2, .inl (gl [0, 1]))), ((q 9), .inl (K 0, 2, .inl (gl [0, 0]))), ((q 10), .inl (K 0, 2, .inl (gl [0, 0]))), ((q 11), .inl (K 0, 2, .inl (gl [0, 0]))), ((q 12), .inl (K 1, 2, .inr (.inl (glL [(fa &&& 281474976710655), (sa &&& 281474976710655)])))), ((q 13), .inl (K 1, 2, .inr (.inl (glL [0, 0])))), ((q 14), .inl (K 1, 2, .inr (.inl (glL [0, 0])))), ((q 15), .inl (K 1, 2, .inr (.inl (glL [0, 0])))), ((q 16), .inl (K 1, 2, .inr (.inl (glL [0, 0])))), ((q 17), .inl (K 1, 2, .inr (.inl (glL [0, 0])))), ((q 18), .inl (K 1, 2, .inr (.inl (glL [0, 0])))), ((q 19), .inl (K 2, 40, .inl (fun _ => 0))), ((q 20), .inl (K 2, 64, .inl (fun _ => 0))), ((q 21), .inl (K 0, 2, .inl (gl [0, 0]))), ((q 22), .inl (K 0, 2, .inl (gl [0, 0]))), ((q 23), .inl (K 0, 2, .inl (gl [0, 0]))), ((q 24), .inl (K 0, 2, .inl (gl [0, 0]))), ((q 25), .inl (K 0, 128, .inl (fun _ => 0))), ((q 26), .inl (K 0, 2, .inl (gl [0, 0]))), ((q 27), .inl (K 0, 2, .inl (gl [0, 0]))), ((q 28), .inl (K 0, 2, .inl (gl [0, 0]))), ((q 29), .inl (K 0, 2, .inl (gl [0, 0]))), ((q 30), .inl (K 0, 2, .inl (gl [0, 0]))), ((q 31), .inl (K 0, 2, .inl (gl [(-1), (-1)]))), ((q 32), .inl (K 0, 2, .inl (gl [0, 0]))), ((q 33), .inl (K 0, 2, .inl (gl [0, 0]))), ((q 34), .inl (K 0, 2, .inl (gl [0, 0]))), ((q 35), .inl (K 0, 2, .inl (gl [0, 0]))), ((q 36), .inl (K 0, 2, .inl (gl [(-1), (-1)]))), ((q 37), .inl (K 0, 2, .inl (gl [(-1), (-1)]))), ((q 38), .inl (K 0, 2, .inl (gl [0, 0]))), ((q 39), .inl (K 2, 8, .inl (fun _ => 0))), ((q 40), .inl (K 3, 2, .inl (gl [0, 0]))), ((q 41), .inl (K 3, 2, .inl (gl [0, 0]))), ((q 42), .inl (K 3, 2, .inl (gl [0, 0]))), ((q 44), .inl (K 0, 2880, .inl (fun _ => 0))), ((q 45), .inl (K 0, 2, .inl (gl [0, 0]))), ((q 46), .inl (K 0, 2, .inl (gl [0, 0]))), ((q 47), .inl (K 2, 640, .inl (fun _ => 0))), ((q 48), .inl (K 0, 16, .inl (fun _ => 0))), ((q 49), .inl (K 0, 16, .inl (fun _ => 0))), ((q 50), .inl (K 3, 16, .inl (fun _ => 0))), ((q 52), .inl (K 2, 40, .inl (fun _ => 0))), ((q 53), .inl (K 2, 40, .inl (fun _ => 0))), ((q 54), .inl (K 0, 2, .inl (gl [0, 0]))), ((q 55), .inl (K 0, 2, .inl (gl [0, 0]))), ((q 56), .inl (K 0, 2, .inl (gl [0, 0]))), ((q 57), .inl (K 0, 2, .inl (gl [0, 0]))), ((q 58), .inl (K 0, 2, .inl (gl [0, 0]))), ((q 59), .inl (K 0, 2, .inl (gl [0, 0]))), ((q 60), .inl (K 2, 80, .inl (fun _ => 0))), ((q 61), .inl (K 2, 192, .inl (fun _ => 0))), ((q 62), .inl (K 2, 32, .inl (fun _ => 0))), ((q 63), .inl (K 2, 32, .inl (fun _ => 0))), ((q 64), .inl (K 2, 16, .inl (fun _ => 0))), ((q 65), .inl (K 2, 16, .inl (fun _ => 0))), ((q 66), .inl (K 2, 8, .inl (fun _ => 0))), ((q 67), .inl (K 0, 12, .inl (fun _ => 0))), ((q 68), .inl (K 3, 2, .inl (gl [0, 0]))), ((q 69), .inl (K 3, 2, .inl (gl [0, 0]))), ((q 70), .inl (K 3, 2, .inl (gl [0, 0]))), ((q 71), .inl (K 3, 2, .inl (gl [0, 0]))), ((q 72), .inl (K 3, 2, .inl (gl [0, 0]))), ((q 73), .inl (K 3, 2, .inl (gl [0, 0]))), ((q 74), .inl (K 3, 2, .inl (gl [0, 0]))), ((q 75), .inl (K 3, 2, .inl (gl [0, 0]))), ((q 76), .inl (K 3, 2, .inl (gl [0, 0]))), ((q 77), .inl (K 2, 16, .inl (fun _ => 0))), ((q 78), .inl (K 2, 16, .inl (fun _ => 0))), ((q 79), .inl (K 2, 16, .inl (fun _ => 0))), ((q 80), .inl (K 2, 40, .inl (fun _ => 0))), ((q 81), .inl (K 2, 40, .inl (fun _ => 0))), ((q 82), .inl (K 2, 1536, .inl (fun _ => 0))), ((q 83), .inl (K 2, 192, .inl (fun _ => 0))), ((q 84), .inl (K 0, 16, .inl (fun _ => 0))), ((q 85), .inl (K 0, 2, .inl (gl [0, 0]))), ((q 86), .inl (K 0, 2, .inl (gl [0, 0]))), ((q 87), .inl (K 0, 2, .inl (gl [0, 0]))), ((q 88), .inl (K 0, 2, .inl (gl [0, 0]))), ((q 89), .inl (K 3, 2, .inl (gl [0, 0]))), ((q 90), .inl (K 2, 96, .inl (fun _ => 0))), ((q 91), .inl (K 2, 96, .inl (fun _ => 0))), ((q 92), .inl (K 0, 2, .inl (gl [0, 0]))), ((q 93), .inl (K 0, 2, .inl (gl [(-1), (-1)]))), ((q 94), .inl (K 0, 2, .inl (gl [0, 0]))), ((q 95), .inl (K 2, 28, .inl (fun _ => 0))), ((q 96), .inl (K 2, 32, .inl (fun _ => 0))), ((q 97), .inl (K 2, 32, .inl (fun _ => 0))), ((q 98), .inl (K 2, 16, .inl (fun _ => 0))), ((q 99), .inl (K 2, 16, .inl (fun _ => 0))), ((q 100), .inl (K 0, 2, .inl (gl [0, 0]))), ((q 101), .inl (K 0, 40, .inl (fun _ => 0))), ((q 102), .inl (K 0, 40, .inl (fun _ => 0))), ((q 103), .inl (K 0, 40, .inl (fun _ => 0))), ((q 104), .inl (K 0, 2, .inl (gl [23, 23]))), ((q 105), .inl (K 0, 2, .inl (gl [23, 23]))), ((q 106), .inl (K 0, 2, .inl (gl [0, 0]))), ((q 107), .inl (K 2, 1600, .inl (fun _ => 0))), ((q 108), .inl (K 2, 768, .inl (fun _ => 0))), ((q 109), .inl (K 2, 800, .inl (fun _ => 0))), ((q 110), .inl (K 0, 12, .inl (fun _ => 0))), ((q 111), .inl (K 0, 12, .inl (fun _ => 0))), ((q 112), .inl (K 0, 12, .inl (fun _ => 0))), ((q 113), .inl (K 0, 20, .inl (fun _ => 0))), ((q 114), .inl (K 3, 2, .inl (gl [0, 0]))), ((q 116), .inl (K 0, 2, .inl (gl [(-1), (-1)]))), ((q 117), .inl (K 0, 2, .inl (gl [0, 0]))), ((q 118), .inl (K 0, 2, .inl (gl [0, 0]))), ((q 119), .inl (K 0, 2, .inl (gl [0, 0]))), ((q 120), .inl (K 0, 2, .inl (gl [0, 0]))), ((q 121), .inl (K 0, 2, .inl (gl [0, 0]))), ((q 122), .inl (K 2, 80, .inl (fun _ => 0)))]
theorem mW0_fst {K : Nat → ClassId} {h : Nat} {q : Nat → Nat} {f : Nat → Int32} {fa sa : Int64} : (mW0 K h q f fa sa).map Prod.fst = mdom h q := rfl
theorem mW_fst {K : Nat → ClassId} {h : Nat} {q : Nat → Nat} {f : Nat → Int32} {fa sa : Int64} : (mW K h q f fa sa).map Prod.fst = mdom h q := rfl
theorem at_cons {D : va_G} {cl : List vw_C} {x y : Nat × va_E} {w w' : va_W} {H : Heap} (h1 : va_at D cl x H → va_at D cl y H) (h2 : va_P D cl w H → va_P D cl w' H) (hP : va_P D cl (x :: w) H) : va_P D cl (y :: w') H := fun k p hk => by
  cases k with
  | zero =>
    cases Option.some.inj (show some y = some p from hk)
    exact h1 (hP 0 x rfl)
  | succ k => exact h2 (fun i r hi => hP (i + 1) r hi) k p hk
set_option maxRecDepth 100000 in
theorem mW0_P {D : va_G} {cl : List vw_C} {K : Nat → ClassId} {h : Nat} {q : Nat → Nat} {f : Nat → Int32} {fa sa : Int64} {H : Heap} : va_P D cl (mW0 K h q f fa sa) H → va_P D cl (mW K h q f fa sa) H := by
  refine at_cons id ?_
  refine at_cons id ?_
  refine at_cons id ?_
  refine at_cons id ?_
  refine at_cons id ?_
  refine at_cons id ?_
  refine at_cons (fun h => (show _ = _ from (h : _ = _).trans (congrArg some (congrArg (vp_cell (K 0)) (show ((2 : Nat), (Sum.inl (gl [0, 0]) : _)) = (2, Sum.inl (fun _ => 0)) from by rw [← gl_z2]))))) ?_
  refine at_cons id ?_
  refine at_cons (fun h => (show _ = _ from (h : _ = _).trans (congrArg some (congrArg (vp_cell (K 0)) (show ((2 : Nat), (Sum.inl (gl [0, 0]) : _)) = (2, Sum.inl (fun _ => 0)) from by rw [← gl_z2]))))) ?_
  refine at_cons (fun h => (show _ = _ from (h : _ = _).trans (congrArg some (congrArg (vp_cell (K 0)) (show ((2 : Nat), (Sum.inl (gl [0, 0]) : _)) = (2, Sum.inl (fun _ => 0)) from by rw [← gl_z2]))))) ?_
  refine at_cons (fun h => (show _ = _ from (h : _ = _).trans (congrArg some (congrArg (vp_cell (K 0)) (show ((2 : Nat), (Sum.inl (gl [0, 0]) : _)) = (2, Sum.inl (fun _ => 0)) from by rw [← gl_z2]))))) ?_
  refine at_cons id ?_
  refine at_cons (fun h => (show _ = _ from (h : _ = _).trans (congrArg some (congrArg (vp_cell (K 1)) (show ((2 : Nat), (Sum.inr (Sum.inl (glL [0, 0])) : _)) = (2, Sum.inr (Sum.inl (fun _ => 0))) from by rw [← glL_z2]))))) ?_
  refine at_cons (fun h => (show _ = _ from (h : _ = _).trans (congrArg some (congrArg (vp_cell (K 1)) (show ((2 : Nat), (Sum.inr (Sum.inl (glL [0, 0])) : _)) = (2, Sum.inr (Sum.inl (fun _ => 0))) from by rw [← glL_z2]))))) ?_
  refine at_cons (fun h => (show _ = _ from (h : _ = _).trans (congrArg some (congrArg (vp_cell (K 1)) (show ((2 : Nat), (Sum.inr (Sum.inl (glL [0, 0])) : _)) = (2, Sum.inr (Sum.inl (fun _ => 0))) from by rw [← glL_z2]))))) ?_
  refine at_cons (fun h => (show _ = _ from (h : _ = _).trans (congrArg some (congrArg (vp_cell (K 1)) (show ((2 : Nat), (Sum.inr (Sum.inl (glL [0, 0])) : _)) = (2, Sum.inr (Sum.inl (fun _ => 0))) from by rw [← glL_z2]))))) ?_
  refine at_cons (fun h => (show _ = _ from (h : _ = _).trans (congrArg some (congrArg (vp_cell (K 1)) (show ((2 : Nat), (Sum.inr (Sum.inl (glL [0, 0])) : _)) = (2, Sum.inr (Sum.inl (fun _ => 0))) from by rw [← glL_z2]))))) ?_
  refine at_cons (fun h => (show _ = _ from (h : _ = _).trans (congrArg some (congrArg (vp_cell (K 1)) (show ((2 : Nat), (Sum.inr (Sum.inl (glL [0, 0])) : _)) = (2, Sum.inr (Sum.inl (fun _ => 0))) from by rw [← glL_z2]))))) ?_
  refine at_cons id ?_
  refine at_cons id ?_
  refine at_cons (fun h => (show _ = _ from (h : _ = _).trans (congrArg some (congrArg (vp_cell (K 0)) (show ((2 : Nat), (Sum.inl (gl [0, 0]) : _)) = (2, Sum.inl (fun _ => 0)) from by rw [← gl_z2]))))) ?_
  refine at_cons (fun h => (show _ = _ from (h : _ = _).trans (congrArg some (congrArg (vp_cell (K 0)) (show ((2 : Nat), (Sum.inl (gl [0, 0]) : _)) = (2, Sum.inl (fun _ => 0)) from by rw [← gl_z2]))))) ?_
  refine at_cons (fun h => (show _ = _ from (h : _ = _).trans (congrArg some (congrArg (vp_cell (K 0)) (show ((2 : Nat), (Sum.inl (gl [0, 0]) : _)) = (2, Sum.inl (fun _ => 0)) from by rw [← gl_z2]))))) ?_
  refine at_cons (fun h => (show _ = _ from (h : _ = _).trans (congrArg some (congrArg (vp_cell (K 0)) (show ((2 : Nat), (Sum.inl (gl [0, 0]) : _)) = (2, Sum.inl (fun _ => 0)) from by rw [← gl_z2]))))) ?_
  refine at_cons id ?_
  refine at_cons (fun h => (show _ = _ from (h : _ = _).trans (congrArg some (congrArg (vp_cell (K 0)) (show ((2 : Nat), (Sum.inl (gl [0, 0]) : _)) = (2, Sum.inl (fun _ => 0)) from by rw [← gl_z2]))))) ?_
  refine at_cons (fun h => (show _ = _ from (h : _ = _).trans (congrArg some (congrArg (vp_cell (K 0)) (show ((2 : Nat), (Sum.inl (gl [0, 0]) : _)) = (2, Sum.inl (fun _ => 0)) from by rw [← gl_z2]))))) ?_
  refine at_cons (fun h => (show _ = _ from (h : _ = _).trans (congrArg some (congrArg (vp_cell (K 0)) (show ((2 : Nat), (Sum.inl (gl [0, 0]) : _)) = (2, Sum.inl (fun _ => 0)) from by rw [← gl_z2]))))) ?_
  refine at_cons (fun h => (show _ = _ from (h : _ = _).trans (congrArg some (congrArg (vp_cell (K 0)) (show ((2 : Nat), (Sum.inl (gl [0, 0]) : _)) = (2, Sum.inl (fun _ => 0)) from by rw [← gl_z2]))))) ?_
  refine at_cons (fun h => (show _ = _ from (h : _ = _).trans (congrArg some (congrArg (vp_cell (K 0)) (show ((2 : Nat), (Sum.inl (gl [0, 0]) : _)) = (2, Sum.inl (fun _ => 0)) from by rw [← gl_z2]))))) ?_
  refine at_cons id ?_
  refine at_cons (fun h => (show _ = _ from (h : _ = _).trans (congrArg some (congrArg (vp_cell (K 0)) (show ((2 : Nat), (Sum.inl (gl [0, 0]) : _)) = (2, Sum.inl (fun _ => 0)) from by rw [← gl_z2]))))) ?_
  refine at_cons (fun h => (show _ = _ from (h : _ = _).trans (congrArg some (congrArg (vp_cell (K 0)) (show ((2 : Nat), (Sum.inl (gl [0, 0]) : _)) = (2, Sum.inl (fun _ => 0)) from by rw [← gl_z2]))))) ?_
  refine at_cons (fun h => (show _ = _ from (h : _ = _).trans (congrArg some (congrArg (vp_cell (K 0)) (show ((2 : Nat), (Sum.inl (gl [0, 0]) : _)) = (2, Sum.inl (fun _ => 0)) from by rw [← gl_z2]))))) ?_
  refine at_cons (fun h => (show _ = _ from (h : _ = _).trans (congrArg some (congrArg (vp_cell (K 0)) (show ((2 : Nat), (Sum.inl (gl [0, 0]) : _)) = (2, Sum.inl (fun _ => 0)) from by rw [← gl_z2]))))) ?_
  refine at_cons id ?_
  refine at_cons id ?_
  refine at_cons (fun h => (show _ = _ from (h : _ = _).trans (congrArg some (congrArg (vp_cell (K 0)) (show ((2 : Nat), (Sum.inl (gl [0, 0]) : _)) = (2, Sum.inl (fun _ => 0)) from by rw [← gl_z2]))))) ?_
  refine at_cons id ?_
  refine at_cons (fun h => (show _ = _ from (h : _ = _).trans (congrArg some (congrArg (vp_cell (K 3)) (show ((2 : Nat), (Sum.inl (gl [0, 0]) : _)) = (2, Sum.inl (fun _ => 0)) from by rw [← gl_z2]))))) ?_
  refine at_cons (fun h => (show _ = _ from (h : _ = _).trans (congrArg some (congrArg (vp_cell (K 3)) (show ((2 : Nat), (Sum.inl (gl [0, 0]) : _)) = (2, Sum.inl (fun _ => 0)) from by rw [← gl_z2]))))) ?_
  refine at_cons (fun h => (show _ = _ from (h : _ = _).trans (congrArg some (congrArg (vp_cell (K 3)) (show ((2 : Nat), (Sum.inl (gl [0, 0]) : _)) = (2, Sum.inl (fun _ => 0)) from by rw [← gl_z2]))))) ?_
  refine at_cons id ?_
  refine at_cons (fun h => (show _ = _ from (h : _ = _).trans (congrArg some (congrArg (vp_cell (K 0)) (show ((2 : Nat), (Sum.inl (gl [0, 0]) : _)) = (2, Sum.inl (fun _ => 0)) from by rw [← gl_z2]))))) ?_
  refine at_cons (fun h => (show _ = _ from (h : _ = _).trans (congrArg some (congrArg (vp_cell (K 0)) (show ((2 : Nat), (Sum.inl (gl [0, 0]) : _)) = (2, Sum.inl (fun _ => 0)) from by rw [← gl_z2]))))) ?_
  refine at_cons id ?_
  refine at_cons id ?_
  refine at_cons id ?_
  refine at_cons id ?_
  refine at_cons id ?_
  refine at_cons id ?_
  refine at_cons (fun h => (show _ = _ from (h : _ = _).trans (congrArg some (congrArg (vp_cell (K 0)) (show ((2 : Nat), (Sum.inl (gl [0, 0]) : _)) = (2, Sum.inl (fun _ => 0)) from by rw [← gl_z2]))))) ?_
  refine at_cons (fun h => (show _ = _ from (h : _ = _).trans (congrArg some (congrArg (vp_cell (K 0)) (show ((2 : Nat), (Sum.inl (gl [0, 0]) : _)) = (2, Sum.inl (fun _ => 0)) from by rw [← gl_z2]))))) ?_
  refine at_cons (fun h => (show _ = _ from (h : _ = _).trans (congrArg some (congrArg (vp_cell (K 0)) (show ((2 : Nat), (Sum.inl (gl [0, 0]) : _)) = (2, Sum.inl (fun _ => 0)) from by rw [← gl_z2]))))) ?_
  refine at_cons (fun h => (show _ = _ from (h : _ = _).trans (congrArg some (congrArg (vp_cell (K 0)) (show ((2 : Nat), (Sum.inl (gl [0, 0]) : _)) = (2, Sum.inl (fun _ => 0)) from by rw [← gl_z2]))))) ?_
  refine at_cons (fun h => (show _ = _ from (h : _ = _).trans (congrArg some (congrArg (vp_cell (K 0)) (show ((2 : Nat), (Sum.inl (gl [0, 0]) : _)) = (2, Sum.inl (fun _ => 0)) from by rw [← gl_z2]))))) ?_
  refine at_cons (fun h => (show _ = _ from (h : _ = _).trans (congrArg some (congrArg (vp_cell (K 0)) (show ((2 : Nat), (Sum.inl (gl [0, 0]) : _)) = (2, Sum.inl (fun _ => 0)) from by rw [← gl_z2]))))) ?_
  refine at_cons id ?_
  refine at_cons id ?_
  refine at_cons id ?_
  refine at_cons id ?_
  refine at_cons id ?_
  refine at_cons id ?_
  refine at_cons id ?_
  refine at_cons id ?_
  refine at_cons (fun h => (show _ = _ from (h : _ = _).trans (congrArg some (congrArg (vp_cell (K 3)) (show ((2 : Nat), (Sum.inl (gl [0, 0]) : _)) = (2, Sum.inl (fun _ => 0)) from by rw [← gl_z2]))))) ?_
  refine at_cons (fun h => (show _ = _ from (h : _ = _).trans (congrArg some (congrArg (vp_cell (K 3)) (show ((2 : Nat), (Sum.inl (gl [0, 0]) : _)) = (2, Sum.inl (fun _ => 0)) from by rw [← gl_z2]))))) ?_
  refine at_cons (fun h => (show _ = _ from (h : _ = _).trans (congrArg some (congrArg (vp_cell (K 3)) (show ((2 : Nat), (Sum.inl (gl [0, 0]) : _)) = (2, Sum.inl (fun _ => 0)) from by rw [← gl_z2]))))) ?_
  refine at_cons (fun h => (show _ = _ from (h : _ = _).trans (congrArg some (congrArg (vp_cell (K 3)) (show ((2 : Nat), (Sum.inl (gl [0, 0]) : _)) = (2, Sum.inl (fun _ => 0)) from by rw [← gl_z2]))))) ?_
  refine at_cons (fun h => (show _ = _ from (h : _ = _).trans (congrArg some (congrArg (vp_cell (K 3)) (show ((2 : Nat), (Sum.inl (gl [0, 0]) : _)) = (2, Sum.inl (fun _ => 0)) from by rw [← gl_z2]))))) ?_
  refine at_cons (fun h => (show _ = _ from (h : _ = _).trans (congrArg some (congrArg (vp_cell (K 3)) (show ((2 : Nat), (Sum.inl (gl [0, 0]) : _)) = (2, Sum.inl (fun _ => 0)) from by rw [← gl_z2]))))) ?_
  refine at_cons (fun h => (show _ = _ from (h : _ = _).trans (congrArg some (congrArg (vp_cell (K 3)) (show ((2 : Nat), (Sum.inl (gl [0, 0]) : _)) = (2, Sum.inl (fun _ => 0)) from by rw [← gl_z2]))))) ?_
  refine at_cons (fun h => (show _ = _ from (h : _ = _).trans (congrArg some (congrArg (vp_cell (K 3)) (show ((2 : Nat), (Sum.inl (gl [0, 0]) : _)) = (2, Sum.inl (fun _ => 0)) from by rw [← gl_z2]))))) ?_
  refine at_cons (fun h => (show _ = _ from (h : _ = _).trans (congrArg some (congrArg (vp_cell (K 3)) (show ((2 : Nat), (Sum.inl (gl [0, 0]) : _)) = (2, Sum.inl (fun _ => 0)) from by rw [← gl_z2]))))) ?_
  refine at_cons id ?_
  refine at_cons id ?_
  refine at_cons id ?_
  refine at_cons id ?_
  refine at_cons id ?_
  refine at_cons id ?_
  refine at_cons id ?_
  refine at_cons id ?_
  refine at_cons (fun h => (show _ = _ from (h : _ = _).trans (congrArg some (congrArg (vp_cell (K 0)) (show ((2 : Nat), (Sum.inl (gl [0, 0]) : _)) = (2, Sum.inl (fun _ => 0)) from by rw [← gl_z2]))))) ?_
  refine at_cons (fun h => (show _ = _ from (h : _ = _).trans (congrArg some (congrArg (vp_cell (K 0)) (show ((2 : Nat), (Sum.inl (gl [0, 0]) : _)) = (2, Sum.inl (fun _ => 0)) from by rw [← gl_z2]))))) ?_
  refine at_cons (fun h => (show _ = _ from (h : _ = _).trans (congrArg some (congrArg (vp_cell (K 0)) (show ((2 : Nat), (Sum.inl (gl [0, 0]) : _)) = (2, Sum.inl (fun _ => 0)) from by rw [← gl_z2]))))) ?_
  refine at_cons (fun h => (show _ = _ from (h : _ = _).trans (congrArg some (congrArg (vp_cell (K 0)) (show ((2 : Nat), (Sum.inl (gl [0, 0]) : _)) = (2, Sum.inl (fun _ => 0)) from by rw [← gl_z2]))))) ?_
  refine at_cons (fun h => (show _ = _ from (h : _ = _).trans (congrArg some (congrArg (vp_cell (K 3)) (show ((2 : Nat), (Sum.inl (gl [0, 0]) : _)) = (2, Sum.inl (fun _ => 0)) from by rw [← gl_z2]))))) ?_
  refine at_cons id ?_
  refine at_cons id ?_
  refine at_cons (fun h => (show _ = _ from (h : _ = _).trans (congrArg some (congrArg (vp_cell (K 0)) (show ((2 : Nat), (Sum.inl (gl [0, 0]) : _)) = (2, Sum.inl (fun _ => 0)) from by rw [← gl_z2]))))) ?_
  refine at_cons id ?_
  refine at_cons (fun h => (show _ = _ from (h : _ = _).trans (congrArg some (congrArg (vp_cell (K 0)) (show ((2 : Nat), (Sum.inl (gl [0, 0]) : _)) = (2, Sum.inl (fun _ => 0)) from by rw [← gl_z2]))))) ?_
  refine at_cons id ?_
  refine at_cons id ?_
  refine at_cons id ?_
  refine at_cons id ?_
  refine at_cons id ?_
  refine at_cons (fun h => (show _ = _ from (h : _ = _).trans (congrArg some (congrArg (vp_cell (K 0)) (show ((2 : Nat), (Sum.inl (gl [0, 0]) : _)) = (2, Sum.inl (fun _ => 0)) from by rw [← gl_z2]))))) ?_
  refine at_cons id ?_
  refine at_cons id ?_
  refine at_cons id ?_
  refine at_cons (fun h => (show _ = _ from (h : _ = _).trans (congrArg some (gl23 (K 0))))) ?_
  refine at_cons (fun h => (show _ = _ from (h : _ = _).trans (congrArg some (gl23 (K 0))))) ?_
  refine at_cons (fun h => (show _ = _ from (h : _ = _).trans (congrArg some (congrArg (vp_cell (K 0)) (show ((2 : Nat), (Sum.inl (gl [0, 0]) : _)) = (2, Sum.inl (fun _ => 0)) from by rw [← gl_z2]))))) ?_
  refine at_cons id ?_
  refine at_cons id ?_
  refine at_cons id ?_
  refine at_cons id ?_
  refine at_cons id ?_
  refine at_cons id ?_
  refine at_cons id ?_
  refine at_cons (fun h => (show _ = _ from (h : _ = _).trans (congrArg some (congrArg (vp_cell (K 3)) (show ((2 : Nat), (Sum.inl (gl [0, 0]) : _)) = (2, Sum.inl (fun _ => 0)) from by rw [← gl_z2]))))) ?_
  refine at_cons id ?_
  refine at_cons (fun h => (show _ = _ from (h : _ = _).trans (congrArg some (congrArg (vp_cell (K 0)) (show ((2 : Nat), (Sum.inl (gl [0, 0]) : _)) = (2, Sum.inl (fun _ => 0)) from by rw [← gl_z2]))))) ?_
  refine at_cons (fun h => (show _ = _ from (h : _ = _).trans (congrArg some (congrArg (vp_cell (K 0)) (show ((2 : Nat), (Sum.inl (gl [0, 0]) : _)) = (2, Sum.inl (fun _ => 0)) from by rw [← gl_z2]))))) ?_
  refine at_cons (fun h => (show _ = _ from (h : _ = _).trans (congrArg some (congrArg (vp_cell (K 0)) (show ((2 : Nat), (Sum.inl (gl [0, 0]) : _)) = (2, Sum.inl (fun _ => 0)) from by rw [← gl_z2]))))) ?_
  refine at_cons (fun h => (show _ = _ from (h : _ = _).trans (congrArg some (congrArg (vp_cell (K 0)) (show ((2 : Nat), (Sum.inl (gl [0, 0]) : _)) = (2, Sum.inl (fun _ => 0)) from by rw [← gl_z2]))))) ?_
  refine at_cons (fun h => (show _ = _ from (h : _ = _).trans (congrArg some (congrArg (vp_cell (K 0)) (show ((2 : Nat), (Sum.inl (gl [0, 0]) : _)) = (2, Sum.inl (fun _ => 0)) from by rw [← gl_z2]))))) ?_
  refine at_cons id ?_
  exact id
theorem mW0_D {A : Nat → Prop} {K : Nat → ClassId} {h : Nat} {q : Nat → Nat} {f : Nat → Int32} {fa sa : Int64} (hD : va_D A (mW0 K h q f fa sa)) : va_D A (mW K h q f fa sa) := by
  refine nd_dD (by rw [mW_fst, ← mW0_fst (K := K) (f := f) (fa := fa) (sa := sa)]; exact dD_nd hD) (fun x hx => ?_)
  have h1 : x.1 ∈ (mW0 K h q f fa sa).map Prod.fst := by
    rw [mW0_fst, ← mW_fst (K := K) (f := f) (fa := fa) (sa := sa)]
    exact List.mem_map.mpr ⟨x, hx, rfl⟩
  obtain ⟨y, hy, e⟩ := List.mem_map.mp h1
  obtain ⟨i, hi⟩ := List.getElem?_of_mem hy
  rw [← e]
  exact hD.2 i y hi
section VN
variable {p : Program} {l : Launch} {e : Env} {R : Room} {s : State} {m : MethodId} {args : Array Value} {below : List Frame} {meth : Method} {c : Code} {cc : ByteArray} {nL : Nat} {own : String} {Ts : List Cond} {D : va_G} {tys : List (ClassId × FieldType)} {A : Nat → Prop} {Q : State → Prop} {cs : Nat × Nat} {w : va_W} {lv : List (Nat × Value)} {pc : Nat} {st : List Value}
/-- a fresh reference beside another world: its cells become a good world -/
theorem v_mgood {K : Nat → ClassId} {wx : va_W} {h : Nat} {q : Nat → Nat} {f : Nat → Int32} {fa sa : Int64} (hf : ∀ i : Nat, ∃ z : Int, f i = iI z ∧ (0 ≤ z ∧ z ≤ 255)) (kk : ∀ (τ : Nat → Option Ty) (dom : List Nat) (σ : Nat → va_E), Sk τ dom → MS τ h q → GM K h q σ → V p l e R s m args below meth c nL D A Q cs (wx ++ fd dom σ) lv pc st) : V p l e R s m args below meth c nL D A Q cs (wx ++ mW0 K h q f fa sa) lv pc st := fun H locs ls hP hD hS hl => by
  have hPx : va_P D vwCl wx H := fun k p hk => hP k p (by rw [List.getElem?_append_left (List.getElem?_eq_some_iff.mp hk).1]; exact hk)
  have hPm : va_P D vwCl (mW0 K h q f fa sa) H := fun k p hk => hP (wx.length + k) p (by rw [List.getElem?_append_right (by omega), show wx.length + k - wx.length = k by omega]; exact hk)
  have hn := dD_nd hD
  rw [List.map_append] at hn
  have hn2 := List.nodup_append.mp hn
  have hnm : (mdom h q).Nodup := by
    have := hn2.2.1
    rwa [mW0_fst] at this
  refine kk (mτ h q) (mdom h q) (mσ K h q f fa sa) (mSk hnm) (mMS hnm) (mGM hnm hf) H locs ls ?_ ?_ hS hl
  · rw [mfd hnm]
    intro k p hk
    by_cases hlt : k < wx.length
    · rw [List.getElem?_append_left hlt] at hk
      exact hPx k p hk
    · rw [List.getElem?_append_right (by omega)] at hk
      exact mW0_P hPm _ p hk
  · rw [mfd hnm]
    refine nd_dD (by rw [List.map_append, mW_fst, ← mW0_fst (K := K) (f := f) (fa := fa) (sa := sa)]; exact hn) (fun x hx => ?_)
    have h1 : x.1 ∈ (wx ++ mW0 K h q f fa sa).map Prod.fst := by
      rw [List.map_append, mW0_fst, ← mW_fst (K := K) (f := f) (fa := fa) (sa := sa), ← List.map_append]
      exact List.mem_map.mpr ⟨x, hx, rfl⟩
    obtain ⟨y, hy, e⟩ := List.mem_map.mp h1
    obtain ⟨i, hi⟩ := List.getElem?_of_mem hy
    rw [← e]
    exact hD.2 i y hi
end VN
