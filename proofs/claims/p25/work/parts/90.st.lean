def tSB : Term := Term.static "LowEnergy$Cipher" "SBOX" "[I"
def tFA : Term := Term.static "LowEnergyModel" "FIRST_ACCESS" "[B"
def sbl : List Int := [99, 124, 119, 123, 242, 107, 111, 197, 48, 1, 103, 43, 254, 215, 171, 118, 202, 130, 201, 125, 250, 89, 71, 240, 173, 212, 162, 175, 156, 164, 114, 192, 183, 253, 147, 38, 54, 63, 247, 204, 52, 165, 229, 241, 113, 216, 49, 21, 4, 199, 35, 195, 24, 150, 5, 154, 7, 18, 128, 226, 235, 39, 178, 117, 9, 131, 44, 26, 27, 110, 90, 160, 82, 59, 214, 179, 41, 227, 47, 132, 83, 209, 0, 237, 32, 252, 177, 91, 106, 203, 190, 57, 74, 76, 88, 207, 208, 239, 170, 251, 67, 77, 51, 133, 69, 249, 2, 127, 80, 60, 159, 168, 81, 163, 64, 143, 146, 157, 56, 245, 188, 182, 218, 33, 16, 255, 243, 210, 205, 12, 19, 236, 95, 151, 68, 23, 196, 167, 126, 61, 100, 93, 25, 115, 96, 129, 79, 220, 34, 42, 144, 136, 70, 238, 184, 20, 222, 94, 11, 219, 224, 50, 58, 10, 73, 6, 36, 92, 194, 211, 172, 98, 145, 149, 228, 121, 231, 200, 55, 109, 141, 213, 78, 169, 108, 86, 244, 234, 101, 122, 174, 8, 186, 120, 37, 46, 28, 166, 180, 198, 232, 221, 116, 31, 75, 189, 139, 138, 112, 62, 181, 102, 72, 3, 246, 14, 97, 53, 87, 185, 134, 193, 29, 158, 225, 248, 152, 17, 105, 217, 142, 148, 155, 30, 135, 233, 206, 85, 40, 223, 140, 161, 137, 13, 191, 230, 66, 104, 65, 153, 45, 15, 176, 84, 187, 22]
def sbv (j : Nat) : Int := sbl.getD j 0
def fal : List Int := [-42, -66, -119, -114]
def fav (j : Nat) : Int := fal.getD j 0
theorem sb_rng : ∀ j : Nat, 0 ≤ sbv j ∧ sbv j ≤ 255 := fun j => by
  by_cases h : j < 256
  · have k : ∀ j : Nat, j < 256 → 0 ≤ sbv j ∧ sbv j ≤ 255 := by decide +kernel
    exact k j h
  · have e : sbv j = 0 := by
      unfold sbv
      show (sbl[j]?).getD 0 = 0
      rw [List.getElem?_eq_none (show sbl.length ≤ j from (by rw [show sbl.length = 256 by decide +kernel]; omega))]
      rfl
    rw [e]
    decide
theorem fa_rng : ∀ j : Nat, -128 ≤ fav j ∧ fav j ≤ 127 := fun j => by
  by_cases h : j < 4
  · have k : ∀ j : Nat, j < 4 → -128 ≤ fav j ∧ fav j ≤ 127 := by decide +kernel
    exact k j h
  · have e : fav j = 0 := by
      unfold fav
      show (fal[j]?).getD 0 = 0
      rw [List.getElem?_eq_none (show fal.length ≤ j from (by rw [show fal.length = 4 by decide +kernel]; omega))]
      rfl
    rw [e]
    decide
set_option maxRecDepth 100000 in
theorem sb_seg : ((flatC (Jvm.Cond.and given_1 narrow_1)).drop 9).take 256 = (List.range 256).map (fun j : Nat => Cond.eq (.elem tSB (.int (Int32.ofNat j))) (.int (iI (sbv j)))) := by decide +kernel
theorem sb_mem : ∀ j : Nat, j < 256 → Cond.eq (.elem tSB (.int (Int32.ofNat j))) (.int (iI (sbv j))) ∈ flatC (Jvm.Cond.and given_1 narrow_1) := fun j hj => List.mem_of_mem_drop (List.mem_of_mem_take (by rw [sb_seg]; exact List.mem_map.mpr ⟨j, List.mem_range.mpr hj, rfl⟩))
set_option maxRecDepth 100000 in
theorem fa_seg : ((flatC (Jvm.Cond.and given_1 narrow_1)).drop 268).take 4 = (List.range 4).map (fun j : Nat => Cond.eq (.elem tFA (.int (Int32.ofNat j))) (.int (iI (fav j)))) := by decide +kernel
theorem fa_mem : ∀ j : Nat, j < 4 → Cond.eq (.elem tFA (.int (Int32.ofNat j))) (.int (iI (fav j))) ∈ flatC (Jvm.Cond.and given_1 narrow_1) := fun j hj => List.mem_of_mem_drop (List.mem_of_mem_take (by rw [fa_seg]; exact List.mem_map.mpr ⟨j, List.mem_range.mpr hj, rfl⟩))
