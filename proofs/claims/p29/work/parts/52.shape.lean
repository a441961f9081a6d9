def shK : List (Nat × Nat) := [(99, 0), (11, 0), (1, 0), (8, 0), (21, 2000), (20, 400), (20, 400), (20, 400), (6, 0), (20, 32), (20, 16), (3, 0), (20, 32), (20, 64), (20, 64), (20, 16), (6, 0), (20, 32), (20, 16), (5, 0), (24, 40), (6, 0), (20, 32), (20, 16), (6, 0), (20, 32), (20, 16), (6, 0), (20, 32), (20, 16), (6, 0), (20, 32), (20, 16), (6, 0), (20, 32), (20, 16), (6, 0), (20, 32), (20, 16), (6, 0), (20, 32), (20, 16), (6, 0), (20, 32), (20, 16), (6, 0), (20, 32), (20, 16), (6, 0), (20, 32), (20, 16), (6, 0), (20, 32), (20, 16), (6, 0), (20, 32), (20, 16), (6, 0), (20, 32), (20, 16), (6, 0), (20, 32), (20, 16), (6, 0), (20, 32), (20, 16), (6, 0), (20, 32), (20, 16), (6, 0), (20, 32), (20, 16), (6, 0), (20, 32), (20, 16), (6, 0), (20, 32), (20, 16), (6, 0), (20, 32), (20, 16), (6, 0), (20, 32), (20, 16), (6, 0), (20, 32), (20, 16), (6, 0), (20, 32), (20, 16), (6, 0), (20, 32), (20, 16), (6, 0), (20, 32), (20, 16), (6, 0), (20, 32), (20, 16), (6, 0), (20, 32), (20, 16), (6, 0), (20, 32), (20, 16), (6, 0), (20, 32), (20, 16), (6, 0), (20, 32), (20, 16), (6, 0), (20, 32), (20, 16), (6, 0), (20, 32), (20, 16), (6, 0), (20, 32), (20, 16), (6, 0), (20, 32), (20, 16), (6, 0), (20, 32), (20, 16), (6, 0), (20, 32), (20, 16), (6, 0), (20, 32), (20, 16), (6, 0), (20, 32), (20, 16), (6, 0), (20, 32), (20, 16), (6, 0), (20, 32), (20, 16), (25, 3), (7, 0), (6, 0), (20, 32), (20, 16), (20, 289), (7, 0), (6, 0), (20, 32), (20, 16), (20, 289), (7, 0), (6, 0), (20, 32), (20, 16), (20, 289), (2, 0), (20, 4), (20, 4), (20, 1), (2, 0), (20, 4), (20, 4), (20, 1), (4, 0), (20, 289), (20, 289), (20, 4913), (20, 289), (0, 0), (20, 33), (20, 32), (20, 16), (9, 0), (20, 1024), (20, 289), (20, 1024), (20, 1024), (23, 1024), (10, 0), (23, 577), (20, 256), (12, 0), (21, 2000), (21, 2000), (20, 403), (20, 403), (20, 403), (23, 403), (23, 11), (20, 66), (20, 66), (20, 2640), (20, 198), (22, 3), (20, 65536), (20, 301), (20, 301), (20, 66), (20, 301), (23, 601), (20, 1024), (22, 1024), (20, 1024), (23, 1024), (20, 256)]
def shR : List (List Nat) := [[], [3, 2, 11, 16, 19, 141, 157, 161, 165, 170, 174, 180, 181, 182], [3, 8], [4, 5, 6, 7], [], [], [], [], [9, 10], [], [], [12, 13, 14, 15], [], [], [], [], [17, 18], [], [], [20], [21, 24, 27, 30, 33, 36, 39, 42, 45, 48, 51, 54, 57, 60, 63, 66, 69, 72, 75, 78, 81, 84, 87, 90, 93, 96, 99, 102, 105, 108, 111, 114, 117, 120, 123, 126, 129, 132, 135, 138], [22, 23], [], [], [25, 26], [], [], [28, 29], [], [], [31, 32], [], [], [34, 35], [], [], [37, 38], [], [], [40, 41], [], [], [43, 44], [], [], [46, 47], [], [], [49, 50], [], [], [52, 53], [], [], [55, 56], [], [], [58, 59], [], [], [61, 62], [], [], [64, 65], [], [], [67, 68], [], [], [70, 71], [], [], [73, 74], [], [], [76, 77], [], [], [79, 80], [], [], [82, 83], [], [], [85, 86], [], [], [88, 89], [], [], [91, 92], [], [], [94, 95], [], [], [97, 98], [], [], [100, 101], [], [], [103, 104], [], [], [106, 107], [], [], [109, 110], [], [], [112, 113], [], [], [115, 116], [], [], [118, 119], [], [], [121, 122], [], [], [124, 125], [], [], [127, 128], [], [], [130, 131], [], [], [133, 134], [], [], [136, 137], [], [], [139, 140], [], [], [142, 147, 152], [143, 146], [144, 145], [], [], [], [148, 151], [149, 150], [], [], [], [153, 156], [154, 155], [], [], [], [158, 159], [], [], [], [162, 163], [], [], [], [166, 167, 168, 169], [], [], [], [], [171, 172, 173], [], [], [], [175, 176, 177, 178, 179], [], [], [], [], [], [], [], [], [0, 184, 0, 185, 0, 186, 187, 188, 189, 190, 0, 0, 0, 0, 0, 0, 0, 0, 0, 0, 0, 191, 0, 0, 0, 0, 192, 193, 0, 0, 194, 195, 0, 196, 197, 0, 198, 199, 200, 201, 202, 203, 204, 205, 206], [], [], [], [], [], [], [], [], [], [], [], [], [], [], [], [], [], [], [], [], [], [], []]
/-- the kinds and the references that never change; the rows of energies lie where they lie -/
def Shp (σ : XS) : Prop := 206 ≤ xn σ ∧ (∀ a, a < 207 → a ≠ 160 → a ≠ 164 → σ.1 a = shK.getD a (99, 0)) ∧ (∀ a, a < 207 → ∀ j, (shR.getD a []).getD j 0 ≠ 0 → xR σ a j = (shR.getD a []).getD j 0)
set_option maxRecDepth 100000 in
theorem hI0_n : xn hI0 = 206 := by decide +kernel
set_option maxRecDepth 100000 in
theorem hI0_z : xz hI0 = 98100 := by decide +kernel
set_option maxRecDepth 100000 in
theorem hI0_K : ∀ a, a < 207 → hI0.1 a = shK.getD a (99, 0) := by decide +kernel
set_option maxRecDepth 100000 in
theorem hI0_R0 : ∀ a, a < 207 → ∀ j, j < 45 → (shR.getD a []).getD j 0 ≠ 0 → xR hI0 a j = (shR.getD a []).getD j 0 := by decide +kernel
theorem shR_len : ∀ a, a < 207 → (shR.getD a []).length ≤ 45 := by decide +kernel
theorem hI0_Shp : Shp hI0 := by
  refine ⟨by rw [hI0_n]; exact Nat.le_refl _, fun a ha _ _ => hI0_K a ha, fun a ha j h0 => ?_⟩
  by_cases hj : j < 45
  · exact hI0_R0 a ha j hj h0
  · exfalso
    apply h0
    have := shR_len a ha
    rw [List.getD_eq_getElem?_getD, List.getElem?_eq_none (by omega)]
    rfl
theorem sT1 {σ : XS} (h : Shp σ) : xT σ 1 = 11 := by unfold xT; rw [h.2.1 1 (by decide) (by decide) (by decide)]; rfl
theorem sT2 {σ : XS} (h : Shp σ) : xT σ 2 = 1 := by unfold xT; rw [h.2.1 2 (by decide) (by decide) (by decide)]; rfl
theorem sT3 {σ : XS} (h : Shp σ) : xT σ 3 = 8 := by unfold xT; rw [h.2.1 3 (by decide) (by decide) (by decide)]; rfl
theorem sT4 {σ : XS} (h : Shp σ) : xT σ 4 = 21 := by unfold xT; rw [h.2.1 4 (by decide) (by decide) (by decide)]; rfl
theorem sl4 {σ : XS} (h : Shp σ) : xlen σ 4 = 2000 := by unfold xlen; rw [h.2.1 4 (by decide) (by decide) (by decide)]; rfl
theorem sT5 {σ : XS} (h : Shp σ) : xT σ 5 = 20 := by unfold xT; rw [h.2.1 5 (by decide) (by decide) (by decide)]; rfl
theorem sl5 {σ : XS} (h : Shp σ) : xlen σ 5 = 400 := by unfold xlen; rw [h.2.1 5 (by decide) (by decide) (by decide)]; rfl
theorem sT6 {σ : XS} (h : Shp σ) : xT σ 6 = 20 := by unfold xT; rw [h.2.1 6 (by decide) (by decide) (by decide)]; rfl
theorem sl6 {σ : XS} (h : Shp σ) : xlen σ 6 = 400 := by unfold xlen; rw [h.2.1 6 (by decide) (by decide) (by decide)]; rfl
theorem sT7 {σ : XS} (h : Shp σ) : xT σ 7 = 20 := by unfold xT; rw [h.2.1 7 (by decide) (by decide) (by decide)]; rfl
theorem sl7 {σ : XS} (h : Shp σ) : xlen σ 7 = 400 := by unfold xlen; rw [h.2.1 7 (by decide) (by decide) (by decide)]; rfl
theorem sT8 {σ : XS} (h : Shp σ) : xT σ 8 = 6 := by unfold xT; rw [h.2.1 8 (by decide) (by decide) (by decide)]; rfl
theorem sT9 {σ : XS} (h : Shp σ) : xT σ 9 = 20 := by unfold xT; rw [h.2.1 9 (by decide) (by decide) (by decide)]; rfl
theorem sl9 {σ : XS} (h : Shp σ) : xlen σ 9 = 32 := by unfold xlen; rw [h.2.1 9 (by decide) (by decide) (by decide)]; rfl
theorem sT10 {σ : XS} (h : Shp σ) : xT σ 10 = 20 := by unfold xT; rw [h.2.1 10 (by decide) (by decide) (by decide)]; rfl
theorem sl10 {σ : XS} (h : Shp σ) : xlen σ 10 = 16 := by unfold xlen; rw [h.2.1 10 (by decide) (by decide) (by decide)]; rfl
theorem sT11 {σ : XS} (h : Shp σ) : xT σ 11 = 3 := by unfold xT; rw [h.2.1 11 (by decide) (by decide) (by decide)]; rfl
theorem sT12 {σ : XS} (h : Shp σ) : xT σ 12 = 20 := by unfold xT; rw [h.2.1 12 (by decide) (by decide) (by decide)]; rfl
theorem sl12 {σ : XS} (h : Shp σ) : xlen σ 12 = 32 := by unfold xlen; rw [h.2.1 12 (by decide) (by decide) (by decide)]; rfl
theorem sT13 {σ : XS} (h : Shp σ) : xT σ 13 = 20 := by unfold xT; rw [h.2.1 13 (by decide) (by decide) (by decide)]; rfl
theorem sl13 {σ : XS} (h : Shp σ) : xlen σ 13 = 64 := by unfold xlen; rw [h.2.1 13 (by decide) (by decide) (by decide)]; rfl
theorem sT14 {σ : XS} (h : Shp σ) : xT σ 14 = 20 := by unfold xT; rw [h.2.1 14 (by decide) (by decide) (by decide)]; rfl
theorem sl14 {σ : XS} (h : Shp σ) : xlen σ 14 = 64 := by unfold xlen; rw [h.2.1 14 (by decide) (by decide) (by decide)]; rfl
theorem sT15 {σ : XS} (h : Shp σ) : xT σ 15 = 20 := by unfold xT; rw [h.2.1 15 (by decide) (by decide) (by decide)]; rfl
theorem sl15 {σ : XS} (h : Shp σ) : xlen σ 15 = 16 := by unfold xlen; rw [h.2.1 15 (by decide) (by decide) (by decide)]; rfl
theorem sT16 {σ : XS} (h : Shp σ) : xT σ 16 = 6 := by unfold xT; rw [h.2.1 16 (by decide) (by decide) (by decide)]; rfl
theorem sT17 {σ : XS} (h : Shp σ) : xT σ 17 = 20 := by unfold xT; rw [h.2.1 17 (by decide) (by decide) (by decide)]; rfl
theorem sl17 {σ : XS} (h : Shp σ) : xlen σ 17 = 32 := by unfold xlen; rw [h.2.1 17 (by decide) (by decide) (by decide)]; rfl
theorem sT18 {σ : XS} (h : Shp σ) : xT σ 18 = 20 := by unfold xT; rw [h.2.1 18 (by decide) (by decide) (by decide)]; rfl
theorem sl18 {σ : XS} (h : Shp σ) : xlen σ 18 = 16 := by unfold xlen; rw [h.2.1 18 (by decide) (by decide) (by decide)]; rfl
theorem sT19 {σ : XS} (h : Shp σ) : xT σ 19 = 5 := by unfold xT; rw [h.2.1 19 (by decide) (by decide) (by decide)]; rfl
theorem sT20 {σ : XS} (h : Shp σ) : xT σ 20 = 24 := by unfold xT; rw [h.2.1 20 (by decide) (by decide) (by decide)]; rfl
theorem sl20 {σ : XS} (h : Shp σ) : xlen σ 20 = 40 := by unfold xlen; rw [h.2.1 20 (by decide) (by decide) (by decide)]; rfl
theorem sT21 {σ : XS} (h : Shp σ) : xT σ 21 = 6 := by unfold xT; rw [h.2.1 21 (by decide) (by decide) (by decide)]; rfl
theorem sT22 {σ : XS} (h : Shp σ) : xT σ 22 = 20 := by unfold xT; rw [h.2.1 22 (by decide) (by decide) (by decide)]; rfl
theorem sl22 {σ : XS} (h : Shp σ) : xlen σ 22 = 32 := by unfold xlen; rw [h.2.1 22 (by decide) (by decide) (by decide)]; rfl
theorem sT23 {σ : XS} (h : Shp σ) : xT σ 23 = 20 := by unfold xT; rw [h.2.1 23 (by decide) (by decide) (by decide)]; rfl
theorem sl23 {σ : XS} (h : Shp σ) : xlen σ 23 = 16 := by unfold xlen; rw [h.2.1 23 (by decide) (by decide) (by decide)]; rfl
theorem sT24 {σ : XS} (h : Shp σ) : xT σ 24 = 6 := by unfold xT; rw [h.2.1 24 (by decide) (by decide) (by decide)]; rfl
theorem sT25 {σ : XS} (h : Shp σ) : xT σ 25 = 20 := by unfold xT; rw [h.2.1 25 (by decide) (by decide) (by decide)]; rfl
theorem sl25 {σ : XS} (h : Shp σ) : xlen σ 25 = 32 := by unfold xlen; rw [h.2.1 25 (by decide) (by decide) (by decide)]; rfl
theorem sT26 {σ : XS} (h : Shp σ) : xT σ 26 = 20 := by unfold xT; rw [h.2.1 26 (by decide) (by decide) (by decide)]; rfl
theorem sl26 {σ : XS} (h : Shp σ) : xlen σ 26 = 16 := by unfold xlen; rw [h.2.1 26 (by decide) (by decide) (by decide)]; rfl
theorem sT27 {σ : XS} (h : Shp σ) : xT σ 27 = 6 := by unfold xT; rw [h.2.1 27 (by decide) (by decide) (by decide)]; rfl
theorem sT28 {σ : XS} (h : Shp σ) : xT σ 28 = 20 := by unfold xT; rw [h.2.1 28 (by decide) (by decide) (by decide)]; rfl
theorem sl28 {σ : XS} (h : Shp σ) : xlen σ 28 = 32 := by unfold xlen; rw [h.2.1 28 (by decide) (by decide) (by decide)]; rfl
theorem sT29 {σ : XS} (h : Shp σ) : xT σ 29 = 20 := by unfold xT; rw [h.2.1 29 (by decide) (by decide) (by decide)]; rfl
theorem sl29 {σ : XS} (h : Shp σ) : xlen σ 29 = 16 := by unfold xlen; rw [h.2.1 29 (by decide) (by decide) (by decide)]; rfl
theorem sT30 {σ : XS} (h : Shp σ) : xT σ 30 = 6 := by unfold xT; rw [h.2.1 30 (by decide) (by decide) (by decide)]; rfl
theorem sT31 {σ : XS} (h : Shp σ) : xT σ 31 = 20 := by unfold xT; rw [h.2.1 31 (by decide) (by decide) (by decide)]; rfl
theorem sl31 {σ : XS} (h : Shp σ) : xlen σ 31 = 32 := by unfold xlen; rw [h.2.1 31 (by decide) (by decide) (by decide)]; rfl
theorem sT32 {σ : XS} (h : Shp σ) : xT σ 32 = 20 := by unfold xT; rw [h.2.1 32 (by decide) (by decide) (by decide)]; rfl
theorem sl32 {σ : XS} (h : Shp σ) : xlen σ 32 = 16 := by unfold xlen; rw [h.2.1 32 (by decide) (by decide) (by decide)]; rfl
theorem sT33 {σ : XS} (h : Shp σ) : xT σ 33 = 6 := by unfold xT; rw [h.2.1 33 (by decide) (by decide) (by decide)]; rfl
theorem sT34 {σ : XS} (h : Shp σ) : xT σ 34 = 20 := by unfold xT; rw [h.2.1 34 (by decide) (by decide) (by decide)]; rfl
theorem sl34 {σ : XS} (h : Shp σ) : xlen σ 34 = 32 := by unfold xlen; rw [h.2.1 34 (by decide) (by decide) (by decide)]; rfl
theorem sT35 {σ : XS} (h : Shp σ) : xT σ 35 = 20 := by unfold xT; rw [h.2.1 35 (by decide) (by decide) (by decide)]; rfl
theorem sl35 {σ : XS} (h : Shp σ) : xlen σ 35 = 16 := by unfold xlen; rw [h.2.1 35 (by decide) (by decide) (by decide)]; rfl
theorem sT36 {σ : XS} (h : Shp σ) : xT σ 36 = 6 := by unfold xT; rw [h.2.1 36 (by decide) (by decide) (by decide)]; rfl
theorem sT37 {σ : XS} (h : Shp σ) : xT σ 37 = 20 := by unfold xT; rw [h.2.1 37 (by decide) (by decide) (by decide)]; rfl
theorem sl37 {σ : XS} (h : Shp σ) : xlen σ 37 = 32 := by unfold xlen; rw [h.2.1 37 (by decide) (by decide) (by decide)]; rfl
theorem sT38 {σ : XS} (h : Shp σ) : xT σ 38 = 20 := by unfold xT; rw [h.2.1 38 (by decide) (by decide) (by decide)]; rfl
theorem sl38 {σ : XS} (h : Shp σ) : xlen σ 38 = 16 := by unfold xlen; rw [h.2.1 38 (by decide) (by decide) (by decide)]; rfl
theorem sT39 {σ : XS} (h : Shp σ) : xT σ 39 = 6 := by unfold xT; rw [h.2.1 39 (by decide) (by decide) (by decide)]; rfl
theorem sT40 {σ : XS} (h : Shp σ) : xT σ 40 = 20 := by unfold xT; rw [h.2.1 40 (by decide) (by decide) (by decide)]; rfl
theorem sl40 {σ : XS} (h : Shp σ) : xlen σ 40 = 32 := by unfold xlen; rw [h.2.1 40 (by decide) (by decide) (by decide)]; rfl
theorem sT41 {σ : XS} (h : Shp σ) : xT σ 41 = 20 := by unfold xT; rw [h.2.1 41 (by decide) (by decide) (by decide)]; rfl
theorem sl41 {σ : XS} (h : Shp σ) : xlen σ 41 = 16 := by unfold xlen; rw [h.2.1 41 (by decide) (by decide) (by decide)]; rfl
theorem sT42 {σ : XS} (h : Shp σ) : xT σ 42 = 6 := by unfold xT; rw [h.2.1 42 (by decide) (by decide) (by decide)]; rfl
theorem sT43 {σ : XS} (h : Shp σ) : xT σ 43 = 20 := by unfold xT; rw [h.2.1 43 (by decide) (by decide) (by decide)]; rfl
theorem sl43 {σ : XS} (h : Shp σ) : xlen σ 43 = 32 := by unfold xlen; rw [h.2.1 43 (by decide) (by decide) (by decide)]; rfl
theorem sT44 {σ : XS} (h : Shp σ) : xT σ 44 = 20 := by unfold xT; rw [h.2.1 44 (by decide) (by decide) (by decide)]; rfl
theorem sl44 {σ : XS} (h : Shp σ) : xlen σ 44 = 16 := by unfold xlen; rw [h.2.1 44 (by decide) (by decide) (by decide)]; rfl
theorem sT45 {σ : XS} (h : Shp σ) : xT σ 45 = 6 := by unfold xT; rw [h.2.1 45 (by decide) (by decide) (by decide)]; rfl
theorem sT46 {σ : XS} (h : Shp σ) : xT σ 46 = 20 := by unfold xT; rw [h.2.1 46 (by decide) (by decide) (by decide)]; rfl
theorem sl46 {σ : XS} (h : Shp σ) : xlen σ 46 = 32 := by unfold xlen; rw [h.2.1 46 (by decide) (by decide) (by decide)]; rfl
theorem sT47 {σ : XS} (h : Shp σ) : xT σ 47 = 20 := by unfold xT; rw [h.2.1 47 (by decide) (by decide) (by decide)]; rfl
theorem sl47 {σ : XS} (h : Shp σ) : xlen σ 47 = 16 := by unfold xlen; rw [h.2.1 47 (by decide) (by decide) (by decide)]; rfl
theorem sT48 {σ : XS} (h : Shp σ) : xT σ 48 = 6 := by unfold xT; rw [h.2.1 48 (by decide) (by decide) (by decide)]; rfl
theorem sT49 {σ : XS} (h : Shp σ) : xT σ 49 = 20 := by unfold xT; rw [h.2.1 49 (by decide) (by decide) (by decide)]; rfl
theorem sl49 {σ : XS} (h : Shp σ) : xlen σ 49 = 32 := by unfold xlen; rw [h.2.1 49 (by decide) (by decide) (by decide)]; rfl
theorem sT50 {σ : XS} (h : Shp σ) : xT σ 50 = 20 := by unfold xT; rw [h.2.1 50 (by decide) (by decide) (by decide)]; rfl
theorem sl50 {σ : XS} (h : Shp σ) : xlen σ 50 = 16 := by unfold xlen; rw [h.2.1 50 (by decide) (by decide) (by decide)]; rfl
theorem sT51 {σ : XS} (h : Shp σ) : xT σ 51 = 6 := by unfold xT; rw [h.2.1 51 (by decide) (by decide) (by decide)]; rfl
theorem sT52 {σ : XS} (h : Shp σ) : xT σ 52 = 20 := by unfold xT; rw [h.2.1 52 (by decide) (by decide) (by decide)]; rfl
theorem sl52 {σ : XS} (h : Shp σ) : xlen σ 52 = 32 := by unfold xlen; rw [h.2.1 52 (by decide) (by decide) (by decide)]; rfl
theorem sT53 {σ : XS} (h : Shp σ) : xT σ 53 = 20 := by unfold xT; rw [h.2.1 53 (by decide) (by decide) (by decide)]; rfl
theorem sl53 {σ : XS} (h : Shp σ) : xlen σ 53 = 16 := by unfold xlen; rw [h.2.1 53 (by decide) (by decide) (by decide)]; rfl
theorem sT54 {σ : XS} (h : Shp σ) : xT σ 54 = 6 := by unfold xT; rw [h.2.1 54 (by decide) (by decide) (by decide)]; rfl
theorem sT55 {σ : XS} (h : Shp σ) : xT σ 55 = 20 := by unfold xT; rw [h.2.1 55 (by decide) (by decide) (by decide)]; rfl
theorem sl55 {σ : XS} (h : Shp σ) : xlen σ 55 = 32 := by unfold xlen; rw [h.2.1 55 (by decide) (by decide) (by decide)]; rfl
theorem sT56 {σ : XS} (h : Shp σ) : xT σ 56 = 20 := by unfold xT; rw [h.2.1 56 (by decide) (by decide) (by decide)]; rfl
theorem sl56 {σ : XS} (h : Shp σ) : xlen σ 56 = 16 := by unfold xlen; rw [h.2.1 56 (by decide) (by decide) (by decide)]; rfl
theorem sT57 {σ : XS} (h : Shp σ) : xT σ 57 = 6 := by unfold xT; rw [h.2.1 57 (by decide) (by decide) (by decide)]; rfl
theorem sT58 {σ : XS} (h : Shp σ) : xT σ 58 = 20 := by unfold xT; rw [h.2.1 58 (by decide) (by decide) (by decide)]; rfl
theorem sl58 {σ : XS} (h : Shp σ) : xlen σ 58 = 32 := by unfold xlen; rw [h.2.1 58 (by decide) (by decide) (by decide)]; rfl
theorem sT59 {σ : XS} (h : Shp σ) : xT σ 59 = 20 := by unfold xT; rw [h.2.1 59 (by decide) (by decide) (by decide)]; rfl
theorem sl59 {σ : XS} (h : Shp σ) : xlen σ 59 = 16 := by unfold xlen; rw [h.2.1 59 (by decide) (by decide) (by decide)]; rfl
theorem sT60 {σ : XS} (h : Shp σ) : xT σ 60 = 6 := by unfold xT; rw [h.2.1 60 (by decide) (by decide) (by decide)]; rfl
theorem sT61 {σ : XS} (h : Shp σ) : xT σ 61 = 20 := by unfold xT; rw [h.2.1 61 (by decide) (by decide) (by decide)]; rfl
theorem sl61 {σ : XS} (h : Shp σ) : xlen σ 61 = 32 := by unfold xlen; rw [h.2.1 61 (by decide) (by decide) (by decide)]; rfl
theorem sT62 {σ : XS} (h : Shp σ) : xT σ 62 = 20 := by unfold xT; rw [h.2.1 62 (by decide) (by decide) (by decide)]; rfl
theorem sl62 {σ : XS} (h : Shp σ) : xlen σ 62 = 16 := by unfold xlen; rw [h.2.1 62 (by decide) (by decide) (by decide)]; rfl
theorem sT63 {σ : XS} (h : Shp σ) : xT σ 63 = 6 := by unfold xT; rw [h.2.1 63 (by decide) (by decide) (by decide)]; rfl
theorem sT64 {σ : XS} (h : Shp σ) : xT σ 64 = 20 := by unfold xT; rw [h.2.1 64 (by decide) (by decide) (by decide)]; rfl
theorem sl64 {σ : XS} (h : Shp σ) : xlen σ 64 = 32 := by unfold xlen; rw [h.2.1 64 (by decide) (by decide) (by decide)]; rfl
theorem sT65 {σ : XS} (h : Shp σ) : xT σ 65 = 20 := by unfold xT; rw [h.2.1 65 (by decide) (by decide) (by decide)]; rfl
theorem sl65 {σ : XS} (h : Shp σ) : xlen σ 65 = 16 := by unfold xlen; rw [h.2.1 65 (by decide) (by decide) (by decide)]; rfl
theorem sT66 {σ : XS} (h : Shp σ) : xT σ 66 = 6 := by unfold xT; rw [h.2.1 66 (by decide) (by decide) (by decide)]; rfl
theorem sT67 {σ : XS} (h : Shp σ) : xT σ 67 = 20 := by unfold xT; rw [h.2.1 67 (by decide) (by decide) (by decide)]; rfl
theorem sl67 {σ : XS} (h : Shp σ) : xlen σ 67 = 32 := by unfold xlen; rw [h.2.1 67 (by decide) (by decide) (by decide)]; rfl
theorem sT68 {σ : XS} (h : Shp σ) : xT σ 68 = 20 := by unfold xT; rw [h.2.1 68 (by decide) (by decide) (by decide)]; rfl
theorem sl68 {σ : XS} (h : Shp σ) : xlen σ 68 = 16 := by unfold xlen; rw [h.2.1 68 (by decide) (by decide) (by decide)]; rfl
theorem sT69 {σ : XS} (h : Shp σ) : xT σ 69 = 6 := by unfold xT; rw [h.2.1 69 (by decide) (by decide) (by decide)]; rfl
theorem sT70 {σ : XS} (h : Shp σ) : xT σ 70 = 20 := by unfold xT; rw [h.2.1 70 (by decide) (by decide) (by decide)]; rfl
theorem sl70 {σ : XS} (h : Shp σ) : xlen σ 70 = 32 := by unfold xlen; rw [h.2.1 70 (by decide) (by decide) (by decide)]; rfl
theorem sT71 {σ : XS} (h : Shp σ) : xT σ 71 = 20 := by unfold xT; rw [h.2.1 71 (by decide) (by decide) (by decide)]; rfl
theorem sl71 {σ : XS} (h : Shp σ) : xlen σ 71 = 16 := by unfold xlen; rw [h.2.1 71 (by decide) (by decide) (by decide)]; rfl
theorem sT72 {σ : XS} (h : Shp σ) : xT σ 72 = 6 := by unfold xT; rw [h.2.1 72 (by decide) (by decide) (by decide)]; rfl
theorem sT73 {σ : XS} (h : Shp σ) : xT σ 73 = 20 := by unfold xT; rw [h.2.1 73 (by decide) (by decide) (by decide)]; rfl
theorem sl73 {σ : XS} (h : Shp σ) : xlen σ 73 = 32 := by unfold xlen; rw [h.2.1 73 (by decide) (by decide) (by decide)]; rfl
theorem sT74 {σ : XS} (h : Shp σ) : xT σ 74 = 20 := by unfold xT; rw [h.2.1 74 (by decide) (by decide) (by decide)]; rfl
theorem sl74 {σ : XS} (h : Shp σ) : xlen σ 74 = 16 := by unfold xlen; rw [h.2.1 74 (by decide) (by decide) (by decide)]; rfl
theorem sT75 {σ : XS} (h : Shp σ) : xT σ 75 = 6 := by unfold xT; rw [h.2.1 75 (by decide) (by decide) (by decide)]; rfl
theorem sT76 {σ : XS} (h : Shp σ) : xT σ 76 = 20 := by unfold xT; rw [h.2.1 76 (by decide) (by decide) (by decide)]; rfl
theorem sl76 {σ : XS} (h : Shp σ) : xlen σ 76 = 32 := by unfold xlen; rw [h.2.1 76 (by decide) (by decide) (by decide)]; rfl
theorem sT77 {σ : XS} (h : Shp σ) : xT σ 77 = 20 := by unfold xT; rw [h.2.1 77 (by decide) (by decide) (by decide)]; rfl
theorem sl77 {σ : XS} (h : Shp σ) : xlen σ 77 = 16 := by unfold xlen; rw [h.2.1 77 (by decide) (by decide) (by decide)]; rfl
theorem sT78 {σ : XS} (h : Shp σ) : xT σ 78 = 6 := by unfold xT; rw [h.2.1 78 (by decide) (by decide) (by decide)]; rfl
theorem sT79 {σ : XS} (h : Shp σ) : xT σ 79 = 20 := by unfold xT; rw [h.2.1 79 (by decide) (by decide) (by decide)]; rfl
theorem sl79 {σ : XS} (h : Shp σ) : xlen σ 79 = 32 := by unfold xlen; rw [h.2.1 79 (by decide) (by decide) (by decide)]; rfl
theorem sT80 {σ : XS} (h : Shp σ) : xT σ 80 = 20 := by unfold xT; rw [h.2.1 80 (by decide) (by decide) (by decide)]; rfl
theorem sl80 {σ : XS} (h : Shp σ) : xlen σ 80 = 16 := by unfold xlen; rw [h.2.1 80 (by decide) (by decide) (by decide)]; rfl
theorem sT81 {σ : XS} (h : Shp σ) : xT σ 81 = 6 := by unfold xT; rw [h.2.1 81 (by decide) (by decide) (by decide)]; rfl
theorem sT82 {σ : XS} (h : Shp σ) : xT σ 82 = 20 := by unfold xT; rw [h.2.1 82 (by decide) (by decide) (by decide)]; rfl
theorem sl82 {σ : XS} (h : Shp σ) : xlen σ 82 = 32 := by unfold xlen; rw [h.2.1 82 (by decide) (by decide) (by decide)]; rfl
theorem sT83 {σ : XS} (h : Shp σ) : xT σ 83 = 20 := by unfold xT; rw [h.2.1 83 (by decide) (by decide) (by decide)]; rfl
theorem sl83 {σ : XS} (h : Shp σ) : xlen σ 83 = 16 := by unfold xlen; rw [h.2.1 83 (by decide) (by decide) (by decide)]; rfl
theorem sT84 {σ : XS} (h : Shp σ) : xT σ 84 = 6 := by unfold xT; rw [h.2.1 84 (by decide) (by decide) (by decide)]; rfl
theorem sT85 {σ : XS} (h : Shp σ) : xT σ 85 = 20 := by unfold xT; rw [h.2.1 85 (by decide) (by decide) (by decide)]; rfl
theorem sl85 {σ : XS} (h : Shp σ) : xlen σ 85 = 32 := by unfold xlen; rw [h.2.1 85 (by decide) (by decide) (by decide)]; rfl
theorem sT86 {σ : XS} (h : Shp σ) : xT σ 86 = 20 := by unfold xT; rw [h.2.1 86 (by decide) (by decide) (by decide)]; rfl
theorem sl86 {σ : XS} (h : Shp σ) : xlen σ 86 = 16 := by unfold xlen; rw [h.2.1 86 (by decide) (by decide) (by decide)]; rfl
theorem sT87 {σ : XS} (h : Shp σ) : xT σ 87 = 6 := by unfold xT; rw [h.2.1 87 (by decide) (by decide) (by decide)]; rfl
theorem sT88 {σ : XS} (h : Shp σ) : xT σ 88 = 20 := by unfold xT; rw [h.2.1 88 (by decide) (by decide) (by decide)]; rfl
theorem sl88 {σ : XS} (h : Shp σ) : xlen σ 88 = 32 := by unfold xlen; rw [h.2.1 88 (by decide) (by decide) (by decide)]; rfl
theorem sT89 {σ : XS} (h : Shp σ) : xT σ 89 = 20 := by unfold xT; rw [h.2.1 89 (by decide) (by decide) (by decide)]; rfl
theorem sl89 {σ : XS} (h : Shp σ) : xlen σ 89 = 16 := by unfold xlen; rw [h.2.1 89 (by decide) (by decide) (by decide)]; rfl
theorem sT90 {σ : XS} (h : Shp σ) : xT σ 90 = 6 := by unfold xT; rw [h.2.1 90 (by decide) (by decide) (by decide)]; rfl
theorem sT91 {σ : XS} (h : Shp σ) : xT σ 91 = 20 := by unfold xT; rw [h.2.1 91 (by decide) (by decide) (by decide)]; rfl
theorem sl91 {σ : XS} (h : Shp σ) : xlen σ 91 = 32 := by unfold xlen; rw [h.2.1 91 (by decide) (by decide) (by decide)]; rfl
theorem sT92 {σ : XS} (h : Shp σ) : xT σ 92 = 20 := by unfold xT; rw [h.2.1 92 (by decide) (by decide) (by decide)]; rfl
theorem sl92 {σ : XS} (h : Shp σ) : xlen σ 92 = 16 := by unfold xlen; rw [h.2.1 92 (by decide) (by decide) (by decide)]; rfl
theorem sT93 {σ : XS} (h : Shp σ) : xT σ 93 = 6 := by unfold xT; rw [h.2.1 93 (by decide) (by decide) (by decide)]; rfl
theorem sT94 {σ : XS} (h : Shp σ) : xT σ 94 = 20 := by unfold xT; rw [h.2.1 94 (by decide) (by decide) (by decide)]; rfl
theorem sl94 {σ : XS} (h : Shp σ) : xlen σ 94 = 32 := by unfold xlen; rw [h.2.1 94 (by decide) (by decide) (by decide)]; rfl
theorem sT95 {σ : XS} (h : Shp σ) : xT σ 95 = 20 := by unfold xT; rw [h.2.1 95 (by decide) (by decide) (by decide)]; rfl
theorem sl95 {σ : XS} (h : Shp σ) : xlen σ 95 = 16 := by unfold xlen; rw [h.2.1 95 (by decide) (by decide) (by decide)]; rfl
theorem sT96 {σ : XS} (h : Shp σ) : xT σ 96 = 6 := by unfold xT; rw [h.2.1 96 (by decide) (by decide) (by decide)]; rfl
theorem sT97 {σ : XS} (h : Shp σ) : xT σ 97 = 20 := by unfold xT; rw [h.2.1 97 (by decide) (by decide) (by decide)]; rfl
theorem sl97 {σ : XS} (h : Shp σ) : xlen σ 97 = 32 := by unfold xlen; rw [h.2.1 97 (by decide) (by decide) (by decide)]; rfl
theorem sT98 {σ : XS} (h : Shp σ) : xT σ 98 = 20 := by unfold xT; rw [h.2.1 98 (by decide) (by decide) (by decide)]; rfl
theorem sl98 {σ : XS} (h : Shp σ) : xlen σ 98 = 16 := by unfold xlen; rw [h.2.1 98 (by decide) (by decide) (by decide)]; rfl
theorem sT99 {σ : XS} (h : Shp σ) : xT σ 99 = 6 := by unfold xT; rw [h.2.1 99 (by decide) (by decide) (by decide)]; rfl
theorem sT100 {σ : XS} (h : Shp σ) : xT σ 100 = 20 := by unfold xT; rw [h.2.1 100 (by decide) (by decide) (by decide)]; rfl
theorem sl100 {σ : XS} (h : Shp σ) : xlen σ 100 = 32 := by unfold xlen; rw [h.2.1 100 (by decide) (by decide) (by decide)]; rfl
theorem sT101 {σ : XS} (h : Shp σ) : xT σ 101 = 20 := by unfold xT; rw [h.2.1 101 (by decide) (by decide) (by decide)]; rfl
theorem sl101 {σ : XS} (h : Shp σ) : xlen σ 101 = 16 := by unfold xlen; rw [h.2.1 101 (by decide) (by decide) (by decide)]; rfl
theorem sT102 {σ : XS} (h : Shp σ) : xT σ 102 = 6 := by unfold xT; rw [h.2.1 102 (by decide) (by decide) (by decide)]; rfl
theorem sT103 {σ : XS} (h : Shp σ) : xT σ 103 = 20 := by unfold xT; rw [h.2.1 103 (by decide) (by decide) (by decide)]; rfl
theorem sl103 {σ : XS} (h : Shp σ) : xlen σ 103 = 32 := by unfold xlen; rw [h.2.1 103 (by decide) (by decide) (by decide)]; rfl
theorem sT104 {σ : XS} (h : Shp σ) : xT σ 104 = 20 := by unfold xT; rw [h.2.1 104 (by decide) (by decide) (by decide)]; rfl
theorem sl104 {σ : XS} (h : Shp σ) : xlen σ 104 = 16 := by unfold xlen; rw [h.2.1 104 (by decide) (by decide) (by decide)]; rfl
theorem sT105 {σ : XS} (h : Shp σ) : xT σ 105 = 6 := by unfold xT; rw [h.2.1 105 (by decide) (by decide) (by decide)]; rfl
theorem sT106 {σ : XS} (h : Shp σ) : xT σ 106 = 20 := by unfold xT; rw [h.2.1 106 (by decide) (by decide) (by decide)]; rfl
theorem sl106 {σ : XS} (h : Shp σ) : xlen σ 106 = 32 := by unfold xlen; rw [h.2.1 106 (by decide) (by decide) (by decide)]; rfl
theorem sT107 {σ : XS} (h : Shp σ) : xT σ 107 = 20 := by unfold xT; rw [h.2.1 107 (by decide) (by decide) (by decide)]; rfl
theorem sl107 {σ : XS} (h : Shp σ) : xlen σ 107 = 16 := by unfold xlen; rw [h.2.1 107 (by decide) (by decide) (by decide)]; rfl
theorem sT108 {σ : XS} (h : Shp σ) : xT σ 108 = 6 := by unfold xT; rw [h.2.1 108 (by decide) (by decide) (by decide)]; rfl
theorem sT109 {σ : XS} (h : Shp σ) : xT σ 109 = 20 := by unfold xT; rw [h.2.1 109 (by decide) (by decide) (by decide)]; rfl
theorem sl109 {σ : XS} (h : Shp σ) : xlen σ 109 = 32 := by unfold xlen; rw [h.2.1 109 (by decide) (by decide) (by decide)]; rfl
theorem sT110 {σ : XS} (h : Shp σ) : xT σ 110 = 20 := by unfold xT; rw [h.2.1 110 (by decide) (by decide) (by decide)]; rfl
theorem sl110 {σ : XS} (h : Shp σ) : xlen σ 110 = 16 := by unfold xlen; rw [h.2.1 110 (by decide) (by decide) (by decide)]; rfl
theorem sT111 {σ : XS} (h : Shp σ) : xT σ 111 = 6 := by unfold xT; rw [h.2.1 111 (by decide) (by decide) (by decide)]; rfl
theorem sT112 {σ : XS} (h : Shp σ) : xT σ 112 = 20 := by unfold xT; rw [h.2.1 112 (by decide) (by decide) (by decide)]; rfl
theorem sl112 {σ : XS} (h : Shp σ) : xlen σ 112 = 32 := by unfold xlen; rw [h.2.1 112 (by decide) (by decide) (by decide)]; rfl
theorem sT113 {σ : XS} (h : Shp σ) : xT σ 113 = 20 := by unfold xT; rw [h.2.1 113 (by decide) (by decide) (by decide)]; rfl
theorem sl113 {σ : XS} (h : Shp σ) : xlen σ 113 = 16 := by unfold xlen; rw [h.2.1 113 (by decide) (by decide) (by decide)]; rfl
theorem sT114 {σ : XS} (h : Shp σ) : xT σ 114 = 6 := by unfold xT; rw [h.2.1 114 (by decide) (by decide) (by decide)]; rfl
theorem sT115 {σ : XS} (h : Shp σ) : xT σ 115 = 20 := by unfold xT; rw [h.2.1 115 (by decide) (by decide) (by decide)]; rfl
theorem sl115 {σ : XS} (h : Shp σ) : xlen σ 115 = 32 := by unfold xlen; rw [h.2.1 115 (by decide) (by decide) (by decide)]; rfl
theorem sT116 {σ : XS} (h : Shp σ) : xT σ 116 = 20 := by unfold xT; rw [h.2.1 116 (by decide) (by decide) (by decide)]; rfl
theorem sl116 {σ : XS} (h : Shp σ) : xlen σ 116 = 16 := by unfold xlen; rw [h.2.1 116 (by decide) (by decide) (by decide)]; rfl
theorem sT117 {σ : XS} (h : Shp σ) : xT σ 117 = 6 := by unfold xT; rw [h.2.1 117 (by decide) (by decide) (by decide)]; rfl
theorem sT118 {σ : XS} (h : Shp σ) : xT σ 118 = 20 := by unfold xT; rw [h.2.1 118 (by decide) (by decide) (by decide)]; rfl
theorem sl118 {σ : XS} (h : Shp σ) : xlen σ 118 = 32 := by unfold xlen; rw [h.2.1 118 (by decide) (by decide) (by decide)]; rfl
theorem sT119 {σ : XS} (h : Shp σ) : xT σ 119 = 20 := by unfold xT; rw [h.2.1 119 (by decide) (by decide) (by decide)]; rfl
theorem sl119 {σ : XS} (h : Shp σ) : xlen σ 119 = 16 := by unfold xlen; rw [h.2.1 119 (by decide) (by decide) (by decide)]; rfl
theorem sT120 {σ : XS} (h : Shp σ) : xT σ 120 = 6 := by unfold xT; rw [h.2.1 120 (by decide) (by decide) (by decide)]; rfl
theorem sT121 {σ : XS} (h : Shp σ) : xT σ 121 = 20 := by unfold xT; rw [h.2.1 121 (by decide) (by decide) (by decide)]; rfl
theorem sl121 {σ : XS} (h : Shp σ) : xlen σ 121 = 32 := by unfold xlen; rw [h.2.1 121 (by decide) (by decide) (by decide)]; rfl
theorem sT122 {σ : XS} (h : Shp σ) : xT σ 122 = 20 := by unfold xT; rw [h.2.1 122 (by decide) (by decide) (by decide)]; rfl
theorem sl122 {σ : XS} (h : Shp σ) : xlen σ 122 = 16 := by unfold xlen; rw [h.2.1 122 (by decide) (by decide) (by decide)]; rfl
theorem sT123 {σ : XS} (h : Shp σ) : xT σ 123 = 6 := by unfold xT; rw [h.2.1 123 (by decide) (by decide) (by decide)]; rfl
theorem sT124 {σ : XS} (h : Shp σ) : xT σ 124 = 20 := by unfold xT; rw [h.2.1 124 (by decide) (by decide) (by decide)]; rfl
theorem sl124 {σ : XS} (h : Shp σ) : xlen σ 124 = 32 := by unfold xlen; rw [h.2.1 124 (by decide) (by decide) (by decide)]; rfl
theorem sT125 {σ : XS} (h : Shp σ) : xT σ 125 = 20 := by unfold xT; rw [h.2.1 125 (by decide) (by decide) (by decide)]; rfl
theorem sl125 {σ : XS} (h : Shp σ) : xlen σ 125 = 16 := by unfold xlen; rw [h.2.1 125 (by decide) (by decide) (by decide)]; rfl
theorem sT126 {σ : XS} (h : Shp σ) : xT σ 126 = 6 := by unfold xT; rw [h.2.1 126 (by decide) (by decide) (by decide)]; rfl
theorem sT127 {σ : XS} (h : Shp σ) : xT σ 127 = 20 := by unfold xT; rw [h.2.1 127 (by decide) (by decide) (by decide)]; rfl
theorem sl127 {σ : XS} (h : Shp σ) : xlen σ 127 = 32 := by unfold xlen; rw [h.2.1 127 (by decide) (by decide) (by decide)]; rfl
theorem sT128 {σ : XS} (h : Shp σ) : xT σ 128 = 20 := by unfold xT; rw [h.2.1 128 (by decide) (by decide) (by decide)]; rfl
theorem sl128 {σ : XS} (h : Shp σ) : xlen σ 128 = 16 := by unfold xlen; rw [h.2.1 128 (by decide) (by decide) (by decide)]; rfl
theorem sT129 {σ : XS} (h : Shp σ) : xT σ 129 = 6 := by unfold xT; rw [h.2.1 129 (by decide) (by decide) (by decide)]; rfl
theorem sT130 {σ : XS} (h : Shp σ) : xT σ 130 = 20 := by unfold xT; rw [h.2.1 130 (by decide) (by decide) (by decide)]; rfl
theorem sl130 {σ : XS} (h : Shp σ) : xlen σ 130 = 32 := by unfold xlen; rw [h.2.1 130 (by decide) (by decide) (by decide)]; rfl
theorem sT131 {σ : XS} (h : Shp σ) : xT σ 131 = 20 := by unfold xT; rw [h.2.1 131 (by decide) (by decide) (by decide)]; rfl
theorem sl131 {σ : XS} (h : Shp σ) : xlen σ 131 = 16 := by unfold xlen; rw [h.2.1 131 (by decide) (by decide) (by decide)]; rfl
theorem sT132 {σ : XS} (h : Shp σ) : xT σ 132 = 6 := by unfold xT; rw [h.2.1 132 (by decide) (by decide) (by decide)]; rfl
theorem sT133 {σ : XS} (h : Shp σ) : xT σ 133 = 20 := by unfold xT; rw [h.2.1 133 (by decide) (by decide) (by decide)]; rfl
theorem sl133 {σ : XS} (h : Shp σ) : xlen σ 133 = 32 := by unfold xlen; rw [h.2.1 133 (by decide) (by decide) (by decide)]; rfl
theorem sT134 {σ : XS} (h : Shp σ) : xT σ 134 = 20 := by unfold xT; rw [h.2.1 134 (by decide) (by decide) (by decide)]; rfl
theorem sl134 {σ : XS} (h : Shp σ) : xlen σ 134 = 16 := by unfold xlen; rw [h.2.1 134 (by decide) (by decide) (by decide)]; rfl
theorem sT135 {σ : XS} (h : Shp σ) : xT σ 135 = 6 := by unfold xT; rw [h.2.1 135 (by decide) (by decide) (by decide)]; rfl
theorem sT136 {σ : XS} (h : Shp σ) : xT σ 136 = 20 := by unfold xT; rw [h.2.1 136 (by decide) (by decide) (by decide)]; rfl
theorem sl136 {σ : XS} (h : Shp σ) : xlen σ 136 = 32 := by unfold xlen; rw [h.2.1 136 (by decide) (by decide) (by decide)]; rfl
theorem sT137 {σ : XS} (h : Shp σ) : xT σ 137 = 20 := by unfold xT; rw [h.2.1 137 (by decide) (by decide) (by decide)]; rfl
theorem sl137 {σ : XS} (h : Shp σ) : xlen σ 137 = 16 := by unfold xlen; rw [h.2.1 137 (by decide) (by decide) (by decide)]; rfl
theorem sT138 {σ : XS} (h : Shp σ) : xT σ 138 = 6 := by unfold xT; rw [h.2.1 138 (by decide) (by decide) (by decide)]; rfl
theorem sT139 {σ : XS} (h : Shp σ) : xT σ 139 = 20 := by unfold xT; rw [h.2.1 139 (by decide) (by decide) (by decide)]; rfl
theorem sl139 {σ : XS} (h : Shp σ) : xlen σ 139 = 32 := by unfold xlen; rw [h.2.1 139 (by decide) (by decide) (by decide)]; rfl
theorem sT140 {σ : XS} (h : Shp σ) : xT σ 140 = 20 := by unfold xT; rw [h.2.1 140 (by decide) (by decide) (by decide)]; rfl
theorem sl140 {σ : XS} (h : Shp σ) : xlen σ 140 = 16 := by unfold xlen; rw [h.2.1 140 (by decide) (by decide) (by decide)]; rfl
theorem sT141 {σ : XS} (h : Shp σ) : xT σ 141 = 25 := by unfold xT; rw [h.2.1 141 (by decide) (by decide) (by decide)]; rfl
theorem sl141 {σ : XS} (h : Shp σ) : xlen σ 141 = 3 := by unfold xlen; rw [h.2.1 141 (by decide) (by decide) (by decide)]; rfl
theorem sT142 {σ : XS} (h : Shp σ) : xT σ 142 = 7 := by unfold xT; rw [h.2.1 142 (by decide) (by decide) (by decide)]; rfl
theorem sT143 {σ : XS} (h : Shp σ) : xT σ 143 = 6 := by unfold xT; rw [h.2.1 143 (by decide) (by decide) (by decide)]; rfl
theorem sT144 {σ : XS} (h : Shp σ) : xT σ 144 = 20 := by unfold xT; rw [h.2.1 144 (by decide) (by decide) (by decide)]; rfl
theorem sl144 {σ : XS} (h : Shp σ) : xlen σ 144 = 32 := by unfold xlen; rw [h.2.1 144 (by decide) (by decide) (by decide)]; rfl
theorem sT145 {σ : XS} (h : Shp σ) : xT σ 145 = 20 := by unfold xT; rw [h.2.1 145 (by decide) (by decide) (by decide)]; rfl
theorem sl145 {σ : XS} (h : Shp σ) : xlen σ 145 = 16 := by unfold xlen; rw [h.2.1 145 (by decide) (by decide) (by decide)]; rfl
theorem sT146 {σ : XS} (h : Shp σ) : xT σ 146 = 20 := by unfold xT; rw [h.2.1 146 (by decide) (by decide) (by decide)]; rfl
theorem sl146 {σ : XS} (h : Shp σ) : xlen σ 146 = 289 := by unfold xlen; rw [h.2.1 146 (by decide) (by decide) (by decide)]; rfl
theorem sT147 {σ : XS} (h : Shp σ) : xT σ 147 = 7 := by unfold xT; rw [h.2.1 147 (by decide) (by decide) (by decide)]; rfl
theorem sT148 {σ : XS} (h : Shp σ) : xT σ 148 = 6 := by unfold xT; rw [h.2.1 148 (by decide) (by decide) (by decide)]; rfl
theorem sT149 {σ : XS} (h : Shp σ) : xT σ 149 = 20 := by unfold xT; rw [h.2.1 149 (by decide) (by decide) (by decide)]; rfl
theorem sl149 {σ : XS} (h : Shp σ) : xlen σ 149 = 32 := by unfold xlen; rw [h.2.1 149 (by decide) (by decide) (by decide)]; rfl
theorem sT150 {σ : XS} (h : Shp σ) : xT σ 150 = 20 := by unfold xT; rw [h.2.1 150 (by decide) (by decide) (by decide)]; rfl
theorem sl150 {σ : XS} (h : Shp σ) : xlen σ 150 = 16 := by unfold xlen; rw [h.2.1 150 (by decide) (by decide) (by decide)]; rfl
theorem sT151 {σ : XS} (h : Shp σ) : xT σ 151 = 20 := by unfold xT; rw [h.2.1 151 (by decide) (by decide) (by decide)]; rfl
theorem sl151 {σ : XS} (h : Shp σ) : xlen σ 151 = 289 := by unfold xlen; rw [h.2.1 151 (by decide) (by decide) (by decide)]; rfl
theorem sT152 {σ : XS} (h : Shp σ) : xT σ 152 = 7 := by unfold xT; rw [h.2.1 152 (by decide) (by decide) (by decide)]; rfl
theorem sT153 {σ : XS} (h : Shp σ) : xT σ 153 = 6 := by unfold xT; rw [h.2.1 153 (by decide) (by decide) (by decide)]; rfl
theorem sT154 {σ : XS} (h : Shp σ) : xT σ 154 = 20 := by unfold xT; rw [h.2.1 154 (by decide) (by decide) (by decide)]; rfl
theorem sl154 {σ : XS} (h : Shp σ) : xlen σ 154 = 32 := by unfold xlen; rw [h.2.1 154 (by decide) (by decide) (by decide)]; rfl
theorem sT155 {σ : XS} (h : Shp σ) : xT σ 155 = 20 := by unfold xT; rw [h.2.1 155 (by decide) (by decide) (by decide)]; rfl
theorem sl155 {σ : XS} (h : Shp σ) : xlen σ 155 = 16 := by unfold xlen; rw [h.2.1 155 (by decide) (by decide) (by decide)]; rfl
theorem sT156 {σ : XS} (h : Shp σ) : xT σ 156 = 20 := by unfold xT; rw [h.2.1 156 (by decide) (by decide) (by decide)]; rfl
theorem sl156 {σ : XS} (h : Shp σ) : xlen σ 156 = 289 := by unfold xlen; rw [h.2.1 156 (by decide) (by decide) (by decide)]; rfl
theorem sT157 {σ : XS} (h : Shp σ) : xT σ 157 = 2 := by unfold xT; rw [h.2.1 157 (by decide) (by decide) (by decide)]; rfl
theorem sT158 {σ : XS} (h : Shp σ) : xT σ 158 = 20 := by unfold xT; rw [h.2.1 158 (by decide) (by decide) (by decide)]; rfl
theorem sl158 {σ : XS} (h : Shp σ) : xlen σ 158 = 4 := by unfold xlen; rw [h.2.1 158 (by decide) (by decide) (by decide)]; rfl
theorem sT159 {σ : XS} (h : Shp σ) : xT σ 159 = 20 := by unfold xT; rw [h.2.1 159 (by decide) (by decide) (by decide)]; rfl
theorem sl159 {σ : XS} (h : Shp σ) : xlen σ 159 = 4 := by unfold xlen; rw [h.2.1 159 (by decide) (by decide) (by decide)]; rfl
theorem sT161 {σ : XS} (h : Shp σ) : xT σ 161 = 2 := by unfold xT; rw [h.2.1 161 (by decide) (by decide) (by decide)]; rfl
theorem sT162 {σ : XS} (h : Shp σ) : xT σ 162 = 20 := by unfold xT; rw [h.2.1 162 (by decide) (by decide) (by decide)]; rfl
theorem sl162 {σ : XS} (h : Shp σ) : xlen σ 162 = 4 := by unfold xlen; rw [h.2.1 162 (by decide) (by decide) (by decide)]; rfl
theorem sT163 {σ : XS} (h : Shp σ) : xT σ 163 = 20 := by unfold xT; rw [h.2.1 163 (by decide) (by decide) (by decide)]; rfl
theorem sl163 {σ : XS} (h : Shp σ) : xlen σ 163 = 4 := by unfold xlen; rw [h.2.1 163 (by decide) (by decide) (by decide)]; rfl
theorem sT165 {σ : XS} (h : Shp σ) : xT σ 165 = 4 := by unfold xT; rw [h.2.1 165 (by decide) (by decide) (by decide)]; rfl
theorem sT166 {σ : XS} (h : Shp σ) : xT σ 166 = 20 := by unfold xT; rw [h.2.1 166 (by decide) (by decide) (by decide)]; rfl
theorem sl166 {σ : XS} (h : Shp σ) : xlen σ 166 = 289 := by unfold xlen; rw [h.2.1 166 (by decide) (by decide) (by decide)]; rfl
theorem sT167 {σ : XS} (h : Shp σ) : xT σ 167 = 20 := by unfold xT; rw [h.2.1 167 (by decide) (by decide) (by decide)]; rfl
theorem sl167 {σ : XS} (h : Shp σ) : xlen σ 167 = 289 := by unfold xlen; rw [h.2.1 167 (by decide) (by decide) (by decide)]; rfl
theorem sT168 {σ : XS} (h : Shp σ) : xT σ 168 = 20 := by unfold xT; rw [h.2.1 168 (by decide) (by decide) (by decide)]; rfl
theorem sl168 {σ : XS} (h : Shp σ) : xlen σ 168 = 4913 := by unfold xlen; rw [h.2.1 168 (by decide) (by decide) (by decide)]; rfl
theorem sT169 {σ : XS} (h : Shp σ) : xT σ 169 = 20 := by unfold xT; rw [h.2.1 169 (by decide) (by decide) (by decide)]; rfl
theorem sl169 {σ : XS} (h : Shp σ) : xlen σ 169 = 289 := by unfold xlen; rw [h.2.1 169 (by decide) (by decide) (by decide)]; rfl
theorem sT170 {σ : XS} (h : Shp σ) : xT σ 170 = 0 := by unfold xT; rw [h.2.1 170 (by decide) (by decide) (by decide)]; rfl
theorem sT171 {σ : XS} (h : Shp σ) : xT σ 171 = 20 := by unfold xT; rw [h.2.1 171 (by decide) (by decide) (by decide)]; rfl
theorem sl171 {σ : XS} (h : Shp σ) : xlen σ 171 = 33 := by unfold xlen; rw [h.2.1 171 (by decide) (by decide) (by decide)]; rfl
theorem sT172 {σ : XS} (h : Shp σ) : xT σ 172 = 20 := by unfold xT; rw [h.2.1 172 (by decide) (by decide) (by decide)]; rfl
theorem sl172 {σ : XS} (h : Shp σ) : xlen σ 172 = 32 := by unfold xlen; rw [h.2.1 172 (by decide) (by decide) (by decide)]; rfl
theorem sT173 {σ : XS} (h : Shp σ) : xT σ 173 = 20 := by unfold xT; rw [h.2.1 173 (by decide) (by decide) (by decide)]; rfl
theorem sl173 {σ : XS} (h : Shp σ) : xlen σ 173 = 16 := by unfold xlen; rw [h.2.1 173 (by decide) (by decide) (by decide)]; rfl
theorem sT174 {σ : XS} (h : Shp σ) : xT σ 174 = 9 := by unfold xT; rw [h.2.1 174 (by decide) (by decide) (by decide)]; rfl
theorem sT175 {σ : XS} (h : Shp σ) : xT σ 175 = 20 := by unfold xT; rw [h.2.1 175 (by decide) (by decide) (by decide)]; rfl
theorem sl175 {σ : XS} (h : Shp σ) : xlen σ 175 = 1024 := by unfold xlen; rw [h.2.1 175 (by decide) (by decide) (by decide)]; rfl
theorem sT176 {σ : XS} (h : Shp σ) : xT σ 176 = 20 := by unfold xT; rw [h.2.1 176 (by decide) (by decide) (by decide)]; rfl
theorem sl176 {σ : XS} (h : Shp σ) : xlen σ 176 = 289 := by unfold xlen; rw [h.2.1 176 (by decide) (by decide) (by decide)]; rfl
theorem sT177 {σ : XS} (h : Shp σ) : xT σ 177 = 20 := by unfold xT; rw [h.2.1 177 (by decide) (by decide) (by decide)]; rfl
theorem sl177 {σ : XS} (h : Shp σ) : xlen σ 177 = 1024 := by unfold xlen; rw [h.2.1 177 (by decide) (by decide) (by decide)]; rfl
theorem sT178 {σ : XS} (h : Shp σ) : xT σ 178 = 20 := by unfold xT; rw [h.2.1 178 (by decide) (by decide) (by decide)]; rfl
theorem sl178 {σ : XS} (h : Shp σ) : xlen σ 178 = 1024 := by unfold xlen; rw [h.2.1 178 (by decide) (by decide) (by decide)]; rfl
theorem sT179 {σ : XS} (h : Shp σ) : xT σ 179 = 23 := by unfold xT; rw [h.2.1 179 (by decide) (by decide) (by decide)]; rfl
theorem sl179 {σ : XS} (h : Shp σ) : xlen σ 179 = 1024 := by unfold xlen; rw [h.2.1 179 (by decide) (by decide) (by decide)]; rfl
theorem sT180 {σ : XS} (h : Shp σ) : xT σ 180 = 10 := by unfold xT; rw [h.2.1 180 (by decide) (by decide) (by decide)]; rfl
theorem sT181 {σ : XS} (h : Shp σ) : xT σ 181 = 23 := by unfold xT; rw [h.2.1 181 (by decide) (by decide) (by decide)]; rfl
theorem sl181 {σ : XS} (h : Shp σ) : xlen σ 181 = 577 := by unfold xlen; rw [h.2.1 181 (by decide) (by decide) (by decide)]; rfl
theorem sT182 {σ : XS} (h : Shp σ) : xT σ 182 = 20 := by unfold xT; rw [h.2.1 182 (by decide) (by decide) (by decide)]; rfl
theorem sl182 {σ : XS} (h : Shp σ) : xlen σ 182 = 256 := by unfold xlen; rw [h.2.1 182 (by decide) (by decide) (by decide)]; rfl
theorem sT183 {σ : XS} (h : Shp σ) : xT σ 183 = 12 := by unfold xT; rw [h.2.1 183 (by decide) (by decide) (by decide)]; rfl
theorem sT184 {σ : XS} (h : Shp σ) : xT σ 184 = 21 := by unfold xT; rw [h.2.1 184 (by decide) (by decide) (by decide)]; rfl
theorem sl184 {σ : XS} (h : Shp σ) : xlen σ 184 = 2000 := by unfold xlen; rw [h.2.1 184 (by decide) (by decide) (by decide)]; rfl
theorem sT185 {σ : XS} (h : Shp σ) : xT σ 185 = 21 := by unfold xT; rw [h.2.1 185 (by decide) (by decide) (by decide)]; rfl
theorem sl185 {σ : XS} (h : Shp σ) : xlen σ 185 = 2000 := by unfold xlen; rw [h.2.1 185 (by decide) (by decide) (by decide)]; rfl
theorem sT186 {σ : XS} (h : Shp σ) : xT σ 186 = 20 := by unfold xT; rw [h.2.1 186 (by decide) (by decide) (by decide)]; rfl
theorem sl186 {σ : XS} (h : Shp σ) : xlen σ 186 = 403 := by unfold xlen; rw [h.2.1 186 (by decide) (by decide) (by decide)]; rfl
theorem sT187 {σ : XS} (h : Shp σ) : xT σ 187 = 20 := by unfold xT; rw [h.2.1 187 (by decide) (by decide) (by decide)]; rfl
theorem sl187 {σ : XS} (h : Shp σ) : xlen σ 187 = 403 := by unfold xlen; rw [h.2.1 187 (by decide) (by decide) (by decide)]; rfl
theorem sT188 {σ : XS} (h : Shp σ) : xT σ 188 = 20 := by unfold xT; rw [h.2.1 188 (by decide) (by decide) (by decide)]; rfl
theorem sl188 {σ : XS} (h : Shp σ) : xlen σ 188 = 403 := by unfold xlen; rw [h.2.1 188 (by decide) (by decide) (by decide)]; rfl
theorem sT189 {σ : XS} (h : Shp σ) : xT σ 189 = 23 := by unfold xT; rw [h.2.1 189 (by decide) (by decide) (by decide)]; rfl
theorem sl189 {σ : XS} (h : Shp σ) : xlen σ 189 = 403 := by unfold xlen; rw [h.2.1 189 (by decide) (by decide) (by decide)]; rfl
theorem sT190 {σ : XS} (h : Shp σ) : xT σ 190 = 23 := by unfold xT; rw [h.2.1 190 (by decide) (by decide) (by decide)]; rfl
theorem sl190 {σ : XS} (h : Shp σ) : xlen σ 190 = 11 := by unfold xlen; rw [h.2.1 190 (by decide) (by decide) (by decide)]; rfl
theorem sT191 {σ : XS} (h : Shp σ) : xT σ 191 = 20 := by unfold xT; rw [h.2.1 191 (by decide) (by decide) (by decide)]; rfl
theorem sl191 {σ : XS} (h : Shp σ) : xlen σ 191 = 66 := by unfold xlen; rw [h.2.1 191 (by decide) (by decide) (by decide)]; rfl
theorem sT192 {σ : XS} (h : Shp σ) : xT σ 192 = 20 := by unfold xT; rw [h.2.1 192 (by decide) (by decide) (by decide)]; rfl
theorem sl192 {σ : XS} (h : Shp σ) : xlen σ 192 = 66 := by unfold xlen; rw [h.2.1 192 (by decide) (by decide) (by decide)]; rfl
theorem sT193 {σ : XS} (h : Shp σ) : xT σ 193 = 20 := by unfold xT; rw [h.2.1 193 (by decide) (by decide) (by decide)]; rfl
theorem sl193 {σ : XS} (h : Shp σ) : xlen σ 193 = 2640 := by unfold xlen; rw [h.2.1 193 (by decide) (by decide) (by decide)]; rfl
theorem sT194 {σ : XS} (h : Shp σ) : xT σ 194 = 20 := by unfold xT; rw [h.2.1 194 (by decide) (by decide) (by decide)]; rfl
theorem sl194 {σ : XS} (h : Shp σ) : xlen σ 194 = 198 := by unfold xlen; rw [h.2.1 194 (by decide) (by decide) (by decide)]; rfl
theorem sT195 {σ : XS} (h : Shp σ) : xT σ 195 = 22 := by unfold xT; rw [h.2.1 195 (by decide) (by decide) (by decide)]; rfl
theorem sl195 {σ : XS} (h : Shp σ) : xlen σ 195 = 3 := by unfold xlen; rw [h.2.1 195 (by decide) (by decide) (by decide)]; rfl
theorem sT196 {σ : XS} (h : Shp σ) : xT σ 196 = 20 := by unfold xT; rw [h.2.1 196 (by decide) (by decide) (by decide)]; rfl
theorem sl196 {σ : XS} (h : Shp σ) : xlen σ 196 = 65536 := by unfold xlen; rw [h.2.1 196 (by decide) (by decide) (by decide)]; rfl
theorem sT197 {σ : XS} (h : Shp σ) : xT σ 197 = 20 := by unfold xT; rw [h.2.1 197 (by decide) (by decide) (by decide)]; rfl
theorem sl197 {σ : XS} (h : Shp σ) : xlen σ 197 = 301 := by unfold xlen; rw [h.2.1 197 (by decide) (by decide) (by decide)]; rfl
theorem sT198 {σ : XS} (h : Shp σ) : xT σ 198 = 20 := by unfold xT; rw [h.2.1 198 (by decide) (by decide) (by decide)]; rfl
theorem sl198 {σ : XS} (h : Shp σ) : xlen σ 198 = 301 := by unfold xlen; rw [h.2.1 198 (by decide) (by decide) (by decide)]; rfl
theorem sT199 {σ : XS} (h : Shp σ) : xT σ 199 = 20 := by unfold xT; rw [h.2.1 199 (by decide) (by decide) (by decide)]; rfl
theorem sl199 {σ : XS} (h : Shp σ) : xlen σ 199 = 66 := by unfold xlen; rw [h.2.1 199 (by decide) (by decide) (by decide)]; rfl
theorem sT200 {σ : XS} (h : Shp σ) : xT σ 200 = 20 := by unfold xT; rw [h.2.1 200 (by decide) (by decide) (by decide)]; rfl
theorem sl200 {σ : XS} (h : Shp σ) : xlen σ 200 = 301 := by unfold xlen; rw [h.2.1 200 (by decide) (by decide) (by decide)]; rfl
theorem sT201 {σ : XS} (h : Shp σ) : xT σ 201 = 23 := by unfold xT; rw [h.2.1 201 (by decide) (by decide) (by decide)]; rfl
theorem sl201 {σ : XS} (h : Shp σ) : xlen σ 201 = 601 := by unfold xlen; rw [h.2.1 201 (by decide) (by decide) (by decide)]; rfl
theorem sT202 {σ : XS} (h : Shp σ) : xT σ 202 = 20 := by unfold xT; rw [h.2.1 202 (by decide) (by decide) (by decide)]; rfl
theorem sl202 {σ : XS} (h : Shp σ) : xlen σ 202 = 1024 := by unfold xlen; rw [h.2.1 202 (by decide) (by decide) (by decide)]; rfl
theorem sT203 {σ : XS} (h : Shp σ) : xT σ 203 = 22 := by unfold xT; rw [h.2.1 203 (by decide) (by decide) (by decide)]; rfl
theorem sl203 {σ : XS} (h : Shp σ) : xlen σ 203 = 1024 := by unfold xlen; rw [h.2.1 203 (by decide) (by decide) (by decide)]; rfl
theorem sT204 {σ : XS} (h : Shp σ) : xT σ 204 = 20 := by unfold xT; rw [h.2.1 204 (by decide) (by decide) (by decide)]; rfl
theorem sl204 {σ : XS} (h : Shp σ) : xlen σ 204 = 1024 := by unfold xlen; rw [h.2.1 204 (by decide) (by decide) (by decide)]; rfl
theorem sT205 {σ : XS} (h : Shp σ) : xT σ 205 = 23 := by unfold xT; rw [h.2.1 205 (by decide) (by decide) (by decide)]; rfl
theorem sl205 {σ : XS} (h : Shp σ) : xlen σ 205 = 1024 := by unfold xlen; rw [h.2.1 205 (by decide) (by decide) (by decide)]; rfl
theorem sT206 {σ : XS} (h : Shp σ) : xT σ 206 = 20 := by unfold xT; rw [h.2.1 206 (by decide) (by decide) (by decide)]; rfl
theorem sl206 {σ : XS} (h : Shp σ) : xlen σ 206 = 256 := by unfold xlen; rw [h.2.1 206 (by decide) (by decide) (by decide)]; rfl
theorem sR1_0 {σ : XS} (h : Shp σ) : xR σ 1 0 = 3 := h.2.2 1 (by decide) 0 (by decide)
theorem sR1_1 {σ : XS} (h : Shp σ) : xR σ 1 1 = 2 := h.2.2 1 (by decide) 1 (by decide)
theorem sR1_2 {σ : XS} (h : Shp σ) : xR σ 1 2 = 11 := h.2.2 1 (by decide) 2 (by decide)
theorem sR1_3 {σ : XS} (h : Shp σ) : xR σ 1 3 = 16 := h.2.2 1 (by decide) 3 (by decide)
theorem sR1_4 {σ : XS} (h : Shp σ) : xR σ 1 4 = 19 := h.2.2 1 (by decide) 4 (by decide)
theorem sR1_5 {σ : XS} (h : Shp σ) : xR σ 1 5 = 141 := h.2.2 1 (by decide) 5 (by decide)
theorem sR1_6 {σ : XS} (h : Shp σ) : xR σ 1 6 = 157 := h.2.2 1 (by decide) 6 (by decide)
theorem sR1_7 {σ : XS} (h : Shp σ) : xR σ 1 7 = 161 := h.2.2 1 (by decide) 7 (by decide)
theorem sR1_8 {σ : XS} (h : Shp σ) : xR σ 1 8 = 165 := h.2.2 1 (by decide) 8 (by decide)
theorem sR1_9 {σ : XS} (h : Shp σ) : xR σ 1 9 = 170 := h.2.2 1 (by decide) 9 (by decide)
theorem sR1_10 {σ : XS} (h : Shp σ) : xR σ 1 10 = 174 := h.2.2 1 (by decide) 10 (by decide)
theorem sR1_11 {σ : XS} (h : Shp σ) : xR σ 1 11 = 180 := h.2.2 1 (by decide) 11 (by decide)
theorem sR1_12 {σ : XS} (h : Shp σ) : xR σ 1 12 = 181 := h.2.2 1 (by decide) 12 (by decide)
theorem sR1_13 {σ : XS} (h : Shp σ) : xR σ 1 13 = 182 := h.2.2 1 (by decide) 13 (by decide)
theorem sR2_0 {σ : XS} (h : Shp σ) : xR σ 2 0 = 3 := h.2.2 2 (by decide) 0 (by decide)
theorem sR2_1 {σ : XS} (h : Shp σ) : xR σ 2 1 = 8 := h.2.2 2 (by decide) 1 (by decide)
theorem sR3_0 {σ : XS} (h : Shp σ) : xR σ 3 0 = 4 := h.2.2 3 (by decide) 0 (by decide)
theorem sR3_1 {σ : XS} (h : Shp σ) : xR σ 3 1 = 5 := h.2.2 3 (by decide) 1 (by decide)
theorem sR3_2 {σ : XS} (h : Shp σ) : xR σ 3 2 = 6 := h.2.2 3 (by decide) 2 (by decide)
theorem sR3_3 {σ : XS} (h : Shp σ) : xR σ 3 3 = 7 := h.2.2 3 (by decide) 3 (by decide)
theorem sR8_0 {σ : XS} (h : Shp σ) : xR σ 8 0 = 9 := h.2.2 8 (by decide) 0 (by decide)
theorem sR8_1 {σ : XS} (h : Shp σ) : xR σ 8 1 = 10 := h.2.2 8 (by decide) 1 (by decide)
theorem sR11_0 {σ : XS} (h : Shp σ) : xR σ 11 0 = 12 := h.2.2 11 (by decide) 0 (by decide)
theorem sR11_1 {σ : XS} (h : Shp σ) : xR σ 11 1 = 13 := h.2.2 11 (by decide) 1 (by decide)
theorem sR11_2 {σ : XS} (h : Shp σ) : xR σ 11 2 = 14 := h.2.2 11 (by decide) 2 (by decide)
theorem sR11_3 {σ : XS} (h : Shp σ) : xR σ 11 3 = 15 := h.2.2 11 (by decide) 3 (by decide)
theorem sR16_0 {σ : XS} (h : Shp σ) : xR σ 16 0 = 17 := h.2.2 16 (by decide) 0 (by decide)
theorem sR16_1 {σ : XS} (h : Shp σ) : xR σ 16 1 = 18 := h.2.2 16 (by decide) 1 (by decide)
theorem sR19_0 {σ : XS} (h : Shp σ) : xR σ 19 0 = 20 := h.2.2 19 (by decide) 0 (by decide)
theorem sR20_0 {σ : XS} (h : Shp σ) : xR σ 20 0 = 21 := h.2.2 20 (by decide) 0 (by decide)
theorem sR20_1 {σ : XS} (h : Shp σ) : xR σ 20 1 = 24 := h.2.2 20 (by decide) 1 (by decide)
theorem sR20_2 {σ : XS} (h : Shp σ) : xR σ 20 2 = 27 := h.2.2 20 (by decide) 2 (by decide)
theorem sR20_3 {σ : XS} (h : Shp σ) : xR σ 20 3 = 30 := h.2.2 20 (by decide) 3 (by decide)
theorem sR20_4 {σ : XS} (h : Shp σ) : xR σ 20 4 = 33 := h.2.2 20 (by decide) 4 (by decide)
theorem sR20_5 {σ : XS} (h : Shp σ) : xR σ 20 5 = 36 := h.2.2 20 (by decide) 5 (by decide)
theorem sR20_6 {σ : XS} (h : Shp σ) : xR σ 20 6 = 39 := h.2.2 20 (by decide) 6 (by decide)
theorem sR20_7 {σ : XS} (h : Shp σ) : xR σ 20 7 = 42 := h.2.2 20 (by decide) 7 (by decide)
theorem sR20_8 {σ : XS} (h : Shp σ) : xR σ 20 8 = 45 := h.2.2 20 (by decide) 8 (by decide)
theorem sR20_9 {σ : XS} (h : Shp σ) : xR σ 20 9 = 48 := h.2.2 20 (by decide) 9 (by decide)
theorem sR20_10 {σ : XS} (h : Shp σ) : xR σ 20 10 = 51 := h.2.2 20 (by decide) 10 (by decide)
theorem sR20_11 {σ : XS} (h : Shp σ) : xR σ 20 11 = 54 := h.2.2 20 (by decide) 11 (by decide)
theorem sR20_12 {σ : XS} (h : Shp σ) : xR σ 20 12 = 57 := h.2.2 20 (by decide) 12 (by decide)
theorem sR20_13 {σ : XS} (h : Shp σ) : xR σ 20 13 = 60 := h.2.2 20 (by decide) 13 (by decide)
theorem sR20_14 {σ : XS} (h : Shp σ) : xR σ 20 14 = 63 := h.2.2 20 (by decide) 14 (by decide)
theorem sR20_15 {σ : XS} (h : Shp σ) : xR σ 20 15 = 66 := h.2.2 20 (by decide) 15 (by decide)
theorem sR20_16 {σ : XS} (h : Shp σ) : xR σ 20 16 = 69 := h.2.2 20 (by decide) 16 (by decide)
theorem sR20_17 {σ : XS} (h : Shp σ) : xR σ 20 17 = 72 := h.2.2 20 (by decide) 17 (by decide)
theorem sR20_18 {σ : XS} (h : Shp σ) : xR σ 20 18 = 75 := h.2.2 20 (by decide) 18 (by decide)
theorem sR20_19 {σ : XS} (h : Shp σ) : xR σ 20 19 = 78 := h.2.2 20 (by decide) 19 (by decide)
theorem sR20_20 {σ : XS} (h : Shp σ) : xR σ 20 20 = 81 := h.2.2 20 (by decide) 20 (by decide)
theorem sR20_21 {σ : XS} (h : Shp σ) : xR σ 20 21 = 84 := h.2.2 20 (by decide) 21 (by decide)
theorem sR20_22 {σ : XS} (h : Shp σ) : xR σ 20 22 = 87 := h.2.2 20 (by decide) 22 (by decide)
theorem sR20_23 {σ : XS} (h : Shp σ) : xR σ 20 23 = 90 := h.2.2 20 (by decide) 23 (by decide)
theorem sR20_24 {σ : XS} (h : Shp σ) : xR σ 20 24 = 93 := h.2.2 20 (by decide) 24 (by decide)
theorem sR20_25 {σ : XS} (h : Shp σ) : xR σ 20 25 = 96 := h.2.2 20 (by decide) 25 (by decide)
theorem sR20_26 {σ : XS} (h : Shp σ) : xR σ 20 26 = 99 := h.2.2 20 (by decide) 26 (by decide)
theorem sR20_27 {σ : XS} (h : Shp σ) : xR σ 20 27 = 102 := h.2.2 20 (by decide) 27 (by decide)
theorem sR20_28 {σ : XS} (h : Shp σ) : xR σ 20 28 = 105 := h.2.2 20 (by decide) 28 (by decide)
theorem sR20_29 {σ : XS} (h : Shp σ) : xR σ 20 29 = 108 := h.2.2 20 (by decide) 29 (by decide)
theorem sR20_30 {σ : XS} (h : Shp σ) : xR σ 20 30 = 111 := h.2.2 20 (by decide) 30 (by decide)
theorem sR20_31 {σ : XS} (h : Shp σ) : xR σ 20 31 = 114 := h.2.2 20 (by decide) 31 (by decide)
theorem sR20_32 {σ : XS} (h : Shp σ) : xR σ 20 32 = 117 := h.2.2 20 (by decide) 32 (by decide)
theorem sR20_33 {σ : XS} (h : Shp σ) : xR σ 20 33 = 120 := h.2.2 20 (by decide) 33 (by decide)
theorem sR20_34 {σ : XS} (h : Shp σ) : xR σ 20 34 = 123 := h.2.2 20 (by decide) 34 (by decide)
theorem sR20_35 {σ : XS} (h : Shp σ) : xR σ 20 35 = 126 := h.2.2 20 (by decide) 35 (by decide)
theorem sR20_36 {σ : XS} (h : Shp σ) : xR σ 20 36 = 129 := h.2.2 20 (by decide) 36 (by decide)
theorem sR20_37 {σ : XS} (h : Shp σ) : xR σ 20 37 = 132 := h.2.2 20 (by decide) 37 (by decide)
theorem sR20_38 {σ : XS} (h : Shp σ) : xR σ 20 38 = 135 := h.2.2 20 (by decide) 38 (by decide)
theorem sR20_39 {σ : XS} (h : Shp σ) : xR σ 20 39 = 138 := h.2.2 20 (by decide) 39 (by decide)
theorem sR21_0 {σ : XS} (h : Shp σ) : xR σ 21 0 = 22 := h.2.2 21 (by decide) 0 (by decide)
theorem sR21_1 {σ : XS} (h : Shp σ) : xR σ 21 1 = 23 := h.2.2 21 (by decide) 1 (by decide)
theorem sR24_0 {σ : XS} (h : Shp σ) : xR σ 24 0 = 25 := h.2.2 24 (by decide) 0 (by decide)
theorem sR24_1 {σ : XS} (h : Shp σ) : xR σ 24 1 = 26 := h.2.2 24 (by decide) 1 (by decide)
theorem sR27_0 {σ : XS} (h : Shp σ) : xR σ 27 0 = 28 := h.2.2 27 (by decide) 0 (by decide)
theorem sR27_1 {σ : XS} (h : Shp σ) : xR σ 27 1 = 29 := h.2.2 27 (by decide) 1 (by decide)
theorem sR30_0 {σ : XS} (h : Shp σ) : xR σ 30 0 = 31 := h.2.2 30 (by decide) 0 (by decide)
theorem sR30_1 {σ : XS} (h : Shp σ) : xR σ 30 1 = 32 := h.2.2 30 (by decide) 1 (by decide)
theorem sR33_0 {σ : XS} (h : Shp σ) : xR σ 33 0 = 34 := h.2.2 33 (by decide) 0 (by decide)
theorem sR33_1 {σ : XS} (h : Shp σ) : xR σ 33 1 = 35 := h.2.2 33 (by decide) 1 (by decide)
theorem sR36_0 {σ : XS} (h : Shp σ) : xR σ 36 0 = 37 := h.2.2 36 (by decide) 0 (by decide)
theorem sR36_1 {σ : XS} (h : Shp σ) : xR σ 36 1 = 38 := h.2.2 36 (by decide) 1 (by decide)
theorem sR39_0 {σ : XS} (h : Shp σ) : xR σ 39 0 = 40 := h.2.2 39 (by decide) 0 (by decide)
theorem sR39_1 {σ : XS} (h : Shp σ) : xR σ 39 1 = 41 := h.2.2 39 (by decide) 1 (by decide)
theorem sR42_0 {σ : XS} (h : Shp σ) : xR σ 42 0 = 43 := h.2.2 42 (by decide) 0 (by decide)
theorem sR42_1 {σ : XS} (h : Shp σ) : xR σ 42 1 = 44 := h.2.2 42 (by decide) 1 (by decide)
theorem sR45_0 {σ : XS} (h : Shp σ) : xR σ 45 0 = 46 := h.2.2 45 (by decide) 0 (by decide)
theorem sR45_1 {σ : XS} (h : Shp σ) : xR σ 45 1 = 47 := h.2.2 45 (by decide) 1 (by decide)
theorem sR48_0 {σ : XS} (h : Shp σ) : xR σ 48 0 = 49 := h.2.2 48 (by decide) 0 (by decide)
theorem sR48_1 {σ : XS} (h : Shp σ) : xR σ 48 1 = 50 := h.2.2 48 (by decide) 1 (by decide)
theorem sR51_0 {σ : XS} (h : Shp σ) : xR σ 51 0 = 52 := h.2.2 51 (by decide) 0 (by decide)
theorem sR51_1 {σ : XS} (h : Shp σ) : xR σ 51 1 = 53 := h.2.2 51 (by decide) 1 (by decide)
theorem sR54_0 {σ : XS} (h : Shp σ) : xR σ 54 0 = 55 := h.2.2 54 (by decide) 0 (by decide)
theorem sR54_1 {σ : XS} (h : Shp σ) : xR σ 54 1 = 56 := h.2.2 54 (by decide) 1 (by decide)
theorem sR57_0 {σ : XS} (h : Shp σ) : xR σ 57 0 = 58 := h.2.2 57 (by decide) 0 (by decide)
theorem sR57_1 {σ : XS} (h : Shp σ) : xR σ 57 1 = 59 := h.2.2 57 (by decide) 1 (by decide)
theorem sR60_0 {σ : XS} (h : Shp σ) : xR σ 60 0 = 61 := h.2.2 60 (by decide) 0 (by decide)
theorem sR60_1 {σ : XS} (h : Shp σ) : xR σ 60 1 = 62 := h.2.2 60 (by decide) 1 (by decide)
theorem sR63_0 {σ : XS} (h : Shp σ) : xR σ 63 0 = 64 := h.2.2 63 (by decide) 0 (by decide)
theorem sR63_1 {σ : XS} (h : Shp σ) : xR σ 63 1 = 65 := h.2.2 63 (by decide) 1 (by decide)
theorem sR66_0 {σ : XS} (h : Shp σ) : xR σ 66 0 = 67 := h.2.2 66 (by decide) 0 (by decide)
theorem sR66_1 {σ : XS} (h : Shp σ) : xR σ 66 1 = 68 := h.2.2 66 (by decide) 1 (by decide)
theorem sR69_0 {σ : XS} (h : Shp σ) : xR σ 69 0 = 70 := h.2.2 69 (by decide) 0 (by decide)
theorem sR69_1 {σ : XS} (h : Shp σ) : xR σ 69 1 = 71 := h.2.2 69 (by decide) 1 (by decide)
theorem sR72_0 {σ : XS} (h : Shp σ) : xR σ 72 0 = 73 := h.2.2 72 (by decide) 0 (by decide)
theorem sR72_1 {σ : XS} (h : Shp σ) : xR σ 72 1 = 74 := h.2.2 72 (by decide) 1 (by decide)
theorem sR75_0 {σ : XS} (h : Shp σ) : xR σ 75 0 = 76 := h.2.2 75 (by decide) 0 (by decide)
theorem sR75_1 {σ : XS} (h : Shp σ) : xR σ 75 1 = 77 := h.2.2 75 (by decide) 1 (by decide)
theorem sR78_0 {σ : XS} (h : Shp σ) : xR σ 78 0 = 79 := h.2.2 78 (by decide) 0 (by decide)
theorem sR78_1 {σ : XS} (h : Shp σ) : xR σ 78 1 = 80 := h.2.2 78 (by decide) 1 (by decide)
theorem sR81_0 {σ : XS} (h : Shp σ) : xR σ 81 0 = 82 := h.2.2 81 (by decide) 0 (by decide)
theorem sR81_1 {σ : XS} (h : Shp σ) : xR σ 81 1 = 83 := h.2.2 81 (by decide) 1 (by decide)
theorem sR84_0 {σ : XS} (h : Shp σ) : xR σ 84 0 = 85 := h.2.2 84 (by decide) 0 (by decide)
theorem sR84_1 {σ : XS} (h : Shp σ) : xR σ 84 1 = 86 := h.2.2 84 (by decide) 1 (by decide)
theorem sR87_0 {σ : XS} (h : Shp σ) : xR σ 87 0 = 88 := h.2.2 87 (by decide) 0 (by decide)
theorem sR87_1 {σ : XS} (h : Shp σ) : xR σ 87 1 = 89 := h.2.2 87 (by decide) 1 (by decide)
theorem sR90_0 {σ : XS} (h : Shp σ) : xR σ 90 0 = 91 := h.2.2 90 (by decide) 0 (by decide)
theorem sR90_1 {σ : XS} (h : Shp σ) : xR σ 90 1 = 92 := h.2.2 90 (by decide) 1 (by decide)
theorem sR93_0 {σ : XS} (h : Shp σ) : xR σ 93 0 = 94 := h.2.2 93 (by decide) 0 (by decide)
theorem sR93_1 {σ : XS} (h : Shp σ) : xR σ 93 1 = 95 := h.2.2 93 (by decide) 1 (by decide)
theorem sR96_0 {σ : XS} (h : Shp σ) : xR σ 96 0 = 97 := h.2.2 96 (by decide) 0 (by decide)
theorem sR96_1 {σ : XS} (h : Shp σ) : xR σ 96 1 = 98 := h.2.2 96 (by decide) 1 (by decide)
theorem sR99_0 {σ : XS} (h : Shp σ) : xR σ 99 0 = 100 := h.2.2 99 (by decide) 0 (by decide)
theorem sR99_1 {σ : XS} (h : Shp σ) : xR σ 99 1 = 101 := h.2.2 99 (by decide) 1 (by decide)
theorem sR102_0 {σ : XS} (h : Shp σ) : xR σ 102 0 = 103 := h.2.2 102 (by decide) 0 (by decide)
theorem sR102_1 {σ : XS} (h : Shp σ) : xR σ 102 1 = 104 := h.2.2 102 (by decide) 1 (by decide)
theorem sR105_0 {σ : XS} (h : Shp σ) : xR σ 105 0 = 106 := h.2.2 105 (by decide) 0 (by decide)
theorem sR105_1 {σ : XS} (h : Shp σ) : xR σ 105 1 = 107 := h.2.2 105 (by decide) 1 (by decide)
theorem sR108_0 {σ : XS} (h : Shp σ) : xR σ 108 0 = 109 := h.2.2 108 (by decide) 0 (by decide)
theorem sR108_1 {σ : XS} (h : Shp σ) : xR σ 108 1 = 110 := h.2.2 108 (by decide) 1 (by decide)
theorem sR111_0 {σ : XS} (h : Shp σ) : xR σ 111 0 = 112 := h.2.2 111 (by decide) 0 (by decide)
theorem sR111_1 {σ : XS} (h : Shp σ) : xR σ 111 1 = 113 := h.2.2 111 (by decide) 1 (by decide)
theorem sR114_0 {σ : XS} (h : Shp σ) : xR σ 114 0 = 115 := h.2.2 114 (by decide) 0 (by decide)
theorem sR114_1 {σ : XS} (h : Shp σ) : xR σ 114 1 = 116 := h.2.2 114 (by decide) 1 (by decide)
theorem sR117_0 {σ : XS} (h : Shp σ) : xR σ 117 0 = 118 := h.2.2 117 (by decide) 0 (by decide)
theorem sR117_1 {σ : XS} (h : Shp σ) : xR σ 117 1 = 119 := h.2.2 117 (by decide) 1 (by decide)
theorem sR120_0 {σ : XS} (h : Shp σ) : xR σ 120 0 = 121 := h.2.2 120 (by decide) 0 (by decide)
theorem sR120_1 {σ : XS} (h : Shp σ) : xR σ 120 1 = 122 := h.2.2 120 (by decide) 1 (by decide)
theorem sR123_0 {σ : XS} (h : Shp σ) : xR σ 123 0 = 124 := h.2.2 123 (by decide) 0 (by decide)
theorem sR123_1 {σ : XS} (h : Shp σ) : xR σ 123 1 = 125 := h.2.2 123 (by decide) 1 (by decide)
theorem sR126_0 {σ : XS} (h : Shp σ) : xR σ 126 0 = 127 := h.2.2 126 (by decide) 0 (by decide)
theorem sR126_1 {σ : XS} (h : Shp σ) : xR σ 126 1 = 128 := h.2.2 126 (by decide) 1 (by decide)
theorem sR129_0 {σ : XS} (h : Shp σ) : xR σ 129 0 = 130 := h.2.2 129 (by decide) 0 (by decide)
theorem sR129_1 {σ : XS} (h : Shp σ) : xR σ 129 1 = 131 := h.2.2 129 (by decide) 1 (by decide)
theorem sR132_0 {σ : XS} (h : Shp σ) : xR σ 132 0 = 133 := h.2.2 132 (by decide) 0 (by decide)
theorem sR132_1 {σ : XS} (h : Shp σ) : xR σ 132 1 = 134 := h.2.2 132 (by decide) 1 (by decide)
theorem sR135_0 {σ : XS} (h : Shp σ) : xR σ 135 0 = 136 := h.2.2 135 (by decide) 0 (by decide)
theorem sR135_1 {σ : XS} (h : Shp σ) : xR σ 135 1 = 137 := h.2.2 135 (by decide) 1 (by decide)
theorem sR138_0 {σ : XS} (h : Shp σ) : xR σ 138 0 = 139 := h.2.2 138 (by decide) 0 (by decide)
theorem sR138_1 {σ : XS} (h : Shp σ) : xR σ 138 1 = 140 := h.2.2 138 (by decide) 1 (by decide)
theorem sR141_0 {σ : XS} (h : Shp σ) : xR σ 141 0 = 142 := h.2.2 141 (by decide) 0 (by decide)
theorem sR141_1 {σ : XS} (h : Shp σ) : xR σ 141 1 = 147 := h.2.2 141 (by decide) 1 (by decide)
theorem sR141_2 {σ : XS} (h : Shp σ) : xR σ 141 2 = 152 := h.2.2 141 (by decide) 2 (by decide)
theorem sR142_0 {σ : XS} (h : Shp σ) : xR σ 142 0 = 143 := h.2.2 142 (by decide) 0 (by decide)
theorem sR142_1 {σ : XS} (h : Shp σ) : xR σ 142 1 = 146 := h.2.2 142 (by decide) 1 (by decide)
theorem sR143_0 {σ : XS} (h : Shp σ) : xR σ 143 0 = 144 := h.2.2 143 (by decide) 0 (by decide)
theorem sR143_1 {σ : XS} (h : Shp σ) : xR σ 143 1 = 145 := h.2.2 143 (by decide) 1 (by decide)
theorem sR147_0 {σ : XS} (h : Shp σ) : xR σ 147 0 = 148 := h.2.2 147 (by decide) 0 (by decide)
theorem sR147_1 {σ : XS} (h : Shp σ) : xR σ 147 1 = 151 := h.2.2 147 (by decide) 1 (by decide)
theorem sR148_0 {σ : XS} (h : Shp σ) : xR σ 148 0 = 149 := h.2.2 148 (by decide) 0 (by decide)
theorem sR148_1 {σ : XS} (h : Shp σ) : xR σ 148 1 = 150 := h.2.2 148 (by decide) 1 (by decide)
theorem sR152_0 {σ : XS} (h : Shp σ) : xR σ 152 0 = 153 := h.2.2 152 (by decide) 0 (by decide)
theorem sR152_1 {σ : XS} (h : Shp σ) : xR σ 152 1 = 156 := h.2.2 152 (by decide) 1 (by decide)
theorem sR153_0 {σ : XS} (h : Shp σ) : xR σ 153 0 = 154 := h.2.2 153 (by decide) 0 (by decide)
theorem sR153_1 {σ : XS} (h : Shp σ) : xR σ 153 1 = 155 := h.2.2 153 (by decide) 1 (by decide)
theorem sR157_0 {σ : XS} (h : Shp σ) : xR σ 157 0 = 158 := h.2.2 157 (by decide) 0 (by decide)
theorem sR157_1 {σ : XS} (h : Shp σ) : xR σ 157 1 = 159 := h.2.2 157 (by decide) 1 (by decide)
theorem sR161_0 {σ : XS} (h : Shp σ) : xR σ 161 0 = 162 := h.2.2 161 (by decide) 0 (by decide)
theorem sR161_1 {σ : XS} (h : Shp σ) : xR σ 161 1 = 163 := h.2.2 161 (by decide) 1 (by decide)
theorem sR165_0 {σ : XS} (h : Shp σ) : xR σ 165 0 = 166 := h.2.2 165 (by decide) 0 (by decide)
theorem sR165_1 {σ : XS} (h : Shp σ) : xR σ 165 1 = 167 := h.2.2 165 (by decide) 1 (by decide)
theorem sR165_2 {σ : XS} (h : Shp σ) : xR σ 165 2 = 168 := h.2.2 165 (by decide) 2 (by decide)
theorem sR165_3 {σ : XS} (h : Shp σ) : xR σ 165 3 = 169 := h.2.2 165 (by decide) 3 (by decide)
theorem sR170_0 {σ : XS} (h : Shp σ) : xR σ 170 0 = 171 := h.2.2 170 (by decide) 0 (by decide)
theorem sR170_1 {σ : XS} (h : Shp σ) : xR σ 170 1 = 172 := h.2.2 170 (by decide) 1 (by decide)
theorem sR170_2 {σ : XS} (h : Shp σ) : xR σ 170 2 = 173 := h.2.2 170 (by decide) 2 (by decide)
theorem sR174_0 {σ : XS} (h : Shp σ) : xR σ 174 0 = 175 := h.2.2 174 (by decide) 0 (by decide)
theorem sR174_1 {σ : XS} (h : Shp σ) : xR σ 174 1 = 176 := h.2.2 174 (by decide) 1 (by decide)
theorem sR174_2 {σ : XS} (h : Shp σ) : xR σ 174 2 = 177 := h.2.2 174 (by decide) 2 (by decide)
theorem sR174_3 {σ : XS} (h : Shp σ) : xR σ 174 3 = 178 := h.2.2 174 (by decide) 3 (by decide)
theorem sR174_4 {σ : XS} (h : Shp σ) : xR σ 174 4 = 179 := h.2.2 174 (by decide) 4 (by decide)
theorem sR183_1 {σ : XS} (h : Shp σ) : xR σ 183 1 = 184 := h.2.2 183 (by decide) 1 (by decide)
theorem sR183_3 {σ : XS} (h : Shp σ) : xR σ 183 3 = 185 := h.2.2 183 (by decide) 3 (by decide)
theorem sR183_5 {σ : XS} (h : Shp σ) : xR σ 183 5 = 186 := h.2.2 183 (by decide) 5 (by decide)
theorem sR183_6 {σ : XS} (h : Shp σ) : xR σ 183 6 = 187 := h.2.2 183 (by decide) 6 (by decide)
theorem sR183_7 {σ : XS} (h : Shp σ) : xR σ 183 7 = 188 := h.2.2 183 (by decide) 7 (by decide)
theorem sR183_8 {σ : XS} (h : Shp σ) : xR σ 183 8 = 189 := h.2.2 183 (by decide) 8 (by decide)
theorem sR183_9 {σ : XS} (h : Shp σ) : xR σ 183 9 = 190 := h.2.2 183 (by decide) 9 (by decide)
theorem sR183_21 {σ : XS} (h : Shp σ) : xR σ 183 21 = 191 := h.2.2 183 (by decide) 21 (by decide)
theorem sR183_26 {σ : XS} (h : Shp σ) : xR σ 183 26 = 192 := h.2.2 183 (by decide) 26 (by decide)
theorem sR183_27 {σ : XS} (h : Shp σ) : xR σ 183 27 = 193 := h.2.2 183 (by decide) 27 (by decide)
theorem sR183_30 {σ : XS} (h : Shp σ) : xR σ 183 30 = 194 := h.2.2 183 (by decide) 30 (by decide)
theorem sR183_31 {σ : XS} (h : Shp σ) : xR σ 183 31 = 195 := h.2.2 183 (by decide) 31 (by decide)
theorem sR183_33 {σ : XS} (h : Shp σ) : xR σ 183 33 = 196 := h.2.2 183 (by decide) 33 (by decide)
theorem sR183_34 {σ : XS} (h : Shp σ) : xR σ 183 34 = 197 := h.2.2 183 (by decide) 34 (by decide)
theorem sR183_36 {σ : XS} (h : Shp σ) : xR σ 183 36 = 198 := h.2.2 183 (by decide) 36 (by decide)
theorem sR183_37 {σ : XS} (h : Shp σ) : xR σ 183 37 = 199 := h.2.2 183 (by decide) 37 (by decide)
theorem sR183_38 {σ : XS} (h : Shp σ) : xR σ 183 38 = 200 := h.2.2 183 (by decide) 38 (by decide)
theorem sR183_39 {σ : XS} (h : Shp σ) : xR σ 183 39 = 201 := h.2.2 183 (by decide) 39 (by decide)
theorem sR183_40 {σ : XS} (h : Shp σ) : xR σ 183 40 = 202 := h.2.2 183 (by decide) 40 (by decide)
theorem sR183_41 {σ : XS} (h : Shp σ) : xR σ 183 41 = 203 := h.2.2 183 (by decide) 41 (by decide)
theorem sR183_42 {σ : XS} (h : Shp σ) : xR σ 183 42 = 204 := h.2.2 183 (by decide) 42 (by decide)
theorem sR183_43 {σ : XS} (h : Shp σ) : xR σ 183 43 = 205 := h.2.2 183 (by decide) 43 (by decide)
theorem sR183_44 {σ : XS} (h : Shp σ) : xR σ 183 44 = 206 := h.2.2 183 (by decide) 44 (by decide)
set_option maxRecDepth 100000 in
theorem hB_n : xn hB + 1 = 183 := by decide +kernel
theorem law_init (L : Nat) (xs : Nat → Int32) : f_L_law L xs xs0 = xloop (f_L_law_b18 L xs 1 183) (0, hI0) := by
  show f_L_law_j3 L xs hA0 1 = _
  unfold f_L_law_j3
  rw [xck_ok (c := 11) (by decide +kernel), Option.bind_some, init11, Option.bind_some]
  unfold f_L_law_j7 xnO
  rw [Option.bind_some]
  dsimp only
  unfold f_L_law_j11
  rw [xck_ok (c := 12) (by rw [hT_new, if_pos rfl]), Option.bind_some, init12, Option.bind_some, hB_n]
  rfl
