/-! reading and writing ints of the known objects -/
def xw (σ : XS) (I : Nat → Nat → Int32) : XS := (σ.1, I, σ.2.2)
theorem xw_self (σ : XS) : xw σ (xI σ) = σ := rfl
theorem xw_w (σ : XS) (I J : Nat → Nat → Int32) : xw (xw σ I) J = xw σ J := rfl
def xur (I : Nat → Nat → Int32) (b : Nat) (f : Nat → Int32) : Nat → Nat → Int32 := fun c j => if c = b then f j else I c j
theorem xur_at (I : Nat → Nat → Int32) (b : Nat) (f : Nat → Int32) (c j : Nat) : xur I b f c j = if c = b then f j else I c j := rfl
theorem xup_at (I : Nat → Nat → Int32) (a j : Nat) (v : Int32) (b k : Nat) : xup I a j v b k = if b = a ∧ k = j then v else I b k := rfl
theorem xw_uI (σ : XS) (I : Nat → Nat → Int32) (a j : Nat) (v : Int32) : xuI (xw σ I) a j v = xw σ (xup I a j v) := rfl
theorem xw_ur (σ : XS) (I : Nat → Nat → Int32) (b : Nat) (f : Nat → Int32) : xurI (xw σ I) b f = xw σ (xur I b f) := rfl
theorem xw_I (σ : XS) (I : Nat → Nat → Int32) : xI (xw σ I) = I := rfl
theorem xw_T (σ : XS) (I : Nat → Nat → Int32) : xT (xw σ I) = xT σ := rfl
theorem xw_l (σ : XS) (I : Nat → Nat → Int32) : xlen (xw σ I) = xlen σ := rfl
theorem xw_R (σ : XS) (I : Nat → Nat → Int32) : xR (xw σ I) = xR σ := rfl
theorem xw_gR (σ : XS) (I : Nat → Nat → Int32) (a c j : Nat) : xgR (xw σ I) a c j = xgR σ a c j := rfl
theorem xw_gN (σ : XS) (I : Nat → Nat → Int32) (a c j : Nat) : xgN (xw σ I) a c j = xgN σ a c j := rfl
theorem xw_al (σ : XS) (I : Nat → Nat → Int32) (a : Nat) : xal (xw σ I) a = xal σ a := rfl
theorem xw_ck (σ : XS) (I : Nat → Nat → Int32) (a c : Nat) : xck (xw σ I) a c = xck σ a c := rfl
theorem xw_Shp {σ : XS} {I : Nat → Nat → Int32} (h : Shp σ) : Shp (xw σ I) := h
theorem xw_gI {σ : XS} {I : Nat → Nat → Int32} {a c j : Nat} (h : xT σ a = c) : xgI (xw σ I) a c j = some (I a j) := xgI_ok (σ := xw σ I) h
theorem xw_pI {σ : XS} {I : Nat → Nat → Int32} {a c j : Nat} {v : Int32} (h : xT σ a = c) : xpI (xw σ I) a c j v = some (xw σ (xup I a j v)) := xpI_ok (σ := xw σ I) h
theorem xw_aI {σ : XS} {I : Nat → Nat → Int32} {a q n i : Nat} (h : σ.1 a = (q, n)) (hi : i < n) (hn : n < 2147483648) : xaI (xw σ I) q a (nI i) = some (I a i) := xaI_ok (σ := xw σ I) (n := n) (congrArg Prod.fst h) (congrArg Prod.snd h) hi hn
theorem xw_sI {σ : XS} {I : Nat → Nat → Int32} {a q n i : Nat} {v : Int32} (h : σ.1 a = (q, n)) (hi : i < n) (hn : n < 2147483648) : xsI (xw σ I) q a (nI i) v = some (xw σ (xup I a i v)) := xsI_ok (σ := xw σ I) (n := n) (congrArg Prod.fst h) (congrArg Prod.snd h) hi hn
theorem xw_K {σ : XS} (h : Shp σ) {a : Nat} (h1 : a < 207) (h2 : a ≠ 160) (h3 : a ≠ 164) : σ.1 a = shK.getD a (99, 0) := h.2.1 a h1 h2 h3
theorem kC1 {σ : XS} (h : Shp σ) : xck σ 1 11 = some () := xck_ok (sT1 h)
theorem kG1 {σ : XS} (h : Shp σ) {I : Nat → Nat → Int32} {j : Nat} : xgI (xw σ I) 1 11 j = some (I 1 j) := xw_gI (sT1 h)
theorem kP1 {σ : XS} (h : Shp σ) {I : Nat → Nat → Int32} {j : Nat} {v : Int32} : xpI (xw σ I) 1 11 j v = some (xw σ (xup I 1 j v)) := xw_pI (sT1 h)
theorem kR1_0 {σ : XS} (h : Shp σ) : xgR σ 1 11 0 = some 3 := xgR_to (sT1 h) (sR1_0 h) (by decide)
theorem kR1_1 {σ : XS} (h : Shp σ) : xgR σ 1 11 1 = some 2 := xgR_to (sT1 h) (sR1_1 h) (by decide)
theorem kR1_2 {σ : XS} (h : Shp σ) : xgR σ 1 11 2 = some 11 := xgR_to (sT1 h) (sR1_2 h) (by decide)
theorem kR1_3 {σ : XS} (h : Shp σ) : xgR σ 1 11 3 = some 16 := xgR_to (sT1 h) (sR1_3 h) (by decide)
theorem kR1_4 {σ : XS} (h : Shp σ) : xgR σ 1 11 4 = some 19 := xgR_to (sT1 h) (sR1_4 h) (by decide)
theorem kR1_5 {σ : XS} (h : Shp σ) : xgR σ 1 11 5 = some 141 := xgR_to (sT1 h) (sR1_5 h) (by decide)
theorem kR1_6 {σ : XS} (h : Shp σ) : xgR σ 1 11 6 = some 157 := xgR_to (sT1 h) (sR1_6 h) (by decide)
theorem kR1_7 {σ : XS} (h : Shp σ) : xgR σ 1 11 7 = some 161 := xgR_to (sT1 h) (sR1_7 h) (by decide)
theorem kR1_8 {σ : XS} (h : Shp σ) : xgR σ 1 11 8 = some 165 := xgR_to (sT1 h) (sR1_8 h) (by decide)
theorem kR1_9 {σ : XS} (h : Shp σ) : xgR σ 1 11 9 = some 170 := xgR_to (sT1 h) (sR1_9 h) (by decide)
theorem kR1_10 {σ : XS} (h : Shp σ) : xgR σ 1 11 10 = some 174 := xgR_to (sT1 h) (sR1_10 h) (by decide)
theorem kR1_11 {σ : XS} (h : Shp σ) : xgR σ 1 11 11 = some 180 := xgR_to (sT1 h) (sR1_11 h) (by decide)
theorem kR1_12 {σ : XS} (h : Shp σ) : xgR σ 1 11 12 = some 181 := xgR_to (sT1 h) (sR1_12 h) (by decide)
theorem kR1_13 {σ : XS} (h : Shp σ) : xgR σ 1 11 13 = some 182 := xgR_to (sT1 h) (sR1_13 h) (by decide)
theorem kC2 {σ : XS} (h : Shp σ) : xck σ 2 1 = some () := xck_ok (sT2 h)
theorem kG2 {σ : XS} (h : Shp σ) {I : Nat → Nat → Int32} {j : Nat} : xgI (xw σ I) 2 1 j = some (I 2 j) := xw_gI (sT2 h)
theorem kP2 {σ : XS} (h : Shp σ) {I : Nat → Nat → Int32} {j : Nat} {v : Int32} : xpI (xw σ I) 2 1 j v = some (xw σ (xup I 2 j v)) := xw_pI (sT2 h)
theorem kR2_0 {σ : XS} (h : Shp σ) : xgR σ 2 1 0 = some 3 := xgR_to (sT2 h) (sR2_0 h) (by decide)
theorem kR2_1 {σ : XS} (h : Shp σ) : xgR σ 2 1 1 = some 8 := xgR_to (sT2 h) (sR2_1 h) (by decide)
theorem kC3 {σ : XS} (h : Shp σ) : xck σ 3 8 = some () := xck_ok (sT3 h)
theorem kG3 {σ : XS} (h : Shp σ) {I : Nat → Nat → Int32} {j : Nat} : xgI (xw σ I) 3 8 j = some (I 3 j) := xw_gI (sT3 h)
theorem kP3 {σ : XS} (h : Shp σ) {I : Nat → Nat → Int32} {j : Nat} {v : Int32} : xpI (xw σ I) 3 8 j v = some (xw σ (xup I 3 j v)) := xw_pI (sT3 h)
theorem kR3_0 {σ : XS} (h : Shp σ) : xgR σ 3 8 0 = some 4 := xgR_to (sT3 h) (sR3_0 h) (by decide)
theorem kR3_1 {σ : XS} (h : Shp σ) : xgR σ 3 8 1 = some 5 := xgR_to (sT3 h) (sR3_1 h) (by decide)
theorem kR3_2 {σ : XS} (h : Shp σ) : xgR σ 3 8 2 = some 6 := xgR_to (sT3 h) (sR3_2 h) (by decide)
theorem kR3_3 {σ : XS} (h : Shp σ) : xgR σ 3 8 3 = some 7 := xgR_to (sT3 h) (sR3_3 h) (by decide)
theorem kL4 {σ : XS} (h : Shp σ) : xal σ 4 = some (nI 2000) := by rw [xal_ok (by rw [sT4 h]; decide), sl4 h]
theorem kA4 {σ : XS} (h : Shp σ) {I : Nat → Nat → Int32} {i : Nat} (hi : i < 2000) : xaI (xw σ I) 21 4 (nI i) = some (I 4 i) := xw_aI (xw_K h (by decide) (by decide) (by decide)) hi (by decide)
theorem kS4 {σ : XS} (h : Shp σ) {I : Nat → Nat → Int32} {i : Nat} {v : Int32} (hi : i < 2000) : xsI (xw σ I) 21 4 (nI i) v = some (xw σ (xup I 4 i v)) := xw_sI (xw_K h (by decide) (by decide) (by decide)) hi (by decide)
theorem kL5 {σ : XS} (h : Shp σ) : xal σ 5 = some (nI 400) := by rw [xal_ok (by rw [sT5 h]; decide), sl5 h]
theorem kA5 {σ : XS} (h : Shp σ) {I : Nat → Nat → Int32} {i : Nat} (hi : i < 400) : xaI (xw σ I) 20 5 (nI i) = some (I 5 i) := xw_aI (xw_K h (by decide) (by decide) (by decide)) hi (by decide)
theorem kS5 {σ : XS} (h : Shp σ) {I : Nat → Nat → Int32} {i : Nat} {v : Int32} (hi : i < 400) : xsI (xw σ I) 20 5 (nI i) v = some (xw σ (xup I 5 i v)) := xw_sI (xw_K h (by decide) (by decide) (by decide)) hi (by decide)
theorem kL6 {σ : XS} (h : Shp σ) : xal σ 6 = some (nI 400) := by rw [xal_ok (by rw [sT6 h]; decide), sl6 h]
theorem kA6 {σ : XS} (h : Shp σ) {I : Nat → Nat → Int32} {i : Nat} (hi : i < 400) : xaI (xw σ I) 20 6 (nI i) = some (I 6 i) := xw_aI (xw_K h (by decide) (by decide) (by decide)) hi (by decide)
theorem kS6 {σ : XS} (h : Shp σ) {I : Nat → Nat → Int32} {i : Nat} {v : Int32} (hi : i < 400) : xsI (xw σ I) 20 6 (nI i) v = some (xw σ (xup I 6 i v)) := xw_sI (xw_K h (by decide) (by decide) (by decide)) hi (by decide)
theorem kL7 {σ : XS} (h : Shp σ) : xal σ 7 = some (nI 400) := by rw [xal_ok (by rw [sT7 h]; decide), sl7 h]
theorem kA7 {σ : XS} (h : Shp σ) {I : Nat → Nat → Int32} {i : Nat} (hi : i < 400) : xaI (xw σ I) 20 7 (nI i) = some (I 7 i) := xw_aI (xw_K h (by decide) (by decide) (by decide)) hi (by decide)
theorem kS7 {σ : XS} (h : Shp σ) {I : Nat → Nat → Int32} {i : Nat} {v : Int32} (hi : i < 400) : xsI (xw σ I) 20 7 (nI i) v = some (xw σ (xup I 7 i v)) := xw_sI (xw_K h (by decide) (by decide) (by decide)) hi (by decide)
theorem kC8 {σ : XS} (h : Shp σ) : xck σ 8 6 = some () := xck_ok (sT8 h)
theorem kG8 {σ : XS} (h : Shp σ) {I : Nat → Nat → Int32} {j : Nat} : xgI (xw σ I) 8 6 j = some (I 8 j) := xw_gI (sT8 h)
theorem kP8 {σ : XS} (h : Shp σ) {I : Nat → Nat → Int32} {j : Nat} {v : Int32} : xpI (xw σ I) 8 6 j v = some (xw σ (xup I 8 j v)) := xw_pI (sT8 h)
theorem kR8_0 {σ : XS} (h : Shp σ) : xgR σ 8 6 0 = some 9 := xgR_to (sT8 h) (sR8_0 h) (by decide)
theorem kR8_1 {σ : XS} (h : Shp σ) : xgR σ 8 6 1 = some 10 := xgR_to (sT8 h) (sR8_1 h) (by decide)
theorem kL9 {σ : XS} (h : Shp σ) : xal σ 9 = some (nI 32) := by rw [xal_ok (by rw [sT9 h]; decide), sl9 h]
theorem kA9 {σ : XS} (h : Shp σ) {I : Nat → Nat → Int32} {i : Nat} (hi : i < 32) : xaI (xw σ I) 20 9 (nI i) = some (I 9 i) := xw_aI (xw_K h (by decide) (by decide) (by decide)) hi (by decide)
theorem kS9 {σ : XS} (h : Shp σ) {I : Nat → Nat → Int32} {i : Nat} {v : Int32} (hi : i < 32) : xsI (xw σ I) 20 9 (nI i) v = some (xw σ (xup I 9 i v)) := xw_sI (xw_K h (by decide) (by decide) (by decide)) hi (by decide)
theorem kL10 {σ : XS} (h : Shp σ) : xal σ 10 = some (nI 16) := by rw [xal_ok (by rw [sT10 h]; decide), sl10 h]
theorem kA10 {σ : XS} (h : Shp σ) {I : Nat → Nat → Int32} {i : Nat} (hi : i < 16) : xaI (xw σ I) 20 10 (nI i) = some (I 10 i) := xw_aI (xw_K h (by decide) (by decide) (by decide)) hi (by decide)
theorem kS10 {σ : XS} (h : Shp σ) {I : Nat → Nat → Int32} {i : Nat} {v : Int32} (hi : i < 16) : xsI (xw σ I) 20 10 (nI i) v = some (xw σ (xup I 10 i v)) := xw_sI (xw_K h (by decide) (by decide) (by decide)) hi (by decide)
theorem kC11 {σ : XS} (h : Shp σ) : xck σ 11 3 = some () := xck_ok (sT11 h)
theorem kG11 {σ : XS} (h : Shp σ) {I : Nat → Nat → Int32} {j : Nat} : xgI (xw σ I) 11 3 j = some (I 11 j) := xw_gI (sT11 h)
theorem kP11 {σ : XS} (h : Shp σ) {I : Nat → Nat → Int32} {j : Nat} {v : Int32} : xpI (xw σ I) 11 3 j v = some (xw σ (xup I 11 j v)) := xw_pI (sT11 h)
theorem kR11_0 {σ : XS} (h : Shp σ) : xgR σ 11 3 0 = some 12 := xgR_to (sT11 h) (sR11_0 h) (by decide)
theorem kR11_1 {σ : XS} (h : Shp σ) : xgR σ 11 3 1 = some 13 := xgR_to (sT11 h) (sR11_1 h) (by decide)
theorem kR11_2 {σ : XS} (h : Shp σ) : xgR σ 11 3 2 = some 14 := xgR_to (sT11 h) (sR11_2 h) (by decide)
theorem kR11_3 {σ : XS} (h : Shp σ) : xgR σ 11 3 3 = some 15 := xgR_to (sT11 h) (sR11_3 h) (by decide)
theorem kL12 {σ : XS} (h : Shp σ) : xal σ 12 = some (nI 32) := by rw [xal_ok (by rw [sT12 h]; decide), sl12 h]
theorem kA12 {σ : XS} (h : Shp σ) {I : Nat → Nat → Int32} {i : Nat} (hi : i < 32) : xaI (xw σ I) 20 12 (nI i) = some (I 12 i) := xw_aI (xw_K h (by decide) (by decide) (by decide)) hi (by decide)
theorem kS12 {σ : XS} (h : Shp σ) {I : Nat → Nat → Int32} {i : Nat} {v : Int32} (hi : i < 32) : xsI (xw σ I) 20 12 (nI i) v = some (xw σ (xup I 12 i v)) := xw_sI (xw_K h (by decide) (by decide) (by decide)) hi (by decide)
theorem kL13 {σ : XS} (h : Shp σ) : xal σ 13 = some (nI 64) := by rw [xal_ok (by rw [sT13 h]; decide), sl13 h]
theorem kA13 {σ : XS} (h : Shp σ) {I : Nat → Nat → Int32} {i : Nat} (hi : i < 64) : xaI (xw σ I) 20 13 (nI i) = some (I 13 i) := xw_aI (xw_K h (by decide) (by decide) (by decide)) hi (by decide)
theorem kS13 {σ : XS} (h : Shp σ) {I : Nat → Nat → Int32} {i : Nat} {v : Int32} (hi : i < 64) : xsI (xw σ I) 20 13 (nI i) v = some (xw σ (xup I 13 i v)) := xw_sI (xw_K h (by decide) (by decide) (by decide)) hi (by decide)
theorem kL14 {σ : XS} (h : Shp σ) : xal σ 14 = some (nI 64) := by rw [xal_ok (by rw [sT14 h]; decide), sl14 h]
theorem kA14 {σ : XS} (h : Shp σ) {I : Nat → Nat → Int32} {i : Nat} (hi : i < 64) : xaI (xw σ I) 20 14 (nI i) = some (I 14 i) := xw_aI (xw_K h (by decide) (by decide) (by decide)) hi (by decide)
theorem kS14 {σ : XS} (h : Shp σ) {I : Nat → Nat → Int32} {i : Nat} {v : Int32} (hi : i < 64) : xsI (xw σ I) 20 14 (nI i) v = some (xw σ (xup I 14 i v)) := xw_sI (xw_K h (by decide) (by decide) (by decide)) hi (by decide)
theorem kL15 {σ : XS} (h : Shp σ) : xal σ 15 = some (nI 16) := by rw [xal_ok (by rw [sT15 h]; decide), sl15 h]
theorem kA15 {σ : XS} (h : Shp σ) {I : Nat → Nat → Int32} {i : Nat} (hi : i < 16) : xaI (xw σ I) 20 15 (nI i) = some (I 15 i) := xw_aI (xw_K h (by decide) (by decide) (by decide)) hi (by decide)
theorem kS15 {σ : XS} (h : Shp σ) {I : Nat → Nat → Int32} {i : Nat} {v : Int32} (hi : i < 16) : xsI (xw σ I) 20 15 (nI i) v = some (xw σ (xup I 15 i v)) := xw_sI (xw_K h (by decide) (by decide) (by decide)) hi (by decide)
theorem kC16 {σ : XS} (h : Shp σ) : xck σ 16 6 = some () := xck_ok (sT16 h)
theorem kG16 {σ : XS} (h : Shp σ) {I : Nat → Nat → Int32} {j : Nat} : xgI (xw σ I) 16 6 j = some (I 16 j) := xw_gI (sT16 h)
theorem kP16 {σ : XS} (h : Shp σ) {I : Nat → Nat → Int32} {j : Nat} {v : Int32} : xpI (xw σ I) 16 6 j v = some (xw σ (xup I 16 j v)) := xw_pI (sT16 h)
theorem kR16_0 {σ : XS} (h : Shp σ) : xgR σ 16 6 0 = some 17 := xgR_to (sT16 h) (sR16_0 h) (by decide)
theorem kR16_1 {σ : XS} (h : Shp σ) : xgR σ 16 6 1 = some 18 := xgR_to (sT16 h) (sR16_1 h) (by decide)
theorem kL17 {σ : XS} (h : Shp σ) : xal σ 17 = some (nI 32) := by rw [xal_ok (by rw [sT17 h]; decide), sl17 h]
theorem kA17 {σ : XS} (h : Shp σ) {I : Nat → Nat → Int32} {i : Nat} (hi : i < 32) : xaI (xw σ I) 20 17 (nI i) = some (I 17 i) := xw_aI (xw_K h (by decide) (by decide) (by decide)) hi (by decide)
theorem kS17 {σ : XS} (h : Shp σ) {I : Nat → Nat → Int32} {i : Nat} {v : Int32} (hi : i < 32) : xsI (xw σ I) 20 17 (nI i) v = some (xw σ (xup I 17 i v)) := xw_sI (xw_K h (by decide) (by decide) (by decide)) hi (by decide)
theorem kL18 {σ : XS} (h : Shp σ) : xal σ 18 = some (nI 16) := by rw [xal_ok (by rw [sT18 h]; decide), sl18 h]
theorem kA18 {σ : XS} (h : Shp σ) {I : Nat → Nat → Int32} {i : Nat} (hi : i < 16) : xaI (xw σ I) 20 18 (nI i) = some (I 18 i) := xw_aI (xw_K h (by decide) (by decide) (by decide)) hi (by decide)
theorem kS18 {σ : XS} (h : Shp σ) {I : Nat → Nat → Int32} {i : Nat} {v : Int32} (hi : i < 16) : xsI (xw σ I) 20 18 (nI i) v = some (xw σ (xup I 18 i v)) := xw_sI (xw_K h (by decide) (by decide) (by decide)) hi (by decide)
theorem kC19 {σ : XS} (h : Shp σ) : xck σ 19 5 = some () := xck_ok (sT19 h)
theorem kG19 {σ : XS} (h : Shp σ) {I : Nat → Nat → Int32} {j : Nat} : xgI (xw σ I) 19 5 j = some (I 19 j) := xw_gI (sT19 h)
theorem kP19 {σ : XS} (h : Shp σ) {I : Nat → Nat → Int32} {j : Nat} {v : Int32} : xpI (xw σ I) 19 5 j v = some (xw σ (xup I 19 j v)) := xw_pI (sT19 h)
theorem kR19_0 {σ : XS} (h : Shp σ) : xgR σ 19 5 0 = some 20 := xgR_to (sT19 h) (sR19_0 h) (by decide)
theorem kL20 {σ : XS} (h : Shp σ) : xal σ 20 = some (nI 40) := by rw [xal_ok (by rw [sT20 h]; decide), sl20 h]
theorem kL141 {σ : XS} (h : Shp σ) : xal σ 141 = some (nI 3) := by rw [xal_ok (by rw [sT141 h]; decide), sl141 h]
theorem kL146 {σ : XS} (h : Shp σ) : xal σ 146 = some (nI 289) := by rw [xal_ok (by rw [sT146 h]; decide), sl146 h]
theorem kA146 {σ : XS} (h : Shp σ) {I : Nat → Nat → Int32} {i : Nat} (hi : i < 289) : xaI (xw σ I) 20 146 (nI i) = some (I 146 i) := xw_aI (xw_K h (by decide) (by decide) (by decide)) hi (by decide)
theorem kS146 {σ : XS} (h : Shp σ) {I : Nat → Nat → Int32} {i : Nat} {v : Int32} (hi : i < 289) : xsI (xw σ I) 20 146 (nI i) v = some (xw σ (xup I 146 i v)) := xw_sI (xw_K h (by decide) (by decide) (by decide)) hi (by decide)
theorem kL151 {σ : XS} (h : Shp σ) : xal σ 151 = some (nI 289) := by rw [xal_ok (by rw [sT151 h]; decide), sl151 h]
theorem kA151 {σ : XS} (h : Shp σ) {I : Nat → Nat → Int32} {i : Nat} (hi : i < 289) : xaI (xw σ I) 20 151 (nI i) = some (I 151 i) := xw_aI (xw_K h (by decide) (by decide) (by decide)) hi (by decide)
theorem kS151 {σ : XS} (h : Shp σ) {I : Nat → Nat → Int32} {i : Nat} {v : Int32} (hi : i < 289) : xsI (xw σ I) 20 151 (nI i) v = some (xw σ (xup I 151 i v)) := xw_sI (xw_K h (by decide) (by decide) (by decide)) hi (by decide)
theorem kL156 {σ : XS} (h : Shp σ) : xal σ 156 = some (nI 289) := by rw [xal_ok (by rw [sT156 h]; decide), sl156 h]
theorem kA156 {σ : XS} (h : Shp σ) {I : Nat → Nat → Int32} {i : Nat} (hi : i < 289) : xaI (xw σ I) 20 156 (nI i) = some (I 156 i) := xw_aI (xw_K h (by decide) (by decide) (by decide)) hi (by decide)
theorem kS156 {σ : XS} (h : Shp σ) {I : Nat → Nat → Int32} {i : Nat} {v : Int32} (hi : i < 289) : xsI (xw σ I) 20 156 (nI i) v = some (xw σ (xup I 156 i v)) := xw_sI (xw_K h (by decide) (by decide) (by decide)) hi (by decide)
theorem kC157 {σ : XS} (h : Shp σ) : xck σ 157 2 = some () := xck_ok (sT157 h)
theorem kG157 {σ : XS} (h : Shp σ) {I : Nat → Nat → Int32} {j : Nat} : xgI (xw σ I) 157 2 j = some (I 157 j) := xw_gI (sT157 h)
theorem kP157 {σ : XS} (h : Shp σ) {I : Nat → Nat → Int32} {j : Nat} {v : Int32} : xpI (xw σ I) 157 2 j v = some (xw σ (xup I 157 j v)) := xw_pI (sT157 h)
theorem kR157_0 {σ : XS} (h : Shp σ) : xgR σ 157 2 0 = some 158 := xgR_to (sT157 h) (sR157_0 h) (by decide)
theorem kR157_1 {σ : XS} (h : Shp σ) : xgR σ 157 2 1 = some 159 := xgR_to (sT157 h) (sR157_1 h) (by decide)
theorem kL158 {σ : XS} (h : Shp σ) : xal σ 158 = some (nI 4) := by rw [xal_ok (by rw [sT158 h]; decide), sl158 h]
theorem kA158 {σ : XS} (h : Shp σ) {I : Nat → Nat → Int32} {i : Nat} (hi : i < 4) : xaI (xw σ I) 20 158 (nI i) = some (I 158 i) := xw_aI (xw_K h (by decide) (by decide) (by decide)) hi (by decide)
theorem kS158 {σ : XS} (h : Shp σ) {I : Nat → Nat → Int32} {i : Nat} {v : Int32} (hi : i < 4) : xsI (xw σ I) 20 158 (nI i) v = some (xw σ (xup I 158 i v)) := xw_sI (xw_K h (by decide) (by decide) (by decide)) hi (by decide)
theorem kL159 {σ : XS} (h : Shp σ) : xal σ 159 = some (nI 4) := by rw [xal_ok (by rw [sT159 h]; decide), sl159 h]
theorem kA159 {σ : XS} (h : Shp σ) {I : Nat → Nat → Int32} {i : Nat} (hi : i < 4) : xaI (xw σ I) 20 159 (nI i) = some (I 159 i) := xw_aI (xw_K h (by decide) (by decide) (by decide)) hi (by decide)
theorem kS159 {σ : XS} (h : Shp σ) {I : Nat → Nat → Int32} {i : Nat} {v : Int32} (hi : i < 4) : xsI (xw σ I) 20 159 (nI i) v = some (xw σ (xup I 159 i v)) := xw_sI (xw_K h (by decide) (by decide) (by decide)) hi (by decide)
theorem kC161 {σ : XS} (h : Shp σ) : xck σ 161 2 = some () := xck_ok (sT161 h)
theorem kG161 {σ : XS} (h : Shp σ) {I : Nat → Nat → Int32} {j : Nat} : xgI (xw σ I) 161 2 j = some (I 161 j) := xw_gI (sT161 h)
theorem kP161 {σ : XS} (h : Shp σ) {I : Nat → Nat → Int32} {j : Nat} {v : Int32} : xpI (xw σ I) 161 2 j v = some (xw σ (xup I 161 j v)) := xw_pI (sT161 h)
theorem kR161_0 {σ : XS} (h : Shp σ) : xgR σ 161 2 0 = some 162 := xgR_to (sT161 h) (sR161_0 h) (by decide)
theorem kR161_1 {σ : XS} (h : Shp σ) : xgR σ 161 2 1 = some 163 := xgR_to (sT161 h) (sR161_1 h) (by decide)
theorem kL162 {σ : XS} (h : Shp σ) : xal σ 162 = some (nI 4) := by rw [xal_ok (by rw [sT162 h]; decide), sl162 h]
theorem kA162 {σ : XS} (h : Shp σ) {I : Nat → Nat → Int32} {i : Nat} (hi : i < 4) : xaI (xw σ I) 20 162 (nI i) = some (I 162 i) := xw_aI (xw_K h (by decide) (by decide) (by decide)) hi (by decide)
theorem kS162 {σ : XS} (h : Shp σ) {I : Nat → Nat → Int32} {i : Nat} {v : Int32} (hi : i < 4) : xsI (xw σ I) 20 162 (nI i) v = some (xw σ (xup I 162 i v)) := xw_sI (xw_K h (by decide) (by decide) (by decide)) hi (by decide)
theorem kL163 {σ : XS} (h : Shp σ) : xal σ 163 = some (nI 4) := by rw [xal_ok (by rw [sT163 h]; decide), sl163 h]
theorem kA163 {σ : XS} (h : Shp σ) {I : Nat → Nat → Int32} {i : Nat} (hi : i < 4) : xaI (xw σ I) 20 163 (nI i) = some (I 163 i) := xw_aI (xw_K h (by decide) (by decide) (by decide)) hi (by decide)
theorem kS163 {σ : XS} (h : Shp σ) {I : Nat → Nat → Int32} {i : Nat} {v : Int32} (hi : i < 4) : xsI (xw σ I) 20 163 (nI i) v = some (xw σ (xup I 163 i v)) := xw_sI (xw_K h (by decide) (by decide) (by decide)) hi (by decide)
theorem kC165 {σ : XS} (h : Shp σ) : xck σ 165 4 = some () := xck_ok (sT165 h)
theorem kG165 {σ : XS} (h : Shp σ) {I : Nat → Nat → Int32} {j : Nat} : xgI (xw σ I) 165 4 j = some (I 165 j) := xw_gI (sT165 h)
theorem kP165 {σ : XS} (h : Shp σ) {I : Nat → Nat → Int32} {j : Nat} {v : Int32} : xpI (xw σ I) 165 4 j v = some (xw σ (xup I 165 j v)) := xw_pI (sT165 h)
theorem kR165_0 {σ : XS} (h : Shp σ) : xgR σ 165 4 0 = some 166 := xgR_to (sT165 h) (sR165_0 h) (by decide)
theorem kR165_1 {σ : XS} (h : Shp σ) : xgR σ 165 4 1 = some 167 := xgR_to (sT165 h) (sR165_1 h) (by decide)
theorem kR165_2 {σ : XS} (h : Shp σ) : xgR σ 165 4 2 = some 168 := xgR_to (sT165 h) (sR165_2 h) (by decide)
theorem kR165_3 {σ : XS} (h : Shp σ) : xgR σ 165 4 3 = some 169 := xgR_to (sT165 h) (sR165_3 h) (by decide)
theorem kL166 {σ : XS} (h : Shp σ) : xal σ 166 = some (nI 289) := by rw [xal_ok (by rw [sT166 h]; decide), sl166 h]
theorem kA166 {σ : XS} (h : Shp σ) {I : Nat → Nat → Int32} {i : Nat} (hi : i < 289) : xaI (xw σ I) 20 166 (nI i) = some (I 166 i) := xw_aI (xw_K h (by decide) (by decide) (by decide)) hi (by decide)
theorem kS166 {σ : XS} (h : Shp σ) {I : Nat → Nat → Int32} {i : Nat} {v : Int32} (hi : i < 289) : xsI (xw σ I) 20 166 (nI i) v = some (xw σ (xup I 166 i v)) := xw_sI (xw_K h (by decide) (by decide) (by decide)) hi (by decide)
theorem kL167 {σ : XS} (h : Shp σ) : xal σ 167 = some (nI 289) := by rw [xal_ok (by rw [sT167 h]; decide), sl167 h]
theorem kA167 {σ : XS} (h : Shp σ) {I : Nat → Nat → Int32} {i : Nat} (hi : i < 289) : xaI (xw σ I) 20 167 (nI i) = some (I 167 i) := xw_aI (xw_K h (by decide) (by decide) (by decide)) hi (by decide)
theorem kS167 {σ : XS} (h : Shp σ) {I : Nat → Nat → Int32} {i : Nat} {v : Int32} (hi : i < 289) : xsI (xw σ I) 20 167 (nI i) v = some (xw σ (xup I 167 i v)) := xw_sI (xw_K h (by decide) (by decide) (by decide)) hi (by decide)
theorem kL168 {σ : XS} (h : Shp σ) : xal σ 168 = some (nI 4913) := by rw [xal_ok (by rw [sT168 h]; decide), sl168 h]
theorem kA168 {σ : XS} (h : Shp σ) {I : Nat → Nat → Int32} {i : Nat} (hi : i < 4913) : xaI (xw σ I) 20 168 (nI i) = some (I 168 i) := xw_aI (xw_K h (by decide) (by decide) (by decide)) hi (by decide)
theorem kS168 {σ : XS} (h : Shp σ) {I : Nat → Nat → Int32} {i : Nat} {v : Int32} (hi : i < 4913) : xsI (xw σ I) 20 168 (nI i) v = some (xw σ (xup I 168 i v)) := xw_sI (xw_K h (by decide) (by decide) (by decide)) hi (by decide)
theorem kL169 {σ : XS} (h : Shp σ) : xal σ 169 = some (nI 289) := by rw [xal_ok (by rw [sT169 h]; decide), sl169 h]
theorem kA169 {σ : XS} (h : Shp σ) {I : Nat → Nat → Int32} {i : Nat} (hi : i < 289) : xaI (xw σ I) 20 169 (nI i) = some (I 169 i) := xw_aI (xw_K h (by decide) (by decide) (by decide)) hi (by decide)
theorem kS169 {σ : XS} (h : Shp σ) {I : Nat → Nat → Int32} {i : Nat} {v : Int32} (hi : i < 289) : xsI (xw σ I) 20 169 (nI i) v = some (xw σ (xup I 169 i v)) := xw_sI (xw_K h (by decide) (by decide) (by decide)) hi (by decide)
theorem kC170 {σ : XS} (h : Shp σ) : xck σ 170 0 = some () := xck_ok (sT170 h)
theorem kG170 {σ : XS} (h : Shp σ) {I : Nat → Nat → Int32} {j : Nat} : xgI (xw σ I) 170 0 j = some (I 170 j) := xw_gI (sT170 h)
theorem kP170 {σ : XS} (h : Shp σ) {I : Nat → Nat → Int32} {j : Nat} {v : Int32} : xpI (xw σ I) 170 0 j v = some (xw σ (xup I 170 j v)) := xw_pI (sT170 h)
theorem kR170_0 {σ : XS} (h : Shp σ) : xgR σ 170 0 0 = some 171 := xgR_to (sT170 h) (sR170_0 h) (by decide)
theorem kR170_1 {σ : XS} (h : Shp σ) : xgR σ 170 0 1 = some 172 := xgR_to (sT170 h) (sR170_1 h) (by decide)
theorem kR170_2 {σ : XS} (h : Shp σ) : xgR σ 170 0 2 = some 173 := xgR_to (sT170 h) (sR170_2 h) (by decide)
theorem kL171 {σ : XS} (h : Shp σ) : xal σ 171 = some (nI 33) := by rw [xal_ok (by rw [sT171 h]; decide), sl171 h]
theorem kA171 {σ : XS} (h : Shp σ) {I : Nat → Nat → Int32} {i : Nat} (hi : i < 33) : xaI (xw σ I) 20 171 (nI i) = some (I 171 i) := xw_aI (xw_K h (by decide) (by decide) (by decide)) hi (by decide)
theorem kS171 {σ : XS} (h : Shp σ) {I : Nat → Nat → Int32} {i : Nat} {v : Int32} (hi : i < 33) : xsI (xw σ I) 20 171 (nI i) v = some (xw σ (xup I 171 i v)) := xw_sI (xw_K h (by decide) (by decide) (by decide)) hi (by decide)
theorem kL172 {σ : XS} (h : Shp σ) : xal σ 172 = some (nI 32) := by rw [xal_ok (by rw [sT172 h]; decide), sl172 h]
theorem kA172 {σ : XS} (h : Shp σ) {I : Nat → Nat → Int32} {i : Nat} (hi : i < 32) : xaI (xw σ I) 20 172 (nI i) = some (I 172 i) := xw_aI (xw_K h (by decide) (by decide) (by decide)) hi (by decide)
theorem kS172 {σ : XS} (h : Shp σ) {I : Nat → Nat → Int32} {i : Nat} {v : Int32} (hi : i < 32) : xsI (xw σ I) 20 172 (nI i) v = some (xw σ (xup I 172 i v)) := xw_sI (xw_K h (by decide) (by decide) (by decide)) hi (by decide)
theorem kL173 {σ : XS} (h : Shp σ) : xal σ 173 = some (nI 16) := by rw [xal_ok (by rw [sT173 h]; decide), sl173 h]
theorem kA173 {σ : XS} (h : Shp σ) {I : Nat → Nat → Int32} {i : Nat} (hi : i < 16) : xaI (xw σ I) 20 173 (nI i) = some (I 173 i) := xw_aI (xw_K h (by decide) (by decide) (by decide)) hi (by decide)
theorem kS173 {σ : XS} (h : Shp σ) {I : Nat → Nat → Int32} {i : Nat} {v : Int32} (hi : i < 16) : xsI (xw σ I) 20 173 (nI i) v = some (xw σ (xup I 173 i v)) := xw_sI (xw_K h (by decide) (by decide) (by decide)) hi (by decide)
theorem kC174 {σ : XS} (h : Shp σ) : xck σ 174 9 = some () := xck_ok (sT174 h)
theorem kG174 {σ : XS} (h : Shp σ) {I : Nat → Nat → Int32} {j : Nat} : xgI (xw σ I) 174 9 j = some (I 174 j) := xw_gI (sT174 h)
theorem kP174 {σ : XS} (h : Shp σ) {I : Nat → Nat → Int32} {j : Nat} {v : Int32} : xpI (xw σ I) 174 9 j v = some (xw σ (xup I 174 j v)) := xw_pI (sT174 h)
theorem kR174_0 {σ : XS} (h : Shp σ) : xgR σ 174 9 0 = some 175 := xgR_to (sT174 h) (sR174_0 h) (by decide)
theorem kR174_1 {σ : XS} (h : Shp σ) : xgR σ 174 9 1 = some 176 := xgR_to (sT174 h) (sR174_1 h) (by decide)
theorem kR174_2 {σ : XS} (h : Shp σ) : xgR σ 174 9 2 = some 177 := xgR_to (sT174 h) (sR174_2 h) (by decide)
theorem kR174_3 {σ : XS} (h : Shp σ) : xgR σ 174 9 3 = some 178 := xgR_to (sT174 h) (sR174_3 h) (by decide)
theorem kR174_4 {σ : XS} (h : Shp σ) : xgR σ 174 9 4 = some 179 := xgR_to (sT174 h) (sR174_4 h) (by decide)
theorem kL175 {σ : XS} (h : Shp σ) : xal σ 175 = some (nI 1024) := by rw [xal_ok (by rw [sT175 h]; decide), sl175 h]
theorem kA175 {σ : XS} (h : Shp σ) {I : Nat → Nat → Int32} {i : Nat} (hi : i < 1024) : xaI (xw σ I) 20 175 (nI i) = some (I 175 i) := xw_aI (xw_K h (by decide) (by decide) (by decide)) hi (by decide)
theorem kS175 {σ : XS} (h : Shp σ) {I : Nat → Nat → Int32} {i : Nat} {v : Int32} (hi : i < 1024) : xsI (xw σ I) 20 175 (nI i) v = some (xw σ (xup I 175 i v)) := xw_sI (xw_K h (by decide) (by decide) (by decide)) hi (by decide)
theorem kL176 {σ : XS} (h : Shp σ) : xal σ 176 = some (nI 289) := by rw [xal_ok (by rw [sT176 h]; decide), sl176 h]
theorem kA176 {σ : XS} (h : Shp σ) {I : Nat → Nat → Int32} {i : Nat} (hi : i < 289) : xaI (xw σ I) 20 176 (nI i) = some (I 176 i) := xw_aI (xw_K h (by decide) (by decide) (by decide)) hi (by decide)
theorem kS176 {σ : XS} (h : Shp σ) {I : Nat → Nat → Int32} {i : Nat} {v : Int32} (hi : i < 289) : xsI (xw σ I) 20 176 (nI i) v = some (xw σ (xup I 176 i v)) := xw_sI (xw_K h (by decide) (by decide) (by decide)) hi (by decide)
theorem kL177 {σ : XS} (h : Shp σ) : xal σ 177 = some (nI 1024) := by rw [xal_ok (by rw [sT177 h]; decide), sl177 h]
theorem kA177 {σ : XS} (h : Shp σ) {I : Nat → Nat → Int32} {i : Nat} (hi : i < 1024) : xaI (xw σ I) 20 177 (nI i) = some (I 177 i) := xw_aI (xw_K h (by decide) (by decide) (by decide)) hi (by decide)
theorem kS177 {σ : XS} (h : Shp σ) {I : Nat → Nat → Int32} {i : Nat} {v : Int32} (hi : i < 1024) : xsI (xw σ I) 20 177 (nI i) v = some (xw σ (xup I 177 i v)) := xw_sI (xw_K h (by decide) (by decide) (by decide)) hi (by decide)
theorem kL178 {σ : XS} (h : Shp σ) : xal σ 178 = some (nI 1024) := by rw [xal_ok (by rw [sT178 h]; decide), sl178 h]
theorem kA178 {σ : XS} (h : Shp σ) {I : Nat → Nat → Int32} {i : Nat} (hi : i < 1024) : xaI (xw σ I) 20 178 (nI i) = some (I 178 i) := xw_aI (xw_K h (by decide) (by decide) (by decide)) hi (by decide)
theorem kS178 {σ : XS} (h : Shp σ) {I : Nat → Nat → Int32} {i : Nat} {v : Int32} (hi : i < 1024) : xsI (xw σ I) 20 178 (nI i) v = some (xw σ (xup I 178 i v)) := xw_sI (xw_K h (by decide) (by decide) (by decide)) hi (by decide)
theorem kL179 {σ : XS} (h : Shp σ) : xal σ 179 = some (nI 1024) := by rw [xal_ok (by rw [sT179 h]; decide), sl179 h]
theorem kC180 {σ : XS} (h : Shp σ) : xck σ 180 10 = some () := xck_ok (sT180 h)
theorem kG180 {σ : XS} (h : Shp σ) {I : Nat → Nat → Int32} {j : Nat} : xgI (xw σ I) 180 10 j = some (I 180 j) := xw_gI (sT180 h)
theorem kP180 {σ : XS} (h : Shp σ) {I : Nat → Nat → Int32} {j : Nat} {v : Int32} : xpI (xw σ I) 180 10 j v = some (xw σ (xup I 180 j v)) := xw_pI (sT180 h)
theorem kL181 {σ : XS} (h : Shp σ) : xal σ 181 = some (nI 577) := by rw [xal_ok (by rw [sT181 h]; decide), sl181 h]
theorem kL182 {σ : XS} (h : Shp σ) : xal σ 182 = some (nI 256) := by rw [xal_ok (by rw [sT182 h]; decide), sl182 h]
theorem kA182 {σ : XS} (h : Shp σ) {I : Nat → Nat → Int32} {i : Nat} (hi : i < 256) : xaI (xw σ I) 20 182 (nI i) = some (I 182 i) := xw_aI (xw_K h (by decide) (by decide) (by decide)) hi (by decide)
theorem kS182 {σ : XS} (h : Shp σ) {I : Nat → Nat → Int32} {i : Nat} {v : Int32} (hi : i < 256) : xsI (xw σ I) 20 182 (nI i) v = some (xw σ (xup I 182 i v)) := xw_sI (xw_K h (by decide) (by decide) (by decide)) hi (by decide)
theorem kC183 {σ : XS} (h : Shp σ) : xck σ 183 12 = some () := xck_ok (sT183 h)
theorem kG183 {σ : XS} (h : Shp σ) {I : Nat → Nat → Int32} {j : Nat} : xgI (xw σ I) 183 12 j = some (I 183 j) := xw_gI (sT183 h)
theorem kP183 {σ : XS} (h : Shp σ) {I : Nat → Nat → Int32} {j : Nat} {v : Int32} : xpI (xw σ I) 183 12 j v = some (xw σ (xup I 183 j v)) := xw_pI (sT183 h)
theorem kR183_1 {σ : XS} (h : Shp σ) : xgR σ 183 12 1 = some 184 := xgR_to (sT183 h) (sR183_1 h) (by decide)
theorem kR183_3 {σ : XS} (h : Shp σ) : xgR σ 183 12 3 = some 185 := xgR_to (sT183 h) (sR183_3 h) (by decide)
theorem kR183_5 {σ : XS} (h : Shp σ) : xgR σ 183 12 5 = some 186 := xgR_to (sT183 h) (sR183_5 h) (by decide)
theorem kR183_6 {σ : XS} (h : Shp σ) : xgR σ 183 12 6 = some 187 := xgR_to (sT183 h) (sR183_6 h) (by decide)
theorem kR183_7 {σ : XS} (h : Shp σ) : xgR σ 183 12 7 = some 188 := xgR_to (sT183 h) (sR183_7 h) (by decide)
theorem kR183_8 {σ : XS} (h : Shp σ) : xgR σ 183 12 8 = some 189 := xgR_to (sT183 h) (sR183_8 h) (by decide)
theorem kR183_9 {σ : XS} (h : Shp σ) : xgR σ 183 12 9 = some 190 := xgR_to (sT183 h) (sR183_9 h) (by decide)
theorem kR183_21 {σ : XS} (h : Shp σ) : xgR σ 183 12 21 = some 191 := xgR_to (sT183 h) (sR183_21 h) (by decide)
theorem kR183_26 {σ : XS} (h : Shp σ) : xgR σ 183 12 26 = some 192 := xgR_to (sT183 h) (sR183_26 h) (by decide)
theorem kR183_27 {σ : XS} (h : Shp σ) : xgR σ 183 12 27 = some 193 := xgR_to (sT183 h) (sR183_27 h) (by decide)
theorem kR183_30 {σ : XS} (h : Shp σ) : xgR σ 183 12 30 = some 194 := xgR_to (sT183 h) (sR183_30 h) (by decide)
theorem kR183_31 {σ : XS} (h : Shp σ) : xgR σ 183 12 31 = some 195 := xgR_to (sT183 h) (sR183_31 h) (by decide)
theorem kR183_33 {σ : XS} (h : Shp σ) : xgR σ 183 12 33 = some 196 := xgR_to (sT183 h) (sR183_33 h) (by decide)
theorem kR183_34 {σ : XS} (h : Shp σ) : xgR σ 183 12 34 = some 197 := xgR_to (sT183 h) (sR183_34 h) (by decide)
theorem kR183_36 {σ : XS} (h : Shp σ) : xgR σ 183 12 36 = some 198 := xgR_to (sT183 h) (sR183_36 h) (by decide)
theorem kR183_37 {σ : XS} (h : Shp σ) : xgR σ 183 12 37 = some 199 := xgR_to (sT183 h) (sR183_37 h) (by decide)
theorem kR183_38 {σ : XS} (h : Shp σ) : xgR σ 183 12 38 = some 200 := xgR_to (sT183 h) (sR183_38 h) (by decide)
theorem kR183_39 {σ : XS} (h : Shp σ) : xgR σ 183 12 39 = some 201 := xgR_to (sT183 h) (sR183_39 h) (by decide)
theorem kR183_40 {σ : XS} (h : Shp σ) : xgR σ 183 12 40 = some 202 := xgR_to (sT183 h) (sR183_40 h) (by decide)
theorem kR183_41 {σ : XS} (h : Shp σ) : xgR σ 183 12 41 = some 203 := xgR_to (sT183 h) (sR183_41 h) (by decide)
theorem kR183_42 {σ : XS} (h : Shp σ) : xgR σ 183 12 42 = some 204 := xgR_to (sT183 h) (sR183_42 h) (by decide)
theorem kR183_43 {σ : XS} (h : Shp σ) : xgR σ 183 12 43 = some 205 := xgR_to (sT183 h) (sR183_43 h) (by decide)
theorem kR183_44 {σ : XS} (h : Shp σ) : xgR σ 183 12 44 = some 206 := xgR_to (sT183 h) (sR183_44 h) (by decide)
theorem kL184 {σ : XS} (h : Shp σ) : xal σ 184 = some (nI 2000) := by rw [xal_ok (by rw [sT184 h]; decide), sl184 h]
theorem kA184 {σ : XS} (h : Shp σ) {I : Nat → Nat → Int32} {i : Nat} (hi : i < 2000) : xaI (xw σ I) 21 184 (nI i) = some (I 184 i) := xw_aI (xw_K h (by decide) (by decide) (by decide)) hi (by decide)
theorem kS184 {σ : XS} (h : Shp σ) {I : Nat → Nat → Int32} {i : Nat} {v : Int32} (hi : i < 2000) : xsI (xw σ I) 21 184 (nI i) v = some (xw σ (xup I 184 i v)) := xw_sI (xw_K h (by decide) (by decide) (by decide)) hi (by decide)
theorem kL185 {σ : XS} (h : Shp σ) : xal σ 185 = some (nI 2000) := by rw [xal_ok (by rw [sT185 h]; decide), sl185 h]
theorem kA185 {σ : XS} (h : Shp σ) {I : Nat → Nat → Int32} {i : Nat} (hi : i < 2000) : xaI (xw σ I) 21 185 (nI i) = some (I 185 i) := xw_aI (xw_K h (by decide) (by decide) (by decide)) hi (by decide)
theorem kS185 {σ : XS} (h : Shp σ) {I : Nat → Nat → Int32} {i : Nat} {v : Int32} (hi : i < 2000) : xsI (xw σ I) 21 185 (nI i) v = some (xw σ (xup I 185 i v)) := xw_sI (xw_K h (by decide) (by decide) (by decide)) hi (by decide)
theorem kL186 {σ : XS} (h : Shp σ) : xal σ 186 = some (nI 403) := by rw [xal_ok (by rw [sT186 h]; decide), sl186 h]
theorem kA186 {σ : XS} (h : Shp σ) {I : Nat → Nat → Int32} {i : Nat} (hi : i < 403) : xaI (xw σ I) 20 186 (nI i) = some (I 186 i) := xw_aI (xw_K h (by decide) (by decide) (by decide)) hi (by decide)
theorem kS186 {σ : XS} (h : Shp σ) {I : Nat → Nat → Int32} {i : Nat} {v : Int32} (hi : i < 403) : xsI (xw σ I) 20 186 (nI i) v = some (xw σ (xup I 186 i v)) := xw_sI (xw_K h (by decide) (by decide) (by decide)) hi (by decide)
theorem kL187 {σ : XS} (h : Shp σ) : xal σ 187 = some (nI 403) := by rw [xal_ok (by rw [sT187 h]; decide), sl187 h]
theorem kA187 {σ : XS} (h : Shp σ) {I : Nat → Nat → Int32} {i : Nat} (hi : i < 403) : xaI (xw σ I) 20 187 (nI i) = some (I 187 i) := xw_aI (xw_K h (by decide) (by decide) (by decide)) hi (by decide)
theorem kS187 {σ : XS} (h : Shp σ) {I : Nat → Nat → Int32} {i : Nat} {v : Int32} (hi : i < 403) : xsI (xw σ I) 20 187 (nI i) v = some (xw σ (xup I 187 i v)) := xw_sI (xw_K h (by decide) (by decide) (by decide)) hi (by decide)
theorem kL188 {σ : XS} (h : Shp σ) : xal σ 188 = some (nI 403) := by rw [xal_ok (by rw [sT188 h]; decide), sl188 h]
theorem kA188 {σ : XS} (h : Shp σ) {I : Nat → Nat → Int32} {i : Nat} (hi : i < 403) : xaI (xw σ I) 20 188 (nI i) = some (I 188 i) := xw_aI (xw_K h (by decide) (by decide) (by decide)) hi (by decide)
theorem kS188 {σ : XS} (h : Shp σ) {I : Nat → Nat → Int32} {i : Nat} {v : Int32} (hi : i < 403) : xsI (xw σ I) 20 188 (nI i) v = some (xw σ (xup I 188 i v)) := xw_sI (xw_K h (by decide) (by decide) (by decide)) hi (by decide)
theorem kL189 {σ : XS} (h : Shp σ) : xal σ 189 = some (nI 403) := by rw [xal_ok (by rw [sT189 h]; decide), sl189 h]
theorem kL190 {σ : XS} (h : Shp σ) : xal σ 190 = some (nI 11) := by rw [xal_ok (by rw [sT190 h]; decide), sl190 h]
theorem kL191 {σ : XS} (h : Shp σ) : xal σ 191 = some (nI 66) := by rw [xal_ok (by rw [sT191 h]; decide), sl191 h]
theorem kA191 {σ : XS} (h : Shp σ) {I : Nat → Nat → Int32} {i : Nat} (hi : i < 66) : xaI (xw σ I) 20 191 (nI i) = some (I 191 i) := xw_aI (xw_K h (by decide) (by decide) (by decide)) hi (by decide)
theorem kS191 {σ : XS} (h : Shp σ) {I : Nat → Nat → Int32} {i : Nat} {v : Int32} (hi : i < 66) : xsI (xw σ I) 20 191 (nI i) v = some (xw σ (xup I 191 i v)) := xw_sI (xw_K h (by decide) (by decide) (by decide)) hi (by decide)
theorem kL192 {σ : XS} (h : Shp σ) : xal σ 192 = some (nI 66) := by rw [xal_ok (by rw [sT192 h]; decide), sl192 h]
theorem kA192 {σ : XS} (h : Shp σ) {I : Nat → Nat → Int32} {i : Nat} (hi : i < 66) : xaI (xw σ I) 20 192 (nI i) = some (I 192 i) := xw_aI (xw_K h (by decide) (by decide) (by decide)) hi (by decide)
theorem kS192 {σ : XS} (h : Shp σ) {I : Nat → Nat → Int32} {i : Nat} {v : Int32} (hi : i < 66) : xsI (xw σ I) 20 192 (nI i) v = some (xw σ (xup I 192 i v)) := xw_sI (xw_K h (by decide) (by decide) (by decide)) hi (by decide)
theorem kL193 {σ : XS} (h : Shp σ) : xal σ 193 = some (nI 2640) := by rw [xal_ok (by rw [sT193 h]; decide), sl193 h]
theorem kA193 {σ : XS} (h : Shp σ) {I : Nat → Nat → Int32} {i : Nat} (hi : i < 2640) : xaI (xw σ I) 20 193 (nI i) = some (I 193 i) := xw_aI (xw_K h (by decide) (by decide) (by decide)) hi (by decide)
theorem kS193 {σ : XS} (h : Shp σ) {I : Nat → Nat → Int32} {i : Nat} {v : Int32} (hi : i < 2640) : xsI (xw σ I) 20 193 (nI i) v = some (xw σ (xup I 193 i v)) := xw_sI (xw_K h (by decide) (by decide) (by decide)) hi (by decide)
theorem kL194 {σ : XS} (h : Shp σ) : xal σ 194 = some (nI 198) := by rw [xal_ok (by rw [sT194 h]; decide), sl194 h]
theorem kA194 {σ : XS} (h : Shp σ) {I : Nat → Nat → Int32} {i : Nat} (hi : i < 198) : xaI (xw σ I) 20 194 (nI i) = some (I 194 i) := xw_aI (xw_K h (by decide) (by decide) (by decide)) hi (by decide)
theorem kS194 {σ : XS} (h : Shp σ) {I : Nat → Nat → Int32} {i : Nat} {v : Int32} (hi : i < 198) : xsI (xw σ I) 20 194 (nI i) v = some (xw σ (xup I 194 i v)) := xw_sI (xw_K h (by decide) (by decide) (by decide)) hi (by decide)
theorem kL195 {σ : XS} (h : Shp σ) : xal σ 195 = some (nI 3) := by rw [xal_ok (by rw [sT195 h]; decide), sl195 h]
theorem kA195 {σ : XS} (h : Shp σ) {I : Nat → Nat → Int32} {i : Nat} (hi : i < 3) : xaI (xw σ I) 22 195 (nI i) = some (I 195 i) := xw_aI (xw_K h (by decide) (by decide) (by decide)) hi (by decide)
theorem kS195 {σ : XS} (h : Shp σ) {I : Nat → Nat → Int32} {i : Nat} {v : Int32} (hi : i < 3) : xsI (xw σ I) 22 195 (nI i) v = some (xw σ (xup I 195 i v)) := xw_sI (xw_K h (by decide) (by decide) (by decide)) hi (by decide)
theorem kL196 {σ : XS} (h : Shp σ) : xal σ 196 = some (nI 65536) := by rw [xal_ok (by rw [sT196 h]; decide), sl196 h]
theorem kA196 {σ : XS} (h : Shp σ) {I : Nat → Nat → Int32} {i : Nat} (hi : i < 65536) : xaI (xw σ I) 20 196 (nI i) = some (I 196 i) := xw_aI (xw_K h (by decide) (by decide) (by decide)) hi (by decide)
theorem kS196 {σ : XS} (h : Shp σ) {I : Nat → Nat → Int32} {i : Nat} {v : Int32} (hi : i < 65536) : xsI (xw σ I) 20 196 (nI i) v = some (xw σ (xup I 196 i v)) := xw_sI (xw_K h (by decide) (by decide) (by decide)) hi (by decide)
theorem kL197 {σ : XS} (h : Shp σ) : xal σ 197 = some (nI 301) := by rw [xal_ok (by rw [sT197 h]; decide), sl197 h]
theorem kA197 {σ : XS} (h : Shp σ) {I : Nat → Nat → Int32} {i : Nat} (hi : i < 301) : xaI (xw σ I) 20 197 (nI i) = some (I 197 i) := xw_aI (xw_K h (by decide) (by decide) (by decide)) hi (by decide)
theorem kS197 {σ : XS} (h : Shp σ) {I : Nat → Nat → Int32} {i : Nat} {v : Int32} (hi : i < 301) : xsI (xw σ I) 20 197 (nI i) v = some (xw σ (xup I 197 i v)) := xw_sI (xw_K h (by decide) (by decide) (by decide)) hi (by decide)
theorem kL198 {σ : XS} (h : Shp σ) : xal σ 198 = some (nI 301) := by rw [xal_ok (by rw [sT198 h]; decide), sl198 h]
theorem kA198 {σ : XS} (h : Shp σ) {I : Nat → Nat → Int32} {i : Nat} (hi : i < 301) : xaI (xw σ I) 20 198 (nI i) = some (I 198 i) := xw_aI (xw_K h (by decide) (by decide) (by decide)) hi (by decide)
theorem kS198 {σ : XS} (h : Shp σ) {I : Nat → Nat → Int32} {i : Nat} {v : Int32} (hi : i < 301) : xsI (xw σ I) 20 198 (nI i) v = some (xw σ (xup I 198 i v)) := xw_sI (xw_K h (by decide) (by decide) (by decide)) hi (by decide)
theorem kL199 {σ : XS} (h : Shp σ) : xal σ 199 = some (nI 66) := by rw [xal_ok (by rw [sT199 h]; decide), sl199 h]
theorem kA199 {σ : XS} (h : Shp σ) {I : Nat → Nat → Int32} {i : Nat} (hi : i < 66) : xaI (xw σ I) 20 199 (nI i) = some (I 199 i) := xw_aI (xw_K h (by decide) (by decide) (by decide)) hi (by decide)
theorem kS199 {σ : XS} (h : Shp σ) {I : Nat → Nat → Int32} {i : Nat} {v : Int32} (hi : i < 66) : xsI (xw σ I) 20 199 (nI i) v = some (xw σ (xup I 199 i v)) := xw_sI (xw_K h (by decide) (by decide) (by decide)) hi (by decide)
theorem kL200 {σ : XS} (h : Shp σ) : xal σ 200 = some (nI 301) := by rw [xal_ok (by rw [sT200 h]; decide), sl200 h]
theorem kA200 {σ : XS} (h : Shp σ) {I : Nat → Nat → Int32} {i : Nat} (hi : i < 301) : xaI (xw σ I) 20 200 (nI i) = some (I 200 i) := xw_aI (xw_K h (by decide) (by decide) (by decide)) hi (by decide)
theorem kS200 {σ : XS} (h : Shp σ) {I : Nat → Nat → Int32} {i : Nat} {v : Int32} (hi : i < 301) : xsI (xw σ I) 20 200 (nI i) v = some (xw σ (xup I 200 i v)) := xw_sI (xw_K h (by decide) (by decide) (by decide)) hi (by decide)
theorem kL201 {σ : XS} (h : Shp σ) : xal σ 201 = some (nI 601) := by rw [xal_ok (by rw [sT201 h]; decide), sl201 h]
theorem kL202 {σ : XS} (h : Shp σ) : xal σ 202 = some (nI 1024) := by rw [xal_ok (by rw [sT202 h]; decide), sl202 h]
theorem kA202 {σ : XS} (h : Shp σ) {I : Nat → Nat → Int32} {i : Nat} (hi : i < 1024) : xaI (xw σ I) 20 202 (nI i) = some (I 202 i) := xw_aI (xw_K h (by decide) (by decide) (by decide)) hi (by decide)
theorem kS202 {σ : XS} (h : Shp σ) {I : Nat → Nat → Int32} {i : Nat} {v : Int32} (hi : i < 1024) : xsI (xw σ I) 20 202 (nI i) v = some (xw σ (xup I 202 i v)) := xw_sI (xw_K h (by decide) (by decide) (by decide)) hi (by decide)
theorem kL203 {σ : XS} (h : Shp σ) : xal σ 203 = some (nI 1024) := by rw [xal_ok (by rw [sT203 h]; decide), sl203 h]
theorem kA203 {σ : XS} (h : Shp σ) {I : Nat → Nat → Int32} {i : Nat} (hi : i < 1024) : xaI (xw σ I) 22 203 (nI i) = some (I 203 i) := xw_aI (xw_K h (by decide) (by decide) (by decide)) hi (by decide)
theorem kS203 {σ : XS} (h : Shp σ) {I : Nat → Nat → Int32} {i : Nat} {v : Int32} (hi : i < 1024) : xsI (xw σ I) 22 203 (nI i) v = some (xw σ (xup I 203 i v)) := xw_sI (xw_K h (by decide) (by decide) (by decide)) hi (by decide)
theorem kL204 {σ : XS} (h : Shp σ) : xal σ 204 = some (nI 1024) := by rw [xal_ok (by rw [sT204 h]; decide), sl204 h]
theorem kA204 {σ : XS} (h : Shp σ) {I : Nat → Nat → Int32} {i : Nat} (hi : i < 1024) : xaI (xw σ I) 20 204 (nI i) = some (I 204 i) := xw_aI (xw_K h (by decide) (by decide) (by decide)) hi (by decide)
theorem kS204 {σ : XS} (h : Shp σ) {I : Nat → Nat → Int32} {i : Nat} {v : Int32} (hi : i < 1024) : xsI (xw σ I) 20 204 (nI i) v = some (xw σ (xup I 204 i v)) := xw_sI (xw_K h (by decide) (by decide) (by decide)) hi (by decide)
theorem kL205 {σ : XS} (h : Shp σ) : xal σ 205 = some (nI 1024) := by rw [xal_ok (by rw [sT205 h]; decide), sl205 h]
theorem kL206 {σ : XS} (h : Shp σ) : xal σ 206 = some (nI 256) := by rw [xal_ok (by rw [sT206 h]; decide), sl206 h]
theorem kA206 {σ : XS} (h : Shp σ) {I : Nat → Nat → Int32} {i : Nat} (hi : i < 256) : xaI (xw σ I) 20 206 (nI i) = some (I 206 i) := xw_aI (xw_K h (by decide) (by decide) (by decide)) hi (by decide)
theorem kS206 {σ : XS} (h : Shp σ) {I : Nat → Nat → Int32} {i : Nat} {v : Int32} (hi : i < 256) : xsI (xw σ I) 20 206 (nI i) v = some (xw σ (xup I 206 i v)) := xw_sI (xw_K h (by decide) (by decide) (by decide)) hi (by decide)
