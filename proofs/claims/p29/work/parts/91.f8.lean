section
/-! the draft from its beginning to its last line -/
def rgN (b : Nat → Int32) (m : Nat) : Nat → Nat
  | 0 => 0
  | i + 1 => if tKd b m i = 9 then (if tKd b m (i + 1) = 6 then rgN b m i ||| 1 else rgN b m i ||| 2) else rgN b m i
theorem rgN_b (b : Nat → Int32) (m : Nat) : ∀ i, rgN b m i < 4
  | 0 => by show 0 < 4; omega
  | i + 1 => by
    have ih := rgN_b b m i
    have h : ∀ x, x < 4 → x ||| 1 < 4 ∧ x ||| 2 < 4 := by decide
    rw [rgN]
    split
    · split
      · exact (h _ ih).1
      · exact (h _ ih).2
    · exact ih
section BUILD
variable {σ : XS} {J0 J : Nat → Nat → Int32} {b : Nat → Int32} {m T w l r c : Nat}
theorem begin_ok (hS : Shp σ) : ∃ J', f_X1_begin (xw σ J) 2 = some (xw σ J') ∧ J' 2 2 = 0 ∧ J' 2 3 = -1 ∧ J' 2 4 = 0 ∧ J' 2 7 = 0 ∧ J' 2 8 = 0 ∧ J' 2 9 = 0 ∧ J' 2 10 = 0 ∧ J' 2 11 = 0 ∧ J' 2 12 = 0 ∧ (∀ t, t < 32 → J' 9 t = 0) ∧ (∀ i, i < 16 → J' 10 i = 0) ∧ J' 8 2 = 0 ∧ J' 8 3 = 0 ∧ J' 8 4 = 0 ∧ J' 8 5 = 0 ∧ ∀ a q, ¬ (a = 2 ∨ (8 ≤ a ∧ a ≤ 10)) → J' a q = J a q := by
  have K9 : σ.1 9 = (20, 32) := xw_K hS (by decide) (by decide) (by decide)
  have K10 : σ.1 10 = (20, 16) := xw_K hS (by decide) (by decide) (by decide)
  have f9 := fillI_ok (σ := σ) (I := J) (v := 0) K9 (by decide)
  obtain ⟨A, hA⟩ : ∃ A, A = xur J 9 (fun j => if j < 32 then 0 else J 9 j) := ⟨_, rfl⟩
  rw [← hA] at f9
  have f10 := fillI_ok (σ := σ) (I := A) (v := 0) K10 (by decide)
  obtain ⟨B, hB⟩ : ∃ B, B = xur A 10 (fun j => if j < 16 then 0 else A 10 j) := ⟨_, rfl⟩
  rw [← hB] at f10
  have cl : f_X6_clear (xw σ J) 8 = some (xw σ (xup (xup (xup (xup B 8 2 0) 8 3 0) 8 4 0) 8 5 0)) := by
    unfold f_X6_clear
    simp (disch := first | assumption | omega) only [Option.bind_some, Option.map_some, xw_gR, xw_gN, xw_al, xw_ck, xw_uI, xw_ur, xup_at, xur_at, if_true, if_false, reduceIte, and_true, true_and, and_false, false_and, not_true_eq_false, not_false_eq_true, Nat.reduceEqDiff, eq_self, Nat.reduceAdd, Nat.reduceMul, kC1, kG1, kP1, kR1_0, kR1_1, kR1_2, kR1_3, kR1_4, kR1_5, kR1_6, kR1_7, kR1_8, kR1_9, kR1_10, kR1_11, kR1_12, kR1_13, kC2, kG2, kP2, kR2_0, kR2_1, kC3, kG3, kP3, kR3_0, kR3_1, kR3_2, kR3_3, kL4, kA4, kS4, kL5, kA5, kS5, kL6, kA6, kS6, kL7, kA7, kS7, kC8, kG8, kP8, kR8_0, kR8_1, kL9, kA9, kS9, kL10, kA10, kS10, kC11, kG11, kP11, kR11_0, kR11_1, kR11_2, kR11_3, kL12, kA12, kS12, kL13, kA13, kS13, kL14, kA14, kS14, kL15, kA15, kS15, kC16, kG16, kP16, kR16_0, kR16_1, kL17, kA17, kS17, kL18, kA18, kS18, kC19, kG19, kP19, kR19_0, kL20, kL141, kL146, kA146, kS146, kL151, kA151, kS151, kL156, kA156, kS156, kC157, kG157, kP157, kR157_0, kR157_1, kL158, kA158, kS158, kL159, kA159, kS159, kC161, kG161, kP161, kR161_0, kR161_1, kL162, kA162, kS162, kL163, kA163, kS163, kC165, kG165, kP165, kR165_0, kR165_1, kR165_2, kR165_3, kL166, kA166, kS166, kL167, kA167, kS167, kL168, kA168, kS168, kL169, kA169, kS169, kC170, kG170, kP170, kR170_0, kR170_1, kR170_2, kL171, kA171, kS171, kL172, kA172, kS172, kL173, kA173, kS173, kC174, kG174, kP174, kR174_0, kR174_1, kR174_2, kR174_3, kR174_4, kL175, kA175, kS175, kL176, kA176, kS176, kL177, kA177, kS177, kL178, kA178, kS178, kL179, kC180, kG180, kP180, kL181, kL182, kA182, kS182, kC183, kG183, kP183, kR183_1, kR183_3, kR183_5, kR183_6, kR183_7, kR183_8, kR183_9, kR183_21, kR183_26, kR183_27, kR183_30, kR183_31, kR183_33, kR183_34, kR183_36, kR183_37, kR183_38, kR183_39, kR183_40, kR183_41, kR183_42, kR183_43, kR183_44, kL184, kA184, kS184, kL185, kA185, kS185, kL186, kA186, kS186, kL187, kA187, kS187, kL188, kA188, kS188, kL189, kL190, kL191, kA191, kS191, kL192, kA192, kS192, kL193, kA193, kS193, kL194, kA194, kS194, kL195, kA195, kS195, kL196, kA196, kS196, kL197, kA197, kS197, kL198, kA198, kS198, kL199, kA199, kS199, kL200, kA200, kS200, kL201, kL202, kA202, kS202, kL203, kA203, kS203, kL204, kA204, kS204, kL205, kL206, kA206, kS206, f9, f10]
  obtain ⟨C, hC⟩ : ∃ C, C = xup (xup (xup (xup B 8 2 0) 8 3 0) 8 4 0) 8 5 0 := ⟨_, rfl⟩
  rw [← hC] at cl
  have uB : ∀ a q, a ≠ 9 → a ≠ 10 → B a q = J a q := fun a q h1 h2 => by rw [hB, xur_at, if_neg h2, hA, xur_at, if_neg h1]
  have uC : ∀ a q, a ≠ 8 → C a q = B a q := fun a q h => by rw [hC, xup_at, if_neg (by omega), xup_at, if_neg (by omega), xup_at, if_neg (by omega), xup_at, if_neg (by omega)]
  refine ⟨xup (xup (xup (xup (xup (xup (xup (xup (xup C 2 2 0) 2 3 (-1)) 2 4 0) 2 7 0) 2 8 0) 2 9 0) 2 10 0) 2 11 0) 2 12 0, ?_, ?_, ?_, ?_, ?_, ?_, ?_, ?_, ?_, ?_, fun t ht => ?_, fun i hi => ?_, ?_, ?_, ?_, ?_, fun a q h => ?_⟩
  · unfold f_X1_begin
    simp (disch := first | assumption | omega) only [Option.bind_some, Option.map_some, xw_gR, xw_gN, xw_al, xw_ck, xw_uI, xw_ur, xup_at, xur_at, if_true, if_false, reduceIte, and_true, true_and, and_false, false_and, not_true_eq_false, not_false_eq_true, Nat.reduceEqDiff, eq_self, Nat.reduceAdd, Nat.reduceMul, kC1, kG1, kP1, kR1_0, kR1_1, kR1_2, kR1_3, kR1_4, kR1_5, kR1_6, kR1_7, kR1_8, kR1_9, kR1_10, kR1_11, kR1_12, kR1_13, kC2, kG2, kP2, kR2_0, kR2_1, kC3, kG3, kP3, kR3_0, kR3_1, kR3_2, kR3_3, kL4, kA4, kS4, kL5, kA5, kS5, kL6, kA6, kS6, kL7, kA7, kS7, kC8, kG8, kP8, kR8_0, kR8_1, kL9, kA9, kS9, kL10, kA10, kS10, kC11, kG11, kP11, kR11_0, kR11_1, kR11_2, kR11_3, kL12, kA12, kS12, kL13, kA13, kS13, kL14, kA14, kS14, kL15, kA15, kS15, kC16, kG16, kP16, kR16_0, kR16_1, kL17, kA17, kS17, kL18, kA18, kS18, kC19, kG19, kP19, kR19_0, kL20, kL141, kL146, kA146, kS146, kL151, kA151, kS151, kL156, kA156, kS156, kC157, kG157, kP157, kR157_0, kR157_1, kL158, kA158, kS158, kL159, kA159, kS159, kC161, kG161, kP161, kR161_0, kR161_1, kL162, kA162, kS162, kL163, kA163, kS163, kC165, kG165, kP165, kR165_0, kR165_1, kR165_2, kR165_3, kL166, kA166, kS166, kL167, kA167, kS167, kL168, kA168, kS168, kL169, kA169, kS169, kC170, kG170, kP170, kR170_0, kR170_1, kR170_2, kL171, kA171, kS171, kL172, kA172, kS172, kL173, kA173, kS173, kC174, kG174, kP174, kR174_0, kR174_1, kR174_2, kR174_3, kR174_4, kL175, kA175, kS175, kL176, kA176, kS176, kL177, kA177, kS177, kL178, kA178, kS178, kL179, kC180, kG180, kP180, kL181, kL182, kA182, kS182, kC183, kG183, kP183, kR183_1, kR183_3, kR183_5, kR183_6, kR183_7, kR183_8, kR183_9, kR183_21, kR183_26, kR183_27, kR183_30, kR183_31, kR183_33, kR183_34, kR183_36, kR183_37, kR183_38, kR183_39, kR183_40, kR183_41, kR183_42, kR183_43, kR183_44, kL184, kA184, kS184, kL185, kA185, kS185, kL186, kA186, kS186, kL187, kA187, kS187, kL188, kA188, kS188, kL189, kL190, kL191, kA191, kS191, kL192, kA192, kS192, kL193, kA193, kS193, kL194, kA194, kS194, kL195, kA195, kS195, kL196, kA196, kS196, kL197, kA197, kS197, kL198, kA198, kS198, kL199, kA199, kS199, kL200, kA200, kS200, kL201, kL202, kA202, kS202, kL203, kA203, kS203, kL204, kA204, kS204, kL205, kL206, kA206, kS206, cl]
  · simp [xup_at]
  · simp [xup_at]
  · simp [xup_at]
  · simp [xup_at]
  · simp [xup_at]
  · simp [xup_at]
  · simp [xup_at]
  · simp [xup_at]
  · simp [xup_at]
  · have : C 9 t = 0 := by rw [uC _ _ (by omega), hB, xur_at, if_neg (by omega), hA, xur_at, if_pos rfl, if_pos ht]
    simp [xup_at, this]
  · have : C 10 i = 0 := by rw [uC _ _ (by omega), hB, xur_at, if_pos rfl, if_pos hi]
    simp [xup_at, this]
  · have : C 8 2 = 0 := by rw [hC]; simp [xup_at]
    simp [xup_at, this]
  · have : C 8 3 = 0 := by rw [hC]; simp [xup_at]
    simp [xup_at, this]
  · have : C 8 4 = 0 := by rw [hC]; simp [xup_at]
    simp [xup_at, this]
  · have : C 8 5 = 0 := by rw [hC]; simp [xup_at]
    simp [xup_at, this]
  · rw [xup_at, if_neg (by omega), xup_at, if_neg (by omega), xup_at, if_neg (by omega), xup_at, if_neg (by omega), xup_at, if_neg (by omega), xup_at, if_neg (by omega), xup_at, if_neg (by omega), xup_at, if_neg (by omega), xup_at, if_neg (by omega), uC a q (by omega), uB a q (by omega) (by omega)]
theorem takeSize_ok (hS : Shp σ) (hC : CT J b m T) (h4 : J 2 4 = 0) (h2 : J 2 2 = 0) : ∃ J', f_X1_takeSize (xw σ J) 2 = some (xw σ J') ∧ J' 2 4 = nI 4 ∧ J' 2 5 = nI (tNu b m 1) ∧ J' 2 6 = nI (tNu b m 2) ∧ (szF (tNu b m 1) (tNu b m 2) = none → J' 2 2 = J 2 2 ∧ J' 2 3 = J 2 3) ∧ (∀ x j, szF (tNu b m 1) (tNu b m 2) = some (x, j) → J' 2 2 = nI x ∧ J' 2 3 = nI (tSt b m j)) ∧ ∀ a q, ¬ (a = 2 ∧ 2 ≤ q ∧ q ≤ 6) → J' a q = J a q := by
  have hT := hC.1
  obtain ⟨T4, k0, k1, k2, k3, -⟩ := head_at hT
  have T400 := hT.2.1
  have V1 := tNu_b k1
  have V2 := tNu_b k2
  obtain ⟨w, hw⟩ : ∃ w, w = tNu b m 1 := ⟨_, rfl⟩
  obtain ⟨l, hl⟩ : ∃ l, l = tNu b m 2 := ⟨_, rfl⟩
  rw [← hw, ← hl]
  have hwl : w * l < 2147483648 := by
    have : w * l ≤ 10000 * 10000 := Nat.mul_le_mul (by omega) (by omega)
    omega
  have cc : ∀ {J1 : Nat → Nat → Int32}, (∀ a q, a ≠ 2 → J1 a q = J a q) → CT J1 b m T := fun h => CT_c (fun a q h1 _ _ _ => h a q h1) hC
  have t0 := tkKind (σ := σ) (c := 0) hS hC (by omega) h4
  obtain ⟨A, hA⟩ : ∃ A, A = xup J 2 4 (nI (0 + 1)) := ⟨_, rfl⟩
  rw [← hA] at t0
  have uA : ∀ a q, ¬ (a = 2 ∧ q = 4) → A a q = J a q := fun a q h => by rw [hA, xup_at, if_neg h]
  have t1 := tkInt (σ := σ) (J := A) (c := 1) hS (cc (fun a q h => uA a q (by omega))) (by omega) k1 (by rw [hA, xup_at, if_pos ⟨rfl, rfl⟩])
  rw [← hw] at t1
  obtain ⟨B, hB⟩ : ∃ B, B = xup (xup A 2 4 (nI (1 + 1))) 2 5 (nI w) := ⟨_, rfl⟩
  have uB : ∀ a q, ¬ (a = 2 ∧ (q = 4 ∨ q = 5)) → B a q = J a q := fun a q h => by rw [hB, xup_at, if_neg (by omega), xup_at, if_neg (by omega), uA a q (by omega)]
  have B5 : B 2 5 = nI w := by rw [hB, xup_at, if_pos ⟨rfl, rfl⟩]
  have B4 : B 2 4 = nI 2 := by rw [hB, xup_at, if_neg (by omega), xup_at, if_pos ⟨rfl, rfl⟩]
  -- the first blame
  obtain ⟨C, hCC⟩ : ∃ C, C = blI B (decide (w < 1 ∨ 4 < w)) 3 (nI (tSt b m 1)) := ⟨_, rfl⟩
  have uC : ∀ a q, ¬ (a = 2 ∧ (q = 2 ∨ q = 3)) → C a q = B a q := fun a q h => by rw [hCC, blI_out h]
  have pl1 := plAt_ok (σ := σ) (J := B) (i := 1) hS (cc (fun a q h => uB a q (by omega))) (by omega)
  have t2 := tkInt (σ := σ) (J := C) (c := 2) hS (cc (fun a q h => by rw [uC a q (by omega)]; exact uB a q (by omega))) (by omega) k2 (by rw [uC _ _ (by omega)]; exact B4)
  rw [← hl] at t2
  obtain ⟨D, hD⟩ : ∃ D, D = xup (xup C 2 4 (nI (2 + 1))) 2 6 (nI l) := ⟨_, rfl⟩
  have uD : ∀ a q, ¬ (a = 2 ∧ (q = 4 ∨ q = 6)) → D a q = C a q := fun a q h => by rw [hD, xup_at, if_neg (by omega), xup_at, if_neg (by omega)]
  have D6 : D 2 6 = nI l := by rw [hD, xup_at, if_pos ⟨rfl, rfl⟩]
  have D5 : D 2 5 = nI w := by rw [uD _ _ (by omega), uC _ _ (by omega)]; exact B5
  have D4 : D 2 4 = nI 3 := by rw [hD, xup_at, if_neg (by omega), xup_at, if_pos ⟨rfl, rfl⟩]
  obtain ⟨E, hE⟩ : ∃ E, E = blI D (decide (l < 1 ∨ 16 < l ∨ 16 < w * l)) 3 (nI (tSt b m 2)) := ⟨_, rfl⟩
  have uE : ∀ a q, ¬ (a = 2 ∧ (q = 2 ∨ q = 3)) → E a q = D a q := fun a q h => by rw [hE, blI_out h]
  have hCD : CT D b m T := cc (fun a q h => by rw [uD a q (by omega), uC a q (by omega)]; exact uB a q (by omega))
  have pl2 := plAt_ok (σ := σ) (J := D) (i := 2) hS hCD (by omega)
  have hCE : CT E b m T := CT_c (fun a q h1 _ _ _ => uE a q (by omega)) hCD
  have t3 := tkKind (σ := σ) (J := E) (c := 3) hS hCE (by omega) (by rw [uE _ _ (by omega)]; exact D4)
  have B2 : B 2 2 = 0 := by rw [uB _ _ (by omega)]; exact h2
  refine ⟨xup E 2 4 (nI (3 + 1)), ?_, by rw [xup_at, if_pos ⟨rfl, rfl⟩], by rw [xup_at, if_neg (by omega), uE _ _ (by omega)]; exact D5, by rw [xup_at, if_neg (by omega), uE _ _ (by omega)]; exact D6, fun hz => ?_, fun x j hz => ?_, fun a q h => ?_⟩
  · -- from the end
    have j104 : f_X1_takeSize_j104 (xw σ E) 2 = some (xw σ (xup E 2 4 (nI (3 + 1)))) := by
      unfold f_X1_takeSize_j104
      rw [xw_ck, kC2 hS, Option.bind_some, t3, Option.bind_some]
    have e2 : nI 3 - (1 : Int32) = nI 2 := by decide
    have e1 : nI 2 - (1 : Int32) = nI 1 := by decide
    have j47 : f_X1_takeSize_j47 (xw σ C) 2 = some (xw σ (xup E 2 4 (nI (3 + 1)))) := by
      have j86 : (l < 1 ∨ 16 < l ∨ 16 < w * l) → f_X1_takeSize_j86 (xw σ D) 2 = some (xw σ (xup E 2 4 (nI (3 + 1)))) := by
        intro hb
        unfold f_X1_takeSize_j86
        rw [xw_gR, kR2_0 hS, Option.bind_some, kG2 hS, Option.bind_some, D4, e2, xw_ck, kC3 hS, Option.bind_some, pl2, Option.bind_some, xw_ck, kC2 hS, Option.bind_some, blame_b hS, Option.bind_some]
        rw [decide_eq_true hb] at hE
        rw [← hE]
        exact j104
      have q1 : (nI l < (1 : Int32)) = (l < 1) := nn_lt (b := 1) (by omega) (by decide)
      have q2 : ((16 : Int32) < nI l) = (16 < l) := nn_lt (a := 16) (by decide) (by omega)
      have q3 : (nI w * nI l ≤ (16 : Int32)) = (w * l ≤ 16) := by rw [nn_mul]; exact nn_le (b := 16) (by omega) (by decide)
      unfold f_X1_takeSize_j47
      rw [xw_ck, kC2 hS, Option.bind_some, t2, Option.bind_some]
      dsimp only
      rw [kP2 hS, Option.bind_some, ← hD]
      simp only [kG2 hS, Option.bind_some, D6, D5, q1, q2, q3]
      by_cases a1 : l < 1
      · rw [if_pos a1]; exact j86 (.inl a1)
      · rw [if_neg a1]
        by_cases a2 : 16 < l
        · rw [if_pos a2]; exact j86 (.inr (.inl a2))
        · rw [if_neg a2]
          by_cases a3 : w * l ≤ 16
          · rw [if_pos a3]
            have hb : ¬ (l < 1 ∨ 16 < l ∨ 16 < w * l) := by omega
            rw [decide_eq_false hb, blI_f] at hE
            rw [hE] at j104
            rw [hE]
            exact j104
          · rw [if_neg a3]; exact j86 (.inr (.inr (by omega)))
    have j29 : (w < 1 ∨ 4 < w) → f_X1_takeSize_j29 (xw σ B) 2 = some (xw σ (xup E 2 4 (nI (3 + 1)))) := by
      intro hb
      unfold f_X1_takeSize_j29
      rw [xw_gR, kR2_0 hS, Option.bind_some, kG2 hS, Option.bind_some, B4, e1, xw_ck, kC3 hS, Option.bind_some, pl1, Option.bind_some, xw_ck, kC2 hS, Option.bind_some, blame_b hS, Option.bind_some]
      rw [decide_eq_true hb] at hCC
      rw [← hCC]
      exact j47
    have q1 : (nI w < (1 : Int32)) = (w < 1) := nn_lt (b := 1) (by omega) (by decide)
    have q2 : (nI w ≤ (4 : Int32)) = (w ≤ 4) := nn_le (b := 4) (by omega) (by decide)
    unfold f_X1_takeSize
    rw [xw_ck, kC2 hS, Option.bind_some, t0, Option.bind_some]
    dsimp only
    rw [xw_ck, kC2 hS, Option.bind_some, t1, Option.bind_some]
    dsimp only
    rw [kP2 hS, Option.bind_some, ← hB]
    simp only [kG2 hS, Option.bind_some, B5, q1, q2]
    by_cases a1 : w < 1
    · rw [if_pos a1]; exact j29 (.inl a1)
    · rw [if_neg a1]
      by_cases a2 : w ≤ 4
      · rw [if_pos a2]
        have hb : ¬ (w < 1 ∨ 4 < w) := by omega
        rw [decide_eq_false hb, blI_f] at hCC
        rw [← hCC]
        exact j47
      · rw [if_neg a2]; exact j29 (.inr (by omega))
  · unfold szF at hz
    split at hz
    · cases hz
    · next n1 =>
      split at hz
      · cases hz
      · next n2 =>
        rw [decide_eq_false n1, blI_f] at hCC
        rw [decide_eq_false n2, blI_f] at hE
        rw [xup_at, if_neg (by omega), xup_at, if_neg (by omega), hE, uD _ _ (by omega), uD _ _ (by omega), hCC]
        exact ⟨uB _ _ (by omega), uB _ _ (by omega)⟩
  · rw [xup_at, if_neg (by omega), xup_at, if_neg (by omega)]
    unfold szF at hz
    split at hz
    · next n1 =>
      cases hz
      rw [decide_eq_true n1, blI_t B2] at hCC
      have C2 : C 2 2 = nI 3 := by rw [hCC, xup_at, if_neg (by omega), xup_at, if_pos ⟨rfl, rfl⟩]; rfl
      have D2 : D 2 2 ≠ 0 := by rw [uD _ _ (by omega), C2]; decide
      rw [blI_n D2] at hE
      rw [hE, uD _ _ (by omega), uD _ _ (by omega), C2]
      refine ⟨rfl, ?_⟩
      rw [hCC, xup_at, if_pos ⟨rfl, rfl⟩]
    · next n1 =>
      split at hz
      · next n2 =>
        cases hz
        rw [decide_eq_false n1, blI_f] at hCC
        have D2 : D 2 2 = 0 := by rw [uD _ _ (by omega), hCC]; exact B2
        rw [decide_eq_true n2, blI_t D2] at hE
        rw [hE, xup_at, if_neg (by omega), xup_at, if_pos ⟨rfl, rfl⟩, xup_at, if_pos ⟨rfl, rfl⟩]
        exact ⟨rfl, rfl⟩
      · cases hz
  · rw [xup_at, if_neg (by omega), uE a q (by omega), uD a q (by omega), uC a q (by omega), uB a q (by omega)]
theorem rings_ok (hS : Shp σ) (hC : CT J b m T) (h4 : J 2 4 = nI 4) (h7 : J 2 7 = 0) : ∃ J', f_X1_seeRings (xw σ J) 2 = some (xw σ J') ∧ J' 2 7 = nI (rgN b m T) ∧ ∀ a q, ¬ (a = 2 ∧ q = 7) → J' a q = J a q := by
  have hT := hC.1
  obtain ⟨T4, k0, k1, k2, k3, -⟩ := head_at hT
  have T400 := hT.2.1
  have r4 : rgN b m 4 = 0 := by
    have e : ∀ i, i < 4 → tKd b m i ≠ 9 := fun i hi => by
      rcases (show i = 0 ∨ i = 1 ∨ i = 2 ∨ i = 3 by omega) with z | z | z | z <;> rw [z] <;> omega
    have : ∀ i, i ≤ 4 → rgN b m i = 0 := fun i => by
      induction i with
      | zero => intro _; rfl
      | succ i ih => intro h; rw [rgN, if_neg (e i (by omega))]; exact ih (by omega)
    exact this 4 (Nat.le_refl _)
  have e0 : xup J 2 7 (nI (rgN b m (4 + 0))) = J := by
    funext a q
    rw [xup_at]
    by_cases z : a = 2 ∧ q = 7
    · rw [if_pos z, z.1, z.2, h7]
      show nI (rgN b m 4) = 0
      rw [r4]; rfl
    · rw [if_neg z]
  refine ⟨xup J 2 7 (nI (rgN b m T)), ?_, by rw [xup_at, if_pos ⟨rfl, rfl⟩], fun a q h => by rw [xup_at, if_neg h]⟩
  unfold f_X1_seeRings
  rw [kG2 hS, Option.bind_some, h4]
  have hCi : ∀ v, CT (xup J 2 7 v) b m T := fun v => CT_c (fun a q h1 _ _ _ => by rw [xup_at, if_neg (by omega)]) hC
  refine xforE (fun i : Nat => (nI (4 + i), xw σ (xup J 2 7 (nI (rgN b m (4 + i)))))) (T - 4) (by simp only [e0]) (fun i hi => ?_) ?_
  · have v5 : xup J 2 7 (nI (rgN b m (4 + i))) 3 5 = nI T := by rw [xup_at, if_neg (by omega)]; exact hC.2.1
    have q1 : (nI T ≤ nI (4 + i)) = False := by rw [nn_le (by omega) (by omega)]; exact eq_false (by omega)
    have ka := kindAt_ok (σ := σ) hS (hCi (nI (rgN b m (4 + i)))) (show 4 + i ≤ T by omega)
    have kb := kindAt_ok (σ := σ) hS (hCi (nI (rgN b m (4 + i)))) (show 4 + i + 1 ≤ T by omega)
    have kk := tKd_b (b := b) (m := m) (4 + i)
    have kk2 := tKd_b (b := b) (m := m) (4 + i + 1)
    have q9 : (nI (tKd b m (4 + i)) = (9 : Int32)) = (tKd b m (4 + i) = 9) := nn_eq (b := 9) (by omega) (by decide)
    have q6 : (nI (tKd b m (4 + i + 1)) = (6 : Int32)) = (tKd b m (4 + i + 1) = 6) := nn_eq (b := 6) (by omega) (by decide)
    have u7 : xup J 2 7 (nI (rgN b m (4 + i))) 2 7 = nI (rgN b m (4 + i)) := by rw [xup_at, if_pos ⟨rfl, rfl⟩]
    have er : rgN b m (4 + (i + 1)) = if tKd b m (4 + i) = 9 then (if tKd b m (4 + i + 1) = 6 then rgN b m (4 + i) ||| 1 else rgN b m (4 + i) ||| 2) else rgN b m (4 + i) := rfl
    have o1 : nI (rgN b m (4 + i)) ||| (1 : Int32) = nI (rgN b m (4 + i) ||| 1) := fa_or _ 1
    have o2 : nI (rgN b m (4 + i)) ||| (2 : Int32) = nI (rgN b m (4 + i) ||| 2) := fa_or _ 2
    have es : nI (4 + i) + (1 : Int32) = nI (4 + i + 1) := (nI_succ (4 + i)).symm
    simp only [f_X1_seeRings_b5]
    simp only [xw_gR, kR2_0 hS, kG3 hS, v5, q1, if_false, Option.bind_some, xw_ck, kC3 hS, ka, kG2 hS, u7, es, kb, o1, o2, kP2 hS, xup2, er, q9, q6]
    by_cases z1 : tKd b m (4 + i) = 9
    · rw [if_pos z1, if_pos z1]
      by_cases z2 : tKd b m (4 + i + 1) = 6
      · rw [if_pos z2, if_pos z2]; rfl
      · rw [if_neg z2, if_neg z2]; rfl
    · rw [if_neg z1, if_neg z1]; rfl
  · have e : 4 + (T - 4) = T := by omega
    have v5 : xup J 2 7 (nI (rgN b m T)) 3 5 = nI T := by rw [xup_at, if_neg (by omega)]; exact hC.2.1
    have q1 : (nI T ≤ nI T) = True := by rw [nn_le (by omega) (by omega)]; exact eq_true (Nat.le_refl _)
    simp only [f_X1_seeRings_b5, e]
    simp (disch := first | assumption | omega) only [Option.bind_some, Option.map_some, xw_gR, xw_gN, xw_al, xw_ck, xw_uI, xw_ur, xup_at, xur_at, if_true, if_false, reduceIte, and_true, true_and, and_false, false_and, not_true_eq_false, not_false_eq_true, Nat.reduceEqDiff, eq_self, Nat.reduceAdd, Nat.reduceMul, kC1, kG1, kP1, kR1_0, kR1_1, kR1_2, kR1_3, kR1_4, kR1_5, kR1_6, kR1_7, kR1_8, kR1_9, kR1_10, kR1_11, kR1_12, kR1_13, kC2, kG2, kP2, kR2_0, kR2_1, kC3, kG3, kP3, kR3_0, kR3_1, kR3_2, kR3_3, kL4, kA4, kS4, kL5, kA5, kS5, kL6, kA6, kS6, kL7, kA7, kS7, kC8, kG8, kP8, kR8_0, kR8_1, kL9, kA9, kS9, kL10, kA10, kS10, kC11, kG11, kP11, kR11_0, kR11_1, kR11_2, kR11_3, kL12, kA12, kS12, kL13, kA13, kS13, kL14, kA14, kS14, kL15, kA15, kS15, kC16, kG16, kP16, kR16_0, kR16_1, kL17, kA17, kS17, kL18, kA18, kS18, kC19, kG19, kP19, kR19_0, kL20, kL141, kL146, kA146, kS146, kL151, kA151, kS151, kL156, kA156, kS156, kC157, kG157, kP157, kR157_0, kR157_1, kL158, kA158, kS158, kL159, kA159, kS159, kC161, kG161, kP161, kR161_0, kR161_1, kL162, kA162, kS162, kL163, kA163, kS163, kC165, kG165, kP165, kR165_0, kR165_1, kR165_2, kR165_3, kL166, kA166, kS166, kL167, kA167, kS167, kL168, kA168, kS168, kL169, kA169, kS169, kC170, kG170, kP170, kR170_0, kR170_1, kR170_2, kL171, kA171, kS171, kL172, kA172, kS172, kL173, kA173, kS173, kC174, kG174, kP174, kR174_0, kR174_1, kR174_2, kR174_3, kR174_4, kL175, kA175, kS175, kL176, kA176, kS176, kL177, kA177, kS177, kL178, kA178, kS178, kL179, kC180, kG180, kP180, kL181, kL182, kA182, kS182, kC183, kG183, kP183, kR183_1, kR183_3, kR183_5, kR183_6, kR183_7, kR183_8, kR183_9, kR183_21, kR183_26, kR183_27, kR183_30, kR183_31, kR183_33, kR183_34, kR183_36, kR183_37, kR183_38, kR183_39, kR183_40, kR183_41, kR183_42, kR183_43, kR183_44, kL184, kA184, kS184, kL185, kA185, kS185, kL186, kA186, kS186, kL187, kA187, kS187, kL188, kA188, kS188, kL189, kL190, kL191, kA191, kS191, kL192, kA192, kS192, kL193, kA193, kS193, kL194, kA194, kS194, kL195, kA195, kS195, kL196, kA196, kS196, kL197, kA197, kS197, kL198, kA198, kS198, kL199, kA199, kS199, kL200, kA200, kS200, kL201, kL202, kA202, kS202, kL203, kA203, kS203, kL204, kA204, kS204, kL205, kL206, kA206, kS206, v5, q1]
theorem fF_stay {x : Nat × Nat} {k : Nat} (h : fFF b m w l r k = some x) : ∀ e, k ≤ e → fFF b m w l r e = some x
  | 0, he => by rw [show k = 0 by omega] at h; exact h
  | e + 1, he => by
    by_cases z : k = e + 1
    · rw [← z]; exact h
    · have ih := fF_stay h e (by omega)
      unfold fFF at ih ⊢
      rw [foldL]
      by_cases hl : lsB b m e = true
      · rw [if_pos hl, ih]
      · rw [if_neg hl]; exact ih
theorem build_l (hS : Shp σ) (hC : CT J0 b m T) (hg : ((w, l, r) : GD) ∈ gAll) : ∀ k c n J, T - c ≤ k → n ≤ c → 4 ≤ c → c ≤ T → ws b m c = some 4 → DR J0 J b m w l r c → fFF b m w l r c = none → ∃ J1, (fFF b m w l r T = none → DR J0 J1 b m w l r T) ∧ (∀ x j, fFF b m w l r T = some (x, j) → DF J0 J1 b m x j) ∧ ∀ z, f_X1_build_j77 (xw σ J1) 2 = some z → xloop (f_X1_build_b39 2) (nI n, xw σ J) = some z := by
  have hT := hC.1
  have T400 := hT.2.1
  have last : ∀ c n J, n ≤ c → c = T → DR J0 J b m w l r c → ∀ z, f_X1_build_j77 (xw σ J) 2 = some z → xloop (f_X1_build_b39 2) (nI n, xw σ J) = some z := by
    intro c n J hn hc hD z hz
    refine xloop_end ?_
    have v5 : J 3 5 = nI T := by rw [hD.1 3 5 (by omega)]; exact hC.2.1
    have q1 : (nI T ≤ nI c) = True := by rw [nn_le (by omega) (by omega)]; exact eq_true (by omega)
    simp only [f_X1_build_b39]
    by_cases h400 : (400 : Int32) ≤ nI n
    · rw [if_pos h400, hz]; rfl
    · rw [if_neg h400, kG2 hS, Option.bind_some, if_pos hD.2.1, kG2 hS, Option.bind_some, hD.2.2.2.1, xw_gR, kR2_0 hS, Option.bind_some, kG3 hS, Option.bind_some, v5, if_pos (by rw [q1]; trivial), hz]
      rfl
  intro k
  induction k with
  | zero =>
    intro c n J hk hn h4 hc hws hD hF
    have e : c = T := by omega
    refine ⟨J, fun _ => by rw [← e]; exact hD, (fun x j hx1 => by rw [← e, hF] at hx1; cases hx1), last c n J hn e hD⟩
  | succ k ih =>
    intro c n J hk hn h4 hc hws hD hF
    by_cases e : c = T
    · exact ⟨J, fun _ => by rw [← e]; exact hD, (fun x j hx1 => by rw [← e, hF] at hx1; cases hx1), last c n J hn e hD⟩
    · have hcT : c < T := by omega
      obtain ⟨J2, e2, a1, a2⟩ := tell_ok (σ := σ) hS hC hg h4 hws hcT hD
      obtain ⟨-, l1, l2, l3, l4⟩ := line_at hT hws hcT
      have v5 : J 3 5 = nI T := by rw [hD.1 3 5 (by omega)]; exact hC.2.1
      have q0 : ((400 : Int32) ≤ nI n) = False := by rw [show (400 : Int32) = nI 400 from rfl, nn_le (by omega) (by omega)]; exact eq_false (by omega)
      have q1 : (nI T ≤ nI c) = False := by rw [nn_le (by omega) (by omega)]; exact eq_false (by omega)
      have stp : f_X1_build_b39 2 (nI n, xw σ J) = some (.inl (nI (n + 1), xw σ J2)) := by
        simp only [f_X1_build_b39]
        rw [if_neg (by rw [q0]; exact id), kG2 hS, Option.bind_some, if_pos hD.2.1, kG2 hS, Option.bind_some, hD.2.2.2.1, xw_gR, kR2_0 hS, Option.bind_some, kG3 hS, Option.bind_some, v5, if_neg (by rw [q1]; exact id), xw_ck, kC2 hS, Option.bind_some, e2, Option.bind_some, nI_succ]
      have eF : fFF b m w l r (lnE b m c + 1) = linF b m w l r c := by
        unfold fFF at hF ⊢
        rw [foldL_line _ _ hT h4 hws hcT, hF]
      cases hl : linF b m w l r c with
      | none =>
        obtain ⟨J1, b1, b2, b3⟩ := ih (lnE b m c + 1) (n + 1) J2 (by omega) (by omega) (by omega) l3 l2 (a1 hl) (by rw [eF]; exact hl)
        exact ⟨J1, b1, b2, fun z hz => by rw [xloop_step stp]; exact b3 z hz⟩
      | some x =>
        have hFT : fFF b m w l r T = some x := fF_stay (by rw [eF]; exact hl) T (by omega)
        refine ⟨J2, fun z => (by rw [hFT] at z; cases z), fun x' j' z => ?_, fun z hz => ?_⟩
        · rw [hFT] at z; cases z
          exact a2 x' j' hl
        · rw [xloop_step stp]
          refine xloop_end ?_
          have hd := a2 x.1 x.2 hl
          have xs := ff_in hT hFT
          have nz : J2 2 2 ≠ 0 := by rw [hd.2.1]; exact nI_ne0 (by omega) (by omega)
          simp only [f_X1_build_b39]
          by_cases h400 : (400 : Int32) ≤ nI (n + 1)
          · rw [if_pos h400, hz]; rfl
          · rw [if_neg h400, kG2 hS, Option.bind_some, if_neg nz, hz]
            rfl
end BUILD
end
section
/-! what is told is right; what is untold is given -/
section UNT
variable {σ : XS} {J0 J : Nat → Nat → Int32} {b : Nat → Int32} {m T w l r : Nat}
theorem foldL_ind {α : Type} (P : α → Prop) {a0 : α} {f : Nat → α → α} (h0 : P a0) : ∀ e, (∀ k, k < e → lsB b m k = true → ∀ a, P a → P (f k a)) → P (foldL b m a0 f e)
  | 0, _ => h0
  | e + 1, h => by
    have ih := foldL_ind P h0 e (fun k hk => h k (by omega))
    rw [foldL]
    by_cases hl : lsB b m e = true
    · rw [if_pos hl]; exact h e (by omega) hl _ ih
    · rw [if_neg hl]; exact ih
theorem jv_b {t : Nat} (h : tNu b m (jnT b m t) ≤ 3) : -3 ≤ jvT b m t ∧ jvT b m t ≤ 3 := by
  unfold jnT at h
  unfold jvT
  split
  · next z => rw [if_pos z] at h; omega
  · next z => rw [if_neg z] at h; omega
theorem al_b (hF : fFF b m w l r T = none) {c : Nat} (hc : c = 6 ∨ c = 7 ∨ c = 8) : -3 ≤ aLL b m c T ∧ aLL b m c T ≤ 3 := by
  refine foldL_ind (fun a => -3 ≤ a ∧ a ≤ 3) (by omega) T (fun k hk hl a ha => ?_)
  have hn := (fF_none T hF).2 k hk hl
  show -3 ≤ (if tKd b m k = c then jvT b m (k + 1) else a) ∧ (if tKd b m k = c then jvT b m (k + 1) else a) ≤ 3
  by_cases z : tKd b m k = c
  · rw [if_pos z]
    unfold linF at hn
    rw [if_pos (by omega)] at hn
    split at hn
    · cases hn
    · next q => exact jv_b (by omega)
  · rw [if_neg z]; exact ha
theorem ti_b (hF : fFF b m w l r T = none) {t : Nat} : ∀ v, tII b m t T = some v → (-3 ≤ v ∧ v ≤ 3) ∧ (gTo (w, l, r) t).isSome = true := by
  refine foldL_ind (fun a => ∀ v, a = some v → (-3 ≤ v ∧ v ≤ 3) ∧ (gTo (w, l, r) t).isSome = true) (fun v h => by cases h) T (fun k hk hl a ha => ?_)
  have hn := (fF_none T hF).2 k hk hl
  intro v hv
  have hv : (if tKd b m k = 10 ∧ tpl b m k = t then some (jvT b m (k + 3)) else a) = some v := hv
  by_cases z : tKd b m k = 10 ∧ tpl b m k = t
  · rw [if_pos z] at hv
    cases hv
    unfold linF at hn
    rw [if_neg (by omega), if_pos z.1] at hn
    split at hn
    · cases hn
    · next q1 =>
      split at hn
      · cases hn
      · next q2 =>
        refine ⟨jv_b (by omega), ?_⟩
        unfold badS at q1
        rw [z.2] at q1
        cases hg : gTo (w, l, r) t with
        | some e => rfl
        | none =>
          rw [hg, decide_eq_true z.1] at q1
          simp at q1
  · rw [if_neg z] at hv; exact ha v hv
theorem pu_b (hF : fFF b m w l r T = none) {i : Nat} : ∀ v, pUU b m i T = some v → (-3 ≤ v ∧ v ≤ 3) ∧ i < w * l := by
  refine foldL_ind (fun a => ∀ v, a = some v → (-3 ≤ v ∧ v ≤ 3) ∧ i < w * l) (fun v h => by cases h) T (fun k hk hl a ha => ?_)
  have hn := (fF_none T hF).2 k hk hl
  intro v hv
  have hv : (if tKd b m k = 11 ∧ tNu b m (k + 1) = i then some (jvT b m (k + 2)) else a) = some v := hv
  by_cases z : tKd b m k = 11 ∧ tNu b m (k + 1) = i
  · rw [if_pos z] at hv
    cases hv
    unfold linF at hn
    rw [if_neg (by omega), if_neg (by omega), if_pos z.1] at hn
    split at hn
    · cases hn
    · next q1 =>
      split at hn
      · cases hn
      · next q2 =>
        refine ⟨jv_b (by omega), ?_⟩
        rw [badS_n (by omega), z.2, decide_eq_true_eq] at q1
        omega
  · rw [if_neg z] at hv; exact ha v hv
theorem pi_b (hF : fFF b m w l r T = none) {i : Nat} : pII b m i T ≤ 2 ∧ (pII b m i T ≠ 0 → i < w * l) := by
  refine foldL_ind (fun a => a ≤ 2 ∧ (a ≠ 0 → i < w * l)) ⟨by omega, fun h => absurd rfl h⟩ T (fun k hk hl a ha => ?_)
  have hn := (fF_none T hF).2 k hk hl
  show (if tKd b m k = 12 ∧ tNu b m (k + 1) = i then (if tKd b m (k + 2) = 13 then 1 else 2) else a) ≤ 2 ∧ ((if tKd b m k = 12 ∧ tNu b m (k + 1) = i then (if tKd b m (k + 2) = 13 then 1 else 2) else a) ≠ 0 → i < w * l)
  by_cases z : tKd b m k = 12 ∧ tNu b m (k + 1) = i
  · rw [if_pos z]
    unfold linF at hn
    rw [if_neg (by omega), if_neg (by omega), if_neg (by omega), if_pos z.1] at hn
    split at hn
    · cases hn
    · next q1 =>
      rw [badS_n (by omega), z.2, decide_eq_true_eq] at q1
      refine ⟨by split <;> omega, fun _ => by omega⟩
  · rw [if_neg z]; exact ha
theorem sd_b (hT : OKT b m T) : sDD b m T < 10000 := by
  refine foldL_ind (fun a => a < 10000) (by omega) T (fun k hk hl a ha => ?_)
  show (if tKd b m k = 15 then tNu b m (k + 1) else a) < 10000
  by_cases z : tKd b m k = 15
  · rw [if_pos z]
    have hws := (ls_ws hT (lsB_4 hl) (by omega)).mp hl
    rcases (line_at hT hws hk).1 with ⟨h, -⟩ | ⟨h, -⟩ | ⟨h, -⟩ | ⟨h, -⟩ | ⟨h, -⟩ | ⟨-, h⟩
    · omega
    · omega
    · omega
    · omega
    · omega
    · exact tNu_b h
  · rw [if_neg z]; exact ha
/-- the bonds and fields of a text that is right -/
def bdT (b : Nat → Int32) (m T w l r t : Nat) : Int32 := if (gTo (w, l, r) t).isSome then iI ((tII b m t T).getD (if t < 16 then aLL b m 6 T else aLL b m 7 T)) else 0
def fdT (b : Nat → Int32) (m T w l i : Nat) : Int32 := if i < w * l then iI ((pUU b m i T).getD (aLL b m 8 T)) else 0
theorem untold_f (hS : Shp σ) (h2 : J 2 2 ≠ 0) : f_X1_build_j77 (xw σ J) 2 = some (xw σ J) := by
  have g : f_X1_giveUntold (xw σ J) 2 = some (xw σ J) := by
    unfold f_X1_giveUntold
    refine xloop_end ?_
    have g2 : xloop (f_X1_giveUntold_b79 2) ((0 : Int32), xw σ J) = some (xw σ J) := by
      refine xloop_end ?_
      simp only [f_X1_giveUntold_b79]
      rw [kG2 hS, Option.bind_some, if_neg h2]
      rfl
    simp only [f_X1_giveUntold_b2]
    rw [kG2 hS, Option.bind_some, if_neg h2, g2]
    rfl
  unfold f_X1_build_j77
  rw [xw_ck, kC2 hS, Option.bind_some, g, Option.bind_some]
theorem untold_ok (hS : Shp σ) (hg : ((w, l, r) : GD) ∈ gAll) (hD : DR J0 J b m w l r T) (hF : fFF b m w l r T = none) : ∃ J', f_X1_build_j77 (xw σ J) 2 = some (xw σ J') ∧ (∀ t, t < 32 → J' 9 t = bdT b m T w l r t) ∧ (∀ i, i < 16 → J' 10 i = fdT b m T w l i) ∧ ∀ a q, a ≠ 9 → a ≠ 10 → J' a q = J a q := by
  have hwl : w * l ≤ 16 := (gAll_b _ hg).2.2.1
  obtain ⟨d1, d2, d3, d4, d5, d6, d7, d8, d9, d10, d11⟩ := id hD
  -- the fields
  have flds : ∀ J1 : Nat → Nat → Int32, (∀ a q, a ≠ 9 → J1 a q = J a q) → ∃ x, xloop (f_X1_giveUntold_b79 2) ((0 : Int32), xw σ J1) = some x ∧ ∃ J', x = xw σ J' ∧ (∀ i, i < 16 → J' 10 i = fdT b m T w l i) ∧ ∀ a q, a ≠ 10 → J' a q = J1 a q := by
    intro J1 u1
    refine xforI (fun i a => ∃ J' : Nat → Nat → Int32, a = (nI i, xw σ J') ∧ (∀ q, q < i → J' 10 q = fdT b m T w l q) ∧ (∀ q, i ≤ q → J' 10 q = J1 10 q) ∧ ∀ a q, a ≠ 10 → J' a q = J1 a q) (w * l) ⟨J1, rfl, fun q hq => absurd hq (Nat.not_lt_zero _), fun _ _ => rfl, fun _ _ _ => rfl⟩ ?_ ?_
    · rintro i a hi ⟨J', rfl, h1, h3, u⟩
      have g : ∀ q, J' 2 q = J 2 q := fun q => by rw [u 2 q (by omega), u1 2 q (by omega)]
      have q1 : (nI w * nI l ≤ nI i) = False := by rw [nn_mul, nn_le (by omega) (by omega)]; exact eq_false (by omega)
      have bb := bit_bt (x := J 2 12) (t := i) (by omega)
      have v := h3 i (Nat.le_refl _)
      rw [u1 10 i (by omega), (d8 i (by omega)).2] at v
      rw [(d8 i (by omega)).1] at bb
      cases hp : pUU b m i T with
      | some z =>
        rw [hp] at bb v
        have bb : f_X11_bitOf (J 2 12) (nI i) = some 1 := bb
        refine ⟨(nI (i + 1), xw σ J'), ?_, J', rfl, fun q hq => ?_, fun q hq => h3 q (by omega), u⟩
        · simp only [f_X1_giveUntold_b79]
          simp only [kG2 hS, Option.bind_some, g, d2, d5.1, d5.2.1, q1, if_true, if_false, bb, one0, eq_self, nI_succ]
        · by_cases y : q = i
          · rw [y, v]; unfold fdT; rw [if_pos hi, hp]; rfl
          · exact h1 q (by omega)
      | none =>
        rw [hp] at bb v
        have bb : f_X11_bitOf (J 2 12) (nI i) = some 0 := bb
        have sf := setField_ok (σ := σ) (I := J') (a := 8) (t := i) hS suA_8 (by omega) (iI (aLL b m 8 T))
        refine ⟨(nI (i + 1), xw σ (xup J' 10 i (iI (aLL b m 8 T)))), ?_, _, rfl, fun q hq => ?_, fun q hq => ?_, fun a q ha => by rw [xup_at, if_neg (by omega)]; exact u a q ha⟩
        · simp only [f_X1_giveUntold_b79]
          simp only [kG2 hS, Option.bind_some, g, d2, d5.1, d5.2.1, q1, if_true, if_false, bb, eq_self, xw_gR, kR2_1 hS, d6.2.2, xw_ck, kC8 hS, sf, nI_succ]
        · rw [xup_at]
          by_cases y : q = i
          · rw [if_pos ⟨rfl, y⟩, y]; unfold fdT; rw [if_pos hi, hp]; rfl
          · rw [if_neg (by omega)]; exact h1 q (by omega)
        · rw [xup_at, if_neg (by omega)]; exact h3 q (by omega)
    · rintro a ⟨J', rfl, h1, h3, u⟩
      have g : ∀ q, J' 2 q = J 2 q := fun q => by rw [u 2 q (by omega), u1 2 q (by omega)]
      have q1 : (nI w * nI l ≤ nI (w * l)) = True := by rw [nn_mul, nn_le (by omega) (by omega)]; exact eq_true (Nat.le_refl _)
      refine ⟨xw σ J', ?_, J', rfl, fun i hi => ?_, u⟩
      · simp only [f_X1_giveUntold_b79]
        simp only [kG2 hS, Option.bind_some, g, d2, d5.1, d5.2.1, q1, if_true, eq_self, Option.map_some]
      · by_cases y : i < w * l
        · exact h1 i y
        · rw [h3 i (by omega), u1 10 i (by omega), (d8 i hi).2]
          have : pUU b m i T = none := by
            cases hp : pUU b m i T with
            | none => rfl
            | some z => exact absurd (pu_b hF z hp).2 y
          rw [this]; unfold fdT; rw [if_neg y]; rfl
  -- the bonds
  have key : ∃ x, xloop (f_X1_giveUntold_b2 2) ((0 : Int32), xw σ J) = some x ∧ ∃ J', x = xw σ J' ∧ (∀ t, t < 32 → J' 9 t = bdT b m T w l r t) ∧ (∀ i, i < 16 → J' 10 i = fdT b m T w l i) ∧ ∀ a q, a ≠ 9 → a ≠ 10 → J' a q = J a q := by
    refine xforI (fun t a => ∃ J' : Nat → Nat → Int32, a = (nI t, xw σ J') ∧ (∀ q, q < t → J' 9 q = bdT b m T w l r q) ∧ (∀ q, t ≤ q → J' 9 q = J 9 q) ∧ ∀ a q, a ≠ 9 → J' a q = J a q) 32 ⟨J, rfl, fun q hq => absurd hq (Nat.not_lt_zero _), fun _ _ => rfl, fun _ _ _ => rfl⟩ ?_ ?_
    · rintro t a ht ⟨J', rfl, h1, h3, u⟩
      have g : ∀ q, J' 2 q = J 2 q := fun q => u 2 q (by omega)
      have q1 : ((32 : Int32) ≤ nI t) = False := by rw [show (32 : Int32) = nI 32 from rfl, nn_le (by omega) (by omega)]; exact eq_false (by omega)
      have q16 : ((16 : Int32) ≤ nI t) = (16 ≤ t) := by rw [show (16 : Int32) = nI 16 from rfl, nn_le (by omega) (by omega)]
      have bb := bit_bt (x := J 2 11) (t := t) (by omega)
      have v := h3 t (Nat.le_refl _)
      rw [(d7 t ht).2] at v
      rw [(d7 t ht).1] at bb
      have eo := endOf_ok (w, l, r) hg t ht
      have eo : f_X3_endOf (nI w) (nI l) (nI r) (nI t) = some (oI (gTo (w, l, r) t)) := eo
      cases hp : tII b m t T with
      | some z =>
        rw [hp] at bb v
        have bb : f_X11_bitOf (J 2 11) (nI t) = some 1 := bb
        refine ⟨(nI (t + 1), xw σ J'), ?_, J', rfl, fun q hq => ?_, fun q hq => h3 q (by omega), u⟩
        · simp only [f_X1_giveUntold_b2]
          simp only [kG2 hS, Option.bind_some, g, d2, q1, if_true, if_false, bb, one0, eq_self, nI_succ]
        · by_cases y : q = t
          · rw [y, v]; unfold bdT; rw [if_pos (ti_b hF z hp).2, hp]; rfl
          · exact h1 q (by omega)
      | none =>
        rw [hp] at bb v
        have bb : f_X11_bitOf (J 2 11) (nI t) = some 0 := bb
        cases hgt : gTo (w, l, r) t with
        | none =>
          rw [hgt] at eo
          refine ⟨(nI (t + 1), xw σ J'), ?_, J', rfl, fun q hq => ?_, fun q hq => h3 q (by omega), u⟩
          · have qm : (oI none = -1) = True := eq_true rfl
            simp only [f_X1_giveUntold_b2]
            simp only [kG2 hS, Option.bind_some, g, d2, q1, if_true, if_false, bb, eq_self, d5.1, d5.2.1, d5.2.2, eo, qm, nI_succ]
          · by_cases y : q = t
            · rw [y, v]; unfold bdT; rw [hgt]; rfl
            · exact h1 q (by omega)
        | some e =>
          have e16 := (gTo_b (w, l, r) hg t ht e hgt).2.1
          have e16' : e < 16 := Nat.lt_of_lt_of_le e16 hwl
          rw [hgt] at eo
          have qm : (oI (some e) = -1) = False := nn_m1 (by omega)
          obtain ⟨vl, hvl⟩ : ∃ vl, vl = iI (if t < 16 then aLL b m 6 T else aLL b m 7 T) := ⟨_, rfl⟩
          have sb := setBond_ok (σ := σ) (I := J') (a := 8) (t := t) hS suA_8 ht vl
          refine ⟨(nI (t + 1), xw σ (xup J' 9 t vl)), ?_, _, rfl, fun q hq => ?_, fun q hq => ?_, fun a q ha => by rw [xup_at, if_neg (by omega)]; exact u a q ha⟩
          · have j68 : f_X1_giveUntold_j68 (xw σ J') 2 (nI t) 8 (nI t) vl = some (.inl (nI (t + 1), xw σ (xup J' 9 t vl))) := by
              unfold f_X1_giveUntold_j68
              rw [xw_ck, kC8 hS, Option.bind_some, sb, Option.bind_some, nI_succ]
            simp only [f_X1_giveUntold_b2]
            simp only [kG2 hS, Option.bind_some, g, d2, q1, if_true, if_false, bb, eq_self, d5.1, d5.2.1, d5.2.2, eo, qm, xw_gR, kR2_1 hS, q16, d6.1, d6.2.1]
            by_cases h16 : 16 ≤ t
            · rw [if_neg (by omega)] at hvl
              rw [if_pos h16, ← hvl]; exact j68
            · rw [if_pos (by omega)] at hvl
              rw [if_neg h16, ← hvl]; exact j68
          · rw [xup_at]
            by_cases y : q = t
            · rw [if_pos ⟨rfl, y⟩, y, hvl]; unfold bdT; rw [hgt, hp]; rfl
            · rw [if_neg (by omega)]; exact h1 q (by omega)
          · rw [xup_at, if_neg (by omega)]; exact h3 q (by omega)
    · rintro a ⟨J', rfl, h1, h3, u⟩
      have g : ∀ q, J' 2 q = J 2 q := fun q => u 2 q (by omega)
      obtain ⟨x, e, J2, rfl, b1, b2⟩ := flds J' u
      refine ⟨xw σ J2, ?_, J2, rfl, fun t ht => by rw [b2 9 t (by omega)]; exact h1 t ht, b1, fun a q ha1 ha2 => by rw [b2 a q ha2]; exact u a q ha1⟩
      have q1 : ((32 : Int32) ≤ nI 32) = True := eq_true (by decide)
      simp only [f_X1_giveUntold_b2]
      simp only [kG2 hS, Option.bind_some, g, d2, q1, if_true, eq_self, e, Option.map_some]
  obtain ⟨x, e, J', rfl, rest⟩ := key
  refine ⟨J', ?_, rest⟩
  unfold f_X1_build_j77 f_X1_giveUntold
  rw [xw_ck, kC2 hS, Option.bind_some, e, Option.bind_some]
end UNT
end
section
/-! the class builds a draft -/
section BLD
variable {σ : XS} {J : Nat → Nat → Int32} {m : Nat}
/-- the draft of a text that is right -/
def DE (J : Nat → Nat → Int32) (b : Nat → Int32) (m T : Nat) : Prop := J 2 2 = 0 ∧ J 2 3 = -1 ∧ J 2 5 = nI (tNu b m 1) ∧ J 2 6 = nI (tNu b m 2) ∧ J 2 7 = nI (rgN b m T) ∧ (∀ t, t < 32 → J 9 t = bdT b m T (tNu b m 1) (tNu b m 2) (rgN b m T) t) ∧ (∀ i, i < 16 → J 10 i = fdT b m T (tNu b m 1) (tNu b m 2) i) ∧ (∃ p u, J 8 2 = nI p ∧ J 8 3 = nI u ∧ (∀ i, p.testBit i = (decide (i < 16) && decide (pII b m i T ≠ 0))) ∧ ∀ i, u.testBit i = (decide (i < 16) && decide (pII b m i T = 1))) ∧ J 8 4 = 0 ∧ J 8 5 = nI (sDD b m T)
def fFT (b : Nat → Int32) (m T : Nat) : Option (Nat × Nat) := fFF b m (tNu b m 1) (tNu b m 2) (rgN b m T) T
theorem sz_in {b : Nat → Int32} {T : Nat} (h : szF (tNu b m 1) (tNu b m 2) = none) : ((tNu b m 1, tNu b m 2, rgN b m T) : GD) ∈ gAll := by
  unfold szF at h
  split at h
  · cases h
  · split at h
    · cases h
    · exact gAll_in (by omega) (by omega) (by omega) (by omega) (by omega) (rgN_b b m T)
theorem build_ok (hS : Shp σ) (hm : m ≤ 2000) (h4 : J 3 4 = nI m) : ∃ J', f_X1_build (xw σ J) 2 = some (xw σ J') ∧ (∀ a q, ¬ (a = 2 ∨ (5 ≤ a ∧ a ≤ 10)) → ¬ (a = 3 ∧ 5 ≤ q ∧ q ≤ 9) → J' a q = J a q) ∧ ((∃ n r pl, cutR (J 4) m n r pl ∧ 0 < r ∧ r < 3 ∧ J' 2 2 = nI r ∧ J' 2 3 = nI pl) ∨ ∃ T, cutR (J 4) m T 0 0 ∧ ((∃ x j, fFT (J 4) m T = some (x, j) ∧ J' 2 2 = nI x ∧ J' 2 3 = nI (tSt (J 4) m j)) ∨ (fFT (J 4) m T = none ∧ DE J' (J 4) m T))) := by
  obtain ⟨A, a0, a1, a2, a3, a4, a5, a6, a7, a8, a9, a10, a11, a12, a13, a14, a15, uA⟩ := begin_ok (σ := σ) (J := J) hS
  have A4 : A 3 4 = nI m := by rw [uA _ _ (by omega)]; exact h4
  have A3 : A 4 = J 4 := by funext k; exact uA 4 k (by omega)
  obtain ⟨r, n, pl, B, b0, b1, b2, b3, uB⟩ := cut_ok (σ := σ) (J := A) hS hm A4
  rw [A3] at b1 b2
  obtain ⟨bb, hbb⟩ : ∃ bb, bb = J 4 := ⟨_, rfl⟩
  rw [← hbb] at b1 b2 ⊢
  have r3 : r < 3 := by
    obtain ⟨w, -, h⟩ := b1
    rcases h with ⟨h, -⟩ | ⟨h, -⟩ | ⟨h, -⟩ <;> omega
  have st : ∀ z, (if nI r = 0 then ((xck (xw σ B) 2 1).bind fun _ => (f_X1_takeSize (xw σ B) 2).bind fun σ12 => (xck σ12 2 1).bind fun _ => (f_X1_seeRings σ12 2).bind fun σ15 => xloop (f_X1_build_b39 2) ((0 : Int32), σ15)) else (xgR (xw σ B) 2 1 0).bind fun z11 => (xgI (xw σ B) z11 8 8).bind fun v13 => (xck (xw σ B) 2 1).bind fun _ => (f_X1_blame (xw σ B) 2 (nI r) v13).bind fun σ16 => some σ16) = z → f_X1_build (xw σ J) 2 = z := by
    intro z hz
    rw [← hz]
    unfold f_X1_build
    rw [xw_ck, kC2 hS, Option.bind_some, a0, Option.bind_some, xw_gR, kR2_0 hS, Option.bind_some, xw_ck, kC3 hS, Option.bind_some, b0, Option.bind_some]
  by_cases hr : r = 0
  · subst hr
    obtain ⟨c1, c2⟩ := b2 rfl
    have pl0 : pl = 0 := by
      obtain ⟨w, -, h⟩ := b1
      rcases h with ⟨-, h, -⟩ | ⟨h, -⟩ | ⟨h, -⟩
      · exact h
      · cases h
      · cases h
    subst pl0
    have hT := OKT_of b1
    have hC : CT B bb m n := ⟨hT, c1, c2⟩
    have vB : ∀ a q, (a = 2 ∨ 8 ≤ a) → a ≤ 10 → B a q = A a q := fun a q h1 h2 => uB a q (by omega)
    obtain ⟨C, d0, d1, d2, d3, d4, d5, uC⟩ := takeSize_ok (σ := σ) (J := B) hS hC (by rw [vB _ _ (by omega) (by omega)]; exact a3) (by rw [vB _ _ (by omega) (by omega)]; exact a1)
    have hCC : CT C bb m n := CT_c (fun a q h1 _ _ _ => uC a q (by omega)) hC
    obtain ⟨D, e0, e1, uD⟩ := rings_ok (σ := σ) (J := C) hS hCC d1 (by rw [uC _ _ (by omega), vB _ _ (by omega) (by omega)]; exact a4)
    have head := head_at hT
    obtain ⟨w, hw⟩ : ∃ w, w = tNu bb m 1 := ⟨_, rfl⟩
    obtain ⟨l, hl⟩ : ∃ l, l = tNu bb m 2 := ⟨_, rfl⟩
    obtain ⟨rr, hrr⟩ : ∃ rr, rr = rgN bb m n := ⟨_, rfl⟩
    rw [← hw, ← hl] at d4 d5
    have hft : fFT bb m n = fFF bb m w l rr n := by unfold fFT; rw [hw, hl, hrr]
    have f4 : fFF bb m w l rr 4 = szF w l := foldL_4 _ _ 4 (Nat.le_refl _)
    have run : ∀ J1 J2, (∀ z, f_X1_build_j77 (xw σ J1) 2 = some z → xloop (f_X1_build_b39 2) ((0 : Int32), xw σ D) = some z) → f_X1_build_j77 (xw σ J1) 2 = some (xw σ J2) → f_X1_build (xw σ J) 2 = some (xw σ J2) := by
      intro J1 J2 h1 h2
      refine st _ ?_
      rw [if_pos (show nI 0 = 0 from rfl), xw_ck, kC2 hS, Option.bind_some, d0, Option.bind_some, xw_ck, kC2 hS, Option.bind_some, e0, Option.bind_some]
      exact h1 _ h2
    have uDB : ∀ a q, a ≠ 2 → D a q = B a q := fun a q h => by rw [uD a q (by omega), uC a q (by omega)]
    cases hz : szF w l with
    | some x =>
      have g := d5 x.1 x.2 hz
      have hf : fFT bb m n = some (x.1, x.2) := by rw [hft]; exact fF_stay (by rw [f4]; exact hz) n head.1
      have D2 : D 2 2 = nI x.1 := by rw [uD _ _ (by omega)]; exact g.1
      have x3 := szF_in (w := w) (l := l) (c := x.1) (j := x.2) hz
      have nz : D 2 2 ≠ 0 := by rw [D2, x3.1]; decide
      refine ⟨D, run D D (fun z hz => xloop_end ?_) (untold_f hS nz), fun a q h1 h2 => ?_, .inr ⟨n, b1, .inl ⟨x.1, x.2, hf, D2, by rw [uD _ _ (by omega)]; exact g.2⟩⟩⟩
      · simp only [f_X1_build_b39]
        rw [if_neg (by decide), kG2 hS, Option.bind_some, if_neg nz, hz]
        rfl
      · rw [uDB a q (by omega), uB a q (by omega)]; exact uA a q (by omega)
    | none =>
      have g := d4 hz
      have hgA : ((w, l, rr) : GD) ∈ gAll := by rw [hw, hl, hrr]; exact sz_in (by rw [← hw, ← hl]; exact hz)
      have z4 : ∀ {α : Type} (x0 : α) (f : Nat → α → α), foldL bb m x0 f 4 = x0 := fun x0 f => foldL_4 x0 f 4 (Nat.le_refl _)
      have dr : DR B D bb m w l rr 4 := by
        refine ⟨fun a q h => uDB a q (by omega), ?_, ?_, ?_, ⟨?_, ?_, ?_⟩, ⟨?_, ?_, ?_⟩, fun t ht => ⟨?_, ?_⟩, fun i hi => ⟨?_, ?_⟩, ⟨0, 0, ?_, ?_, fun i => ?_, fun i => ?_⟩, ?_, ?_⟩
        · rw [uD _ _ (by omega), g.1, vB _ _ (by omega) (by omega)]; exact a1
        · rw [uD _ _ (by omega), g.2, vB _ _ (by omega) (by omega)]; exact a2
        · rw [uD _ _ (by omega)]; exact d1
        · rw [uD _ _ (by omega), hw]; exact d2
        · rw [uD _ _ (by omega), hl]; exact d3
        · rw [hrr]; exact e1
        · unfold aLL; rw [z4, uD _ _ (by omega), uC _ _ (by omega), vB _ _ (by omega) (by omega)]; exact a5
        · unfold aLL; rw [z4, uD _ _ (by omega), uC _ _ (by omega), vB _ _ (by omega) (by omega)]; exact a6
        · unfold aLL; rw [z4, uD _ _ (by omega), uC _ _ (by omega), vB _ _ (by omega) (by omega)]; exact a7
        · unfold tII; rw [z4, uD _ _ (by omega), uC _ _ (by omega), vB _ _ (by omega) (by omega), a8]; exact b_0 t
        · unfold tII; rw [z4, uDB _ _ (by omega), vB _ _ (by omega) (by omega)]; exact a10 t ht
        · unfold pUU; rw [z4, uD _ _ (by omega), uC _ _ (by omega), vB _ _ (by omega) (by omega), a9]; exact b_0 i
        · unfold pUU; rw [z4, uDB _ _ (by omega), vB _ _ (by omega) (by omega)]; exact a11 i hi
        · rw [uDB _ _ (by omega), vB _ _ (by omega) (by omega)]; exact a12
        · rw [uDB _ _ (by omega), vB _ _ (by omega) (by omega)]; exact a13
        · unfold pII; rw [z4, Nat.zero_testBit]; simp
        · unfold pII; rw [z4, Nat.zero_testBit]; simp
        · rw [uDB _ _ (by omega), vB _ _ (by omega) (by omega)]; exact a14
        · unfold sDD; rw [z4, uDB _ _ (by omega), vB _ _ (by omega) (by omega)]; exact a15
      obtain ⟨J1, p1, p2, p3⟩ := build_l (σ := σ) hS hC hgA (n - 4) 4 0 D (by omega) (by omega) (by omega) head.1 head.2.2.2.2.2 dr (by rw [f4]; exact hz)
      have p3 : ∀ z, f_X1_build_j77 (xw σ J1) 2 = some z → xloop (f_X1_build_b39 2) ((0 : Int32), xw σ D) = some z := p3
      have fr : ∀ J1, DRb B J1 → ∀ a q, ¬ (a = 2 ∨ (5 ≤ a ∧ a ≤ 10)) → ¬ (a = 3 ∧ 5 ≤ q ∧ q ≤ 9) → J1 a q = J a q := fun J1 h a q h1 h2 => by rw [h a q (by omega), uB a q (by omega)]; exact uA a q (by omega)
      cases hf : fFF bb m w l rr n with
      | some x =>
        have df := p2 x.1 x.2 hf
        have xs := ff_in hT (c := x.1) (i := x.2) hf
        have nz : J1 2 2 ≠ 0 := by rw [df.2.1]; exact nI_ne0 (by omega) (by omega)
        exact ⟨J1, run J1 J1 p3 (untold_f hS nz), fr J1 df.1, .inr ⟨n, b1, .inl ⟨x.1, x.2, by rw [hft]; exact hf, df.2.1, df.2.2⟩⟩⟩
      | none =>
        have dt := p1 hf
        obtain ⟨J2, q1, q2, q3, q4⟩ := untold_ok (σ := σ) hS hgA dt hf
        obtain ⟨e1, e2, e3, e4, e5, e6, e7, e8, e9, e10, e11⟩ := id dt
        refine ⟨J2, run J1 J2 p3 q1, fr J2 (fun a q h => by rw [q4 a q (by omega) (by omega)]; exact e1 a q h), .inr ⟨n, b1, .inr ⟨by rw [hft]; exact hf, ?_⟩⟩⟩
        refine ⟨by rw [q4 _ _ (by omega) (by omega)]; exact e2, by rw [q4 _ _ (by omega) (by omega)]; exact e3, by rw [q4 _ _ (by omega) (by omega), ← hw]; exact e5.1, by rw [q4 _ _ (by omega) (by omega), ← hl]; exact e5.2.1, by rw [q4 _ _ (by omega) (by omega), ← hrr]; exact e5.2.2, fun t ht => by rw [← hw, ← hl, ← hrr]; exact q2 t ht, fun i hi => by rw [← hw, ← hl]; exact q3 i hi, ?_, by rw [q4 _ _ (by omega) (by omega)]; exact e10, by rw [q4 _ _ (by omega) (by omega)]; exact e11⟩
        obtain ⟨p, u, y1, y2, y3, y4⟩ := e9
        exact ⟨p, u, by rw [q4 _ _ (by omega) (by omega)]; exact y1, by rw [q4 _ _ (by omega) (by omega)]; exact y2, y3, y4⟩
  · have B2 : B 2 2 = 0 := by rw [uB _ _ (by omega)]; exact a1
    have B8 := b3 hr
    refine ⟨xup (xup B 2 2 (nI r)) 2 3 (nI pl), st _ ?_, fun a q h1 h2 => ?_, .inl ⟨n, r, pl, b1, by omega, r3, by rw [xup_at, if_neg (by omega), xup_at, if_pos ⟨rfl, rfl⟩], by rw [xup_at, if_pos ⟨rfl, rfl⟩]⟩⟩
    · rw [if_neg (nI_ne0 (by omega) (by omega)), xw_gR, kR2_0 hS, Option.bind_some, kG3 hS, Option.bind_some, B8, xw_ck, kC2 hS, Option.bind_some, blame_0 hS B2, Option.bind_some]
    · rw [xup_at, if_neg (by omega), xup_at, if_neg (by omega), uB a q (by omega)]; exact uA a q (by omega)
end BLD
end
section
/-! the grid is laid anew -/
def gCt (g : GD) (i t : Nat) : List (Nat × Nat) := match gTo g t with
  | none => []
  | some e => if gFr t = i then [(e, t)] else if e = i then [(gFr t, t)] else []
def gMp (g : GD) (i n : Nat) : List (Nat × Nat) := (List.range n).flatMap (gCt g i)
theorem gMp_s (g : GD) (i n : Nat) : gMp g i (n + 1) = gMp g i n ++ gCt g i n := by
  unfold gMp
  rw [List.range_succ, List.flatMap_append]
  simp
theorem gMp_32 (g : GD) (i : Nat) : gMp g i 32 = gMt g i := rfl
theorem gMp_le (g : GD) (i : Nat) : ∀ d n, (gMp g i n).length ≤ (gMp g i (n + d)).length
  | 0, n => Nat.le_refl _
  | d + 1, n => by
    have ih := gMp_le g i d n
    rw [show n + (d + 1) = n + d + 1 by omega, gMp_s, List.length_append]
    omega
section LAYS
variable {σ : XS} {J : Nat → Nat → Int32} {g : GD}
theorem addMate_ok (hS : Shp σ) {i x y L : Nat} (hi : i < 16) (hL : L < 4) (h : J 15 i = nI L) : f_X3_addMate (xw σ J) 11 (nI i) (nI x) (nI y) = some (xw σ (xup (xup (xup J 13 (4 * i + L) (nI x)) 14 (4 * i + L) (nI y)) 15 i (nI (L + 1)))) := by
  unfold f_X3_addMate
  have q1 : ((16 : Int32) ≤ nI i) = False := by rw [show (16 : Int32) = nI 16 from rfl, nn_le (by omega) (by omega)]; exact eq_false (by omega)
  have q2 : (nI L < (4 : Int32)) = True := by rw [show (4 : Int32) = nI 4 from rfl, nn_lt (by omega) (by omega)]; exact eq_true hL
  have e : (4 : Int32) * nI i + nI L = nI (4 * i + L) := by rw [show (4 : Int32) = nI 4 from rfl, nn_mul, nn_add]
  have i64 : 4 * i + L < 64 := by omega
  rw [if_neg (nI_pos (by omega)), if_neg (by rw [q1]; exact id)]
  simp (disch := first | assumption | omega) only [Option.bind_some, Option.map_some, xw_gR, xw_gN, xw_al, xw_ck, xw_uI, xw_ur, xup_at, xur_at, if_true, if_false, reduceIte, and_true, true_and, and_false, false_and, not_true_eq_false, not_false_eq_true, Nat.reduceEqDiff, eq_self, Nat.reduceAdd, Nat.reduceMul, kC1, kG1, kP1, kR1_0, kR1_1, kR1_2, kR1_3, kR1_4, kR1_5, kR1_6, kR1_7, kR1_8, kR1_9, kR1_10, kR1_11, kR1_12, kR1_13, kC2, kG2, kP2, kR2_0, kR2_1, kC3, kG3, kP3, kR3_0, kR3_1, kR3_2, kR3_3, kL4, kA4, kS4, kL5, kA5, kS5, kL6, kA6, kS6, kL7, kA7, kS7, kC8, kG8, kP8, kR8_0, kR8_1, kL9, kA9, kS9, kL10, kA10, kS10, kC11, kG11, kP11, kR11_0, kR11_1, kR11_2, kR11_3, kL12, kA12, kS12, kL13, kA13, kS13, kL14, kA14, kS14, kL15, kA15, kS15, kC16, kG16, kP16, kR16_0, kR16_1, kL17, kA17, kS17, kL18, kA18, kS18, kC19, kG19, kP19, kR19_0, kL20, kL141, kL146, kA146, kS146, kL151, kA151, kS151, kL156, kA156, kS156, kC157, kG157, kP157, kR157_0, kR157_1, kL158, kA158, kS158, kL159, kA159, kS159, kC161, kG161, kP161, kR161_0, kR161_1, kL162, kA162, kS162, kL163, kA163, kS163, kC165, kG165, kP165, kR165_0, kR165_1, kR165_2, kR165_3, kL166, kA166, kS166, kL167, kA167, kS167, kL168, kA168, kS168, kL169, kA169, kS169, kC170, kG170, kP170, kR170_0, kR170_1, kR170_2, kL171, kA171, kS171, kL172, kA172, kS172, kL173, kA173, kS173, kC174, kG174, kP174, kR174_0, kR174_1, kR174_2, kR174_3, kR174_4, kL175, kA175, kS175, kL176, kA176, kS176, kL177, kA177, kS177, kL178, kA178, kS178, kL179, kC180, kG180, kP180, kL181, kL182, kA182, kS182, kC183, kG183, kP183, kR183_1, kR183_3, kR183_5, kR183_6, kR183_7, kR183_8, kR183_9, kR183_21, kR183_26, kR183_27, kR183_30, kR183_31, kR183_33, kR183_34, kR183_36, kR183_37, kR183_38, kR183_39, kR183_40, kR183_41, kR183_42, kR183_43, kR183_44, kL184, kA184, kS184, kL185, kA185, kS185, kL186, kA186, kS186, kL187, kA187, kS187, kL188, kA188, kS188, kL189, kL190, kL191, kA191, kS191, kL192, kA192, kS192, kL193, kA193, kS193, kL194, kA194, kS194, kL195, kA195, kS195, kL196, kA196, kS196, kL197, kA197, kS197, kL198, kA198, kS198, kL199, kA199, kS199, kL200, kA200, kS200, kL201, kL202, kA202, kS202, kL203, kA203, kS203, kL204, kA204, kS204, kL205, kL206, kA206, kS206, h, q2, e]
  rw [← nI_succ]
/-- the mates as they lie when n ties are laid -/
def GM (J : Nat → Nat → Int32) (g : GD) (n : Nat) : Prop := (∀ t, t < n → J 12 t = oI (gTo g t)) ∧ (∀ i, i < 16 → J 15 i = nI (gMp g i n).length) ∧ ∀ i j, i < 16 → j < (gMp g i n).length → J 13 (4 * i + j) = nI ((gMp g i n).getD j (0, 0)).1 ∧ J 14 (4 * i + j) = nI ((gMp g i n).getD j (0, 0)).2
theorem getD_app1 {l1 l2 : List (Nat × Nat)} {j : Nat} (h : j < l1.length) : (l1 ++ l2).getD j (0, 0) = l1.getD j (0, 0) := by
  rw [List.getD_eq_getElem?_getD, List.getD_eq_getElem?_getD, List.getElem?_append_left h]
theorem getD_app2 {l1 : List (Nat × Nat)} {p : Nat × Nat} : (l1 ++ [p]).getD l1.length (0, 0) = p := by
  rw [List.getD_eq_getElem?_getD, List.getElem?_append_right (Nat.le_refl _), Nat.sub_self]
  rfl
theorem lay_l (hS : Shp σ) (hg : g ∈ gAll) (h4 : J 11 4 = nI g.1) (h5 : J 11 5 = nI g.2.1) (h6 : J 11 6 = nI g.2.2) (h15 : ∀ i, i < 16 → J 15 i = 0) : ∃ x, xloop (f_X3_lay_b39 11) ((0 : Int32), xw σ J) = some x ∧ ∃ J', x = xw σ J' ∧ GM J' g 32 ∧ ∀ a q, ¬ (12 ≤ a ∧ a ≤ 15) → J' a q = J a q := by
  have h16 := (gAll_b g hg).2.2.1
  have b4 : ∀ i n, i < 16 → n ≤ 32 → (gMp g i n).length ≤ 4 := fun i n hi hn => by
    have h1 := gMp_le g i (32 - n) n
    rw [show n + (32 - n) = 32 by omega, gMp_32] at h1
    have := (gMt_b g hg i hi).1
    omega
  refine xforI (fun t a => ∃ J' : Nat → Nat → Int32, a = (nI t, xw σ J') ∧ GM J' g t ∧ ∀ a q, ¬ (12 ≤ a ∧ a ≤ 15) → J' a q = J a q) 32 ⟨J, rfl, ⟨fun t ht => absurd ht (Nat.not_lt_zero _), fun i hi => h15 i hi, fun i j hi hj => absurd hj (Nat.not_lt_zero _)⟩, fun _ _ _ => rfl⟩ ?_ ?_
  · rintro t a ht ⟨J', rfl, ⟨m1, m2, m3⟩, u⟩
    have eo := endOf_ok g hg t ht
    have q32 : ((32 : Int32) ≤ nI t) = False := by rw [show (32 : Int32) = nI 32 from rfl, nn_le (by omega) (by omega)]; exact eq_false (by omega)
    have v4 : J' 11 4 = nI g.1 := by rw [u _ _ (by omega)]; exact h4
    have v5 : J' 11 5 = nI g.2.1 := by rw [u _ _ (by omega)]; exact h5
    have v6 : J' 11 6 = nI g.2.2 := by rw [u _ _ (by omega)]; exact h6
    obtain ⟨A, hA⟩ : ∃ A, A = xup J' 12 t (oI (gTo g t)) := ⟨_, rfl⟩
    have uA : ∀ a q, a ≠ 12 → A a q = J' a q := fun a q h => by rw [hA, xup_at, if_neg (by omega)]
    have A12 : A 12 t = oI (gTo g t) := by rw [hA, xup_at, if_pos ⟨rfl, rfl⟩]
    have mA : ∀ q, q < t + 1 → A 12 q = oI (gTo g q) := fun q hq => by
      rw [hA, xup_at]
      by_cases z : q = t
      · rw [if_pos ⟨rfl, z⟩, z]
      · rw [if_neg (by omega)]; exact m1 q (by omega)
    cases hgt : gTo g t with
    | none =>
      have ec : ∀ i, gMp g i (t + 1) = gMp g i t := fun i => by
        rw [gMp_s]; unfold gCt; rw [hgt]; simp
      refine ⟨(nI (t + 1), xw σ A), ?_, A, rfl, ⟨mA, fun i hi => by rw [ec, uA _ _ (by omega)]; exact m2 i hi, fun i j hi hj => by rw [ec] at hj ⊢; rw [uA _ _ (by omega), uA _ _ (by omega)]; exact m3 i j hi hj⟩, fun a q h => by rw [uA a q (by omega)]; exact u a q h⟩
      have qm : (oI none = -1) = True := eq_true rfl
      rw [hgt] at eo hA A12
      simp only [f_X3_lay_b39]
      simp (disch := first | assumption | omega) only [Option.bind_some, Option.map_some, xw_gR, xw_gN, xw_al, xw_ck, xw_uI, xw_ur, xup_at, xur_at, if_true, if_false, reduceIte, and_true, true_and, and_false, false_and, not_true_eq_false, not_false_eq_true, Nat.reduceEqDiff, eq_self, Nat.reduceAdd, Nat.reduceMul, kC1, kG1, kP1, kR1_0, kR1_1, kR1_2, kR1_3, kR1_4, kR1_5, kR1_6, kR1_7, kR1_8, kR1_9, kR1_10, kR1_11, kR1_12, kR1_13, kC2, kG2, kP2, kR2_0, kR2_1, kC3, kG3, kP3, kR3_0, kR3_1, kR3_2, kR3_3, kL4, kA4, kS4, kL5, kA5, kS5, kL6, kA6, kS6, kL7, kA7, kS7, kC8, kG8, kP8, kR8_0, kR8_1, kL9, kA9, kS9, kL10, kA10, kS10, kC11, kG11, kP11, kR11_0, kR11_1, kR11_2, kR11_3, kL12, kA12, kS12, kL13, kA13, kS13, kL14, kA14, kS14, kL15, kA15, kS15, kC16, kG16, kP16, kR16_0, kR16_1, kL17, kA17, kS17, kL18, kA18, kS18, kC19, kG19, kP19, kR19_0, kL20, kL141, kL146, kA146, kS146, kL151, kA151, kS151, kL156, kA156, kS156, kC157, kG157, kP157, kR157_0, kR157_1, kL158, kA158, kS158, kL159, kA159, kS159, kC161, kG161, kP161, kR161_0, kR161_1, kL162, kA162, kS162, kL163, kA163, kS163, kC165, kG165, kP165, kR165_0, kR165_1, kR165_2, kR165_3, kL166, kA166, kS166, kL167, kA167, kS167, kL168, kA168, kS168, kL169, kA169, kS169, kC170, kG170, kP170, kR170_0, kR170_1, kR170_2, kL171, kA171, kS171, kL172, kA172, kS172, kL173, kA173, kS173, kC174, kG174, kP174, kR174_0, kR174_1, kR174_2, kR174_3, kR174_4, kL175, kA175, kS175, kL176, kA176, kS176, kL177, kA177, kS177, kL178, kA178, kS178, kL179, kC180, kG180, kP180, kL181, kL182, kA182, kS182, kC183, kG183, kP183, kR183_1, kR183_3, kR183_5, kR183_6, kR183_7, kR183_8, kR183_9, kR183_21, kR183_26, kR183_27, kR183_30, kR183_31, kR183_33, kR183_34, kR183_36, kR183_37, kR183_38, kR183_39, kR183_40, kR183_41, kR183_42, kR183_43, kR183_44, kL184, kA184, kS184, kL185, kA185, kS185, kL186, kA186, kS186, kL187, kA187, kS187, kL188, kA188, kS188, kL189, kL190, kL191, kA191, kS191, kL192, kA192, kS192, kL193, kA193, kS193, kL194, kA194, kS194, kL195, kA195, kS195, kL196, kA196, kS196, kL197, kA197, kS197, kL198, kA198, kS198, kL199, kA199, kS199, kL200, kA200, kS200, kL201, kL202, kA202, kS202, kL203, kA203, kS203, kL204, kA204, kS204, kL205, kL206, kA206, kS206, q32, v4, v5, v6, eo, ← hA, A12, qm]
      rw [nI_succ]
    | some e =>
      obtain ⟨f1, f2, f3⟩ := gTo_b g hg t ht e hgt
      obtain ⟨f, hf⟩ : ∃ f, f = gFr t := ⟨_, rfl⟩
      rw [← hf] at f1 f3
      have ec : ∀ i, gMp g i (t + 1) = gMp g i t ++ (if f = i then [(e, t)] else if e = i then [(f, t)] else []) := fun i => by
        rw [gMp_s]; unfold gCt; rw [hgt, hf]
      have lf : (gMp g f t).length < 4 := by
        have := b4 f (t + 1) (by omega) (by omega)
        rw [ec, if_pos rfl, List.length_append] at this
        simp at this
        omega
      have le : (gMp g e t).length < 4 := by
        have := b4 e (t + 1) (by omega) (by omega)
        rw [ec, if_neg f3, if_pos rfl, List.length_append] at this
        simp at this
        omega
      have so : f_X3_startOf (nI t) = some (nI f) := by
        unfold f_X3_startOf
        have q16 : ((16 : Int32) ≤ nI t) = (16 ≤ t) := by rw [show (16 : Int32) = nI 16 from rfl, nn_le (by omega) (by omega)]
        simp only [q16]
        rw [hf]
        unfold gFr
        by_cases z : 16 ≤ t
        · rw [if_pos z, if_neg (by omega), show (16 : Int32) = nI 16 from rfl, nn_sub z]
        · rw [if_neg z, if_pos (by omega)]
      obtain ⟨p, hp⟩ : ∃ p, p = 4 * f + (gMp g f t).length := ⟨_, rfl⟩
      obtain ⟨q, hq⟩ : ∃ q, q = 4 * e + (gMp g e t).length := ⟨_, rfl⟩
      have ad1 := addMate_ok (σ := σ) (J := A) (i := f) (x := e) (y := t) hS (by omega) lf (by rw [uA _ _ (by omega)]; exact m2 f (by omega))
      rw [← hp] at ad1
      obtain ⟨B, hB⟩ : ∃ B, B = xup (xup (xup A 13 p (nI e)) 14 p (nI t)) 15 f (nI ((gMp g f t).length + 1)) := ⟨_, rfl⟩
      rw [← hB] at ad1
      have uB : ∀ a k, ¬ (13 ≤ a ∧ a ≤ 15) → B a k = A a k := fun a k h => by rw [hB, xup_at, if_neg (by omega), xup_at, if_neg (by omega), xup_at, if_neg (by omega)]
      have B15 : ∀ i, i ≠ f → B 15 i = A 15 i := fun i h => by rw [hB, xup_at, if_neg (by omega), xup_at, if_neg (by omega), xup_at, if_neg (by omega)]
      have ad2 := addMate_ok (σ := σ) (J := B) (i := e) (x := f) (y := t) hS (by omega) le (by rw [B15 e (fun z => f3 z.symm), uA _ _ (by omega)]; exact m2 e (by omega))
      rw [← hq] at ad2
      obtain ⟨C, hC⟩ : ∃ C, C = xup (xup (xup B 13 q (nI f)) 14 q (nI t)) 15 e (nI ((gMp g e t).length + 1)) := ⟨_, rfl⟩
      rw [← hC] at ad2
      have uC : ∀ a k, ¬ (13 ≤ a ∧ a ≤ 15) → C a k = B a k := fun a k h => by rw [hC, xup_at, if_neg (by omega), xup_at, if_neg (by omega), xup_at, if_neg (by omega)]
      have pq : p ≠ q := by omega
      have c13 : ∀ k, C 13 k = if k = q then nI f else if k = p then nI e else J' 13 k := fun k => by
        rw [hC, xup_at, if_neg (by omega), xup_at, if_neg (by omega), xup_at]
        by_cases z : k = q
        · rw [if_pos ⟨rfl, z⟩, if_pos z]
        · rw [if_neg (by omega), if_neg z, hB, xup_at, if_neg (by omega), xup_at, if_neg (by omega), xup_at]
          by_cases y : k = p
          · rw [if_pos ⟨rfl, y⟩, if_pos y]
          · rw [if_neg (by omega), if_neg y]; exact uA _ _ (by omega)
      have c14 : ∀ k, C 14 k = if k = q then nI t else if k = p then nI t else J' 14 k := fun k => by
        rw [hC, xup_at, if_neg (by omega), xup_at]
        by_cases z : k = q
        · rw [if_pos ⟨rfl, z⟩, if_pos z]
        · rw [if_neg (by omega), if_neg z, xup_at, if_neg (by omega), hB, xup_at, if_neg (by omega), xup_at]
          by_cases y : k = p
          · rw [if_pos ⟨rfl, y⟩, if_pos y]
          · rw [if_neg (by omega), if_neg y, xup_at, if_neg (by omega)]; exact uA _ _ (by omega)
      have c15 : ∀ i, C 15 i = if i = e then nI ((gMp g e t).length + 1) else if i = f then nI ((gMp g f t).length + 1) else J' 15 i := fun i => by
        rw [hC, xup_at]
        by_cases z : i = e
        · rw [if_pos ⟨rfl, z⟩, if_pos z]
        · rw [if_neg (by omega), if_neg z, xup_at, if_neg (by omega), xup_at, if_neg (by omega), hB, xup_at]
          by_cases y : i = f
          · rw [if_pos ⟨rfl, y⟩, if_pos y]
          · rw [if_neg (by omega), if_neg y, xup_at, if_neg (by omega), xup_at, if_neg (by omega)]; exact uA _ _ (by omega)
      refine ⟨(nI (t + 1), xw σ C), ?_, C, rfl, ⟨fun k hk => by rw [uC _ _ (by omega), uB _ _ (by omega)]; exact mA k hk, fun i hi => ?_, fun i j hi hj => ?_⟩, fun a k h => by rw [uC a k (by omega), uB a k (by omega), uA a k (by omega)]; exact u a k h⟩
      · have qm : (oI (some e) = -1) = False := nn_m1 (by omega)
        have B12 : B 12 t = oI (some e) := by rw [uB _ _ (by omega), A12, hgt]
        rw [hgt] at eo hA A12
        have ad1' : f_X3_addMate (xw σ A) 11 (nI f) (oI (some e)) (nI t) = some (xw σ B) := ad1
        have ad2' : f_X3_addMate (xw σ B) 11 (oI (some e)) (nI f) (nI t) = some (xw σ C) := ad2
        simp only [f_X3_lay_b39]
        simp (disch := first | assumption | omega) only [Option.bind_some, Option.map_some, xw_gR, xw_gN, xw_al, xw_ck, xw_uI, xw_ur, xup_at, xur_at, if_true, if_false, reduceIte, and_true, true_and, and_false, false_and, not_true_eq_false, not_false_eq_true, Nat.reduceEqDiff, eq_self, Nat.reduceAdd, Nat.reduceMul, kC1, kG1, kP1, kR1_0, kR1_1, kR1_2, kR1_3, kR1_4, kR1_5, kR1_6, kR1_7, kR1_8, kR1_9, kR1_10, kR1_11, kR1_12, kR1_13, kC2, kG2, kP2, kR2_0, kR2_1, kC3, kG3, kP3, kR3_0, kR3_1, kR3_2, kR3_3, kL4, kA4, kS4, kL5, kA5, kS5, kL6, kA6, kS6, kL7, kA7, kS7, kC8, kG8, kP8, kR8_0, kR8_1, kL9, kA9, kS9, kL10, kA10, kS10, kC11, kG11, kP11, kR11_0, kR11_1, kR11_2, kR11_3, kL12, kA12, kS12, kL13, kA13, kS13, kL14, kA14, kS14, kL15, kA15, kS15, kC16, kG16, kP16, kR16_0, kR16_1, kL17, kA17, kS17, kL18, kA18, kS18, kC19, kG19, kP19, kR19_0, kL20, kL141, kL146, kA146, kS146, kL151, kA151, kS151, kL156, kA156, kS156, kC157, kG157, kP157, kR157_0, kR157_1, kL158, kA158, kS158, kL159, kA159, kS159, kC161, kG161, kP161, kR161_0, kR161_1, kL162, kA162, kS162, kL163, kA163, kS163, kC165, kG165, kP165, kR165_0, kR165_1, kR165_2, kR165_3, kL166, kA166, kS166, kL167, kA167, kS167, kL168, kA168, kS168, kL169, kA169, kS169, kC170, kG170, kP170, kR170_0, kR170_1, kR170_2, kL171, kA171, kS171, kL172, kA172, kS172, kL173, kA173, kS173, kC174, kG174, kP174, kR174_0, kR174_1, kR174_2, kR174_3, kR174_4, kL175, kA175, kS175, kL176, kA176, kS176, kL177, kA177, kS177, kL178, kA178, kS178, kL179, kC180, kG180, kP180, kL181, kL182, kA182, kS182, kC183, kG183, kP183, kR183_1, kR183_3, kR183_5, kR183_6, kR183_7, kR183_8, kR183_9, kR183_21, kR183_26, kR183_27, kR183_30, kR183_31, kR183_33, kR183_34, kR183_36, kR183_37, kR183_38, kR183_39, kR183_40, kR183_41, kR183_42, kR183_43, kR183_44, kL184, kA184, kS184, kL185, kA185, kS185, kL186, kA186, kS186, kL187, kA187, kS187, kL188, kA188, kS188, kL189, kL190, kL191, kA191, kS191, kL192, kA192, kS192, kL193, kA193, kS193, kL194, kA194, kS194, kL195, kA195, kS195, kL196, kA196, kS196, kL197, kA197, kS197, kL198, kA198, kS198, kL199, kA199, kS199, kL200, kA200, kS200, kL201, kL202, kA202, kS202, kL203, kA203, kS203, kL204, kA204, kS204, kL205, kL206, kA206, kS206, q32, v4, v5, v6, eo, ← hA, A12, qm, so, ad1', B12, ad2']
        rw [nI_succ]
      · rw [c15, ec]
        by_cases z : i = e
        · rw [if_pos z, z, if_neg f3, if_pos rfl, List.length_append]; rfl
        · rw [if_neg z]
          by_cases y : i = f
          · rw [if_pos y, y, if_pos rfl, List.length_append]; rfl
          · rw [if_neg y, if_neg (fun w => y w.symm), if_neg (fun w => z w.symm), List.append_nil]; exact m2 i hi
      · rw [c13, c14]
        have l4 : (gMp g i t).length ≤ 4 := b4 i t hi (by omega)
        rw [ec] at hj ⊢
        by_cases z : i = e
        · subst z
          rw [if_neg f3, if_pos rfl] at hj ⊢
          rw [List.length_append] at hj
          have hj : j < (gMp g i t).length + 1 := hj
          by_cases y : j = (gMp g i t).length
          · have k1 : 4 * i + j = q := by omega
            rw [if_pos k1, if_pos k1, y, getD_app2]
            exact ⟨rfl, rfl⟩
          · have k1 : ¬ 4 * i + j = q := by omega
            have k2 : ¬ 4 * i + j = p := by omega
            rw [if_neg k1, if_neg k1, if_neg k2, if_neg k2, getD_app1 (by omega)]
            exact m3 i j hi (by omega)
        · by_cases y : i = f
          · subst y
            rw [if_pos rfl] at hj ⊢
            rw [List.length_append] at hj
            have hj : j < (gMp g i t).length + 1 := hj
            have k1 : ¬ 4 * i + j = q := by omega
            by_cases v : j = (gMp g i t).length
            · have k2 : 4 * i + j = p := by omega
              rw [if_neg k1, if_neg k1, if_pos k2, if_pos k2, v, getD_app2]
              exact ⟨rfl, rfl⟩
            · have k2 : ¬ 4 * i + j = p := by omega
              rw [if_neg k1, if_neg k1, if_neg k2, if_neg k2, getD_app1 (by omega)]
              exact m3 i j hi (by omega)
          · rw [if_neg (show ¬ f = i from fun w => y w.symm), if_neg (show ¬ e = i from fun w => z w.symm), List.append_nil] at hj ⊢
            have k1 : ¬ 4 * i + j = q := by omega
            have k2 : ¬ 4 * i + j = p := by omega
            rw [if_neg k1, if_neg k1, if_neg k2, if_neg k2]
            exact m3 i j hi hj
  · rintro a ⟨J', rfl, hM, u⟩
    refine ⟨xw σ J', ?_, J', rfl, hM, u⟩
    simp only [f_X3_lay_b39]
    rw [if_pos (by decide)]
    rfl
theorem lay_ok (hS : Shp σ) (hg : g ∈ gAll) : ∃ J', f_X3_lay (xw σ J) 11 (nI g.1) (nI g.2.1) (nI g.2.2) = some (xw σ J') ∧ J' 11 4 = nI g.1 ∧ J' 11 5 = nI g.2.1 ∧ J' 11 6 = nI g.2.2 ∧ J' 11 7 = nI (gSz g) ∧ GM J' g 32 ∧ ∀ a q, ¬ (11 ≤ a ∧ a ≤ 15) → J' a q = J a q := by
  have K15 : σ.1 15 = (20, 16) := xw_K hS (by decide) (by decide) (by decide)
  obtain ⟨A, hA⟩ : ∃ A, A = xup (xup (xup (xup J 11 4 (nI g.1)) 11 5 (nI g.2.1)) 11 6 (nI g.2.2)) 11 7 (nI g.1 * nI g.2.1) := ⟨_, rfl⟩
  have f := fillI_ok (σ := σ) (I := A) (v := 0) K15 (by decide)
  obtain ⟨B, hB⟩ : ∃ B, B = xur A 15 (fun j => if j < 16 then 0 else A 15 j) := ⟨_, rfl⟩
  rw [← hB] at f
  have uB : ∀ a q, a ≠ 15 → B a q = A a q := fun a q h => by rw [hB, xur_at, if_neg h]
  have A4 : A 11 4 = nI g.1 := by rw [hA, xup_at, if_neg (by omega), xup_at, if_neg (by omega), xup_at, if_neg (by omega), xup_at, if_pos ⟨rfl, rfl⟩]
  have A5 : A 11 5 = nI g.2.1 := by rw [hA, xup_at, if_neg (by omega), xup_at, if_neg (by omega), xup_at, if_pos ⟨rfl, rfl⟩]
  have A6 : A 11 6 = nI g.2.2 := by rw [hA, xup_at, if_neg (by omega), xup_at, if_pos ⟨rfl, rfl⟩]
  have A7 : A 11 7 = nI (gSz g) := by rw [hA, xup_at, if_pos ⟨rfl, rfl⟩, nn_mul]; rfl
  obtain ⟨x, e, J', rfl, hM, u⟩ := lay_l (σ := σ) (J := B) hS hg (by rw [uB _ _ (by omega)]; exact A4) (by rw [uB _ _ (by omega)]; exact A5) (by rw [uB _ _ (by omega)]; exact A6) (fun i hi => by rw [hB, xur_at, if_pos rfl, if_pos hi])
  refine ⟨J', ?_, by rw [u _ _ (by omega), uB _ _ (by omega)]; exact A4, by rw [u _ _ (by omega), uB _ _ (by omega)]; exact A5, by rw [u _ _ (by omega), uB _ _ (by omega)]; exact A6, by rw [u _ _ (by omega), uB _ _ (by omega)]; exact A7, hM, fun a q h => ?_⟩
  · unfold f_X3_lay
    simp (disch := first | assumption | omega) only [Option.bind_some, Option.map_some, xw_gR, xw_gN, xw_al, xw_ck, xw_uI, xw_ur, xup_at, xur_at, if_true, if_false, reduceIte, and_true, true_and, and_false, false_and, not_true_eq_false, not_false_eq_true, Nat.reduceEqDiff, eq_self, Nat.reduceAdd, Nat.reduceMul, kC1, kG1, kP1, kR1_0, kR1_1, kR1_2, kR1_3, kR1_4, kR1_5, kR1_6, kR1_7, kR1_8, kR1_9, kR1_10, kR1_11, kR1_12, kR1_13, kC2, kG2, kP2, kR2_0, kR2_1, kC3, kG3, kP3, kR3_0, kR3_1, kR3_2, kR3_3, kL4, kA4, kS4, kL5, kA5, kS5, kL6, kA6, kS6, kL7, kA7, kS7, kC8, kG8, kP8, kR8_0, kR8_1, kL9, kA9, kS9, kL10, kA10, kS10, kC11, kG11, kP11, kR11_0, kR11_1, kR11_2, kR11_3, kL12, kA12, kS12, kL13, kA13, kS13, kL14, kA14, kS14, kL15, kA15, kS15, kC16, kG16, kP16, kR16_0, kR16_1, kL17, kA17, kS17, kL18, kA18, kS18, kC19, kG19, kP19, kR19_0, kL20, kL141, kL146, kA146, kS146, kL151, kA151, kS151, kL156, kA156, kS156, kC157, kG157, kP157, kR157_0, kR157_1, kL158, kA158, kS158, kL159, kA159, kS159, kC161, kG161, kP161, kR161_0, kR161_1, kL162, kA162, kS162, kL163, kA163, kS163, kC165, kG165, kP165, kR165_0, kR165_1, kR165_2, kR165_3, kL166, kA166, kS166, kL167, kA167, kS167, kL168, kA168, kS168, kL169, kA169, kS169, kC170, kG170, kP170, kR170_0, kR170_1, kR170_2, kL171, kA171, kS171, kL172, kA172, kS172, kL173, kA173, kS173, kC174, kG174, kP174, kR174_0, kR174_1, kR174_2, kR174_3, kR174_4, kL175, kA175, kS175, kL176, kA176, kS176, kL177, kA177, kS177, kL178, kA178, kS178, kL179, kC180, kG180, kP180, kL181, kL182, kA182, kS182, kC183, kG183, kP183, kR183_1, kR183_3, kR183_5, kR183_6, kR183_7, kR183_8, kR183_9, kR183_21, kR183_26, kR183_27, kR183_30, kR183_31, kR183_33, kR183_34, kR183_36, kR183_37, kR183_38, kR183_39, kR183_40, kR183_41, kR183_42, kR183_43, kR183_44, kL184, kA184, kS184, kL185, kA185, kS185, kL186, kA186, kS186, kL187, kA187, kS187, kL188, kA188, kS188, kL189, kL190, kL191, kA191, kS191, kL192, kA192, kS192, kL193, kA193, kS193, kL194, kA194, kS194, kL195, kA195, kS195, kL196, kA196, kS196, kL197, kA197, kS197, kL198, kA198, kS198, kL199, kA199, kS199, kL200, kA200, kS200, kL201, kL202, kA202, kS202, kL203, kA203, kS203, kL204, kA204, kS204, kL205, kL206, kA206, kS206]
    rw [← hA]
    simp (disch := first | assumption | omega) only [Option.bind_some, Option.map_some, xw_gR, xw_gN, xw_al, xw_ck, xw_uI, xw_ur, xup_at, xur_at, if_true, if_false, reduceIte, and_true, true_and, and_false, false_and, not_true_eq_false, not_false_eq_true, Nat.reduceEqDiff, eq_self, Nat.reduceAdd, Nat.reduceMul, kC1, kG1, kP1, kR1_0, kR1_1, kR1_2, kR1_3, kR1_4, kR1_5, kR1_6, kR1_7, kR1_8, kR1_9, kR1_10, kR1_11, kR1_12, kR1_13, kC2, kG2, kP2, kR2_0, kR2_1, kC3, kG3, kP3, kR3_0, kR3_1, kR3_2, kR3_3, kL4, kA4, kS4, kL5, kA5, kS5, kL6, kA6, kS6, kL7, kA7, kS7, kC8, kG8, kP8, kR8_0, kR8_1, kL9, kA9, kS9, kL10, kA10, kS10, kC11, kG11, kP11, kR11_0, kR11_1, kR11_2, kR11_3, kL12, kA12, kS12, kL13, kA13, kS13, kL14, kA14, kS14, kL15, kA15, kS15, kC16, kG16, kP16, kR16_0, kR16_1, kL17, kA17, kS17, kL18, kA18, kS18, kC19, kG19, kP19, kR19_0, kL20, kL141, kL146, kA146, kS146, kL151, kA151, kS151, kL156, kA156, kS156, kC157, kG157, kP157, kR157_0, kR157_1, kL158, kA158, kS158, kL159, kA159, kS159, kC161, kG161, kP161, kR161_0, kR161_1, kL162, kA162, kS162, kL163, kA163, kS163, kC165, kG165, kP165, kR165_0, kR165_1, kR165_2, kR165_3, kL166, kA166, kS166, kL167, kA167, kS167, kL168, kA168, kS168, kL169, kA169, kS169, kC170, kG170, kP170, kR170_0, kR170_1, kR170_2, kL171, kA171, kS171, kL172, kA172, kS172, kL173, kA173, kS173, kC174, kG174, kP174, kR174_0, kR174_1, kR174_2, kR174_3, kR174_4, kL175, kA175, kS175, kL176, kA176, kS176, kL177, kA177, kS177, kL178, kA178, kS178, kL179, kC180, kG180, kP180, kL181, kL182, kA182, kS182, kC183, kG183, kP183, kR183_1, kR183_3, kR183_5, kR183_6, kR183_7, kR183_8, kR183_9, kR183_21, kR183_26, kR183_27, kR183_30, kR183_31, kR183_33, kR183_34, kR183_36, kR183_37, kR183_38, kR183_39, kR183_40, kR183_41, kR183_42, kR183_43, kR183_44, kL184, kA184, kS184, kL185, kA185, kS185, kL186, kA186, kS186, kL187, kA187, kS187, kL188, kA188, kS188, kL189, kL190, kL191, kA191, kS191, kL192, kA192, kS192, kL193, kA193, kS193, kL194, kA194, kS194, kL195, kA195, kS195, kL196, kA196, kS196, kL197, kA197, kS197, kL198, kA198, kS198, kL199, kA199, kS199, kL200, kA200, kS200, kL201, kL202, kA202, kS202, kL203, kA203, kS203, kL204, kA204, kS204, kL205, kL206, kA206, kS206, f]
    exact e
  · rw [u a q (by omega), uB a q (by omega), hA, xup_at, if_neg (by omega), xup_at, if_neg (by omega), xup_at, if_neg (by omega), xup_at, if_neg (by omega)]
end LAYS
end
section
/-! the class begins anew -/
section ANEW
variable {σ : XS} {J : Nat → Nat → Int32} {g : GD} {st : Nat}
theorem anew_ok (hS : Shp σ) (hg : g ∈ gAll) (h5 : J 2 5 = nI g.1) (h6 : J 2 6 = nI g.2.1) (h7 : J 2 7 = nI g.2.2) (hst : J 1 15 = nI st) : ∃ J', f_X11_beginAnew (xw σ J) 1 = some (xw σ J') ∧ (J' 11 4 = nI g.1 ∧ J' 11 5 = nI g.2.1 ∧ J' 11 6 = nI g.2.2 ∧ J' 11 7 = nI (gSz g) ∧ GM J' g 32) ∧ (∀ t, t < 32 → J' 17 t = J 9 t) ∧ (∀ i, i < 16 → J' 18 i = J 10 i) ∧ J' 16 2 = J 8 2 ∧ J' 16 3 = J 8 3 ∧ J' 16 4 = J 8 3 ∧ J' 16 5 = J 8 5 ∧ J' 16 6 = nI (st + 1) ∧ J' 16 7 = nI (st + 1) ∧ J' 1 15 = nI (st + 1) ∧ J' 19 1 = 0 ∧ J' 19 2 = 0 ∧ (∀ i, i < 3 → J' (142 + 5 * i) 2 = 0) ∧ ∀ a q, ¬ (11 ≤ a ∧ a ≤ 19) → ¬ (a = 1 ∧ q = 15) → ¬ ((a = 142 ∨ a = 147 ∨ a = 152) ∧ q = 2) → J' a q = J a q := by
  obtain ⟨A, e1, a1, a2, a3, a4, a5, uA⟩ := lay_ok (σ := σ) (J := J) hS hg
  have cp := cp_ok (σ := σ) (I := A) hS suA_16 suA_8 (by decide) (by decide) (by decide) (by decide) (by decide)
  obtain ⟨B, hB⟩ : ∃ B, B = cpI A 16 8 := ⟨_, rfl⟩
  rw [← hB] at cp
  have uB : ∀ a q, (a < 16 ∨ 18 < a) → B a q = A a q := fun a q h => by rw [hB]; exact cpI_out h
  have B0 : ∀ k, 2 ≤ k → k ≤ 7 → B 16 k = J 8 k := fun k h1 h2 => by rw [hB, cpI_0 h1 h2, uA _ _ (by omega)]
  obtain ⟨C, hC⟩ : ∃ C, C = xup (xup (xup B 16 4 (B 16 3)) 19 1 0) 19 2 0 := ⟨_, rfl⟩
  have uC : ∀ a q, ¬ (a = 16 ∧ q = 4) → a ≠ 19 → C a q = B a q := fun a q h1 h2 => by rw [hC, xup_at, if_neg (by omega), xup_at, if_neg (by omega), xup_at, if_neg h1]
  obtain ⟨D, hD⟩ : ∃ D : Nat → Nat → Nat → Int32, D = fun n a q => if q = 2 ∧ ((a = 142 ∧ 0 < n) ∨ (a = 147 ∧ 1 < n) ∨ (a = 152 ∧ 2 < n)) then 0 else C a q := ⟨_, rfl⟩
  have uD : ∀ n a q, ¬ ((a = 142 ∨ a = 147 ∨ a = 152) ∧ q = 2) → D n a q = C a q := fun n a q h => by
    rw [hD]
    show (if q = 2 ∧ ((a = 142 ∧ 0 < n) ∨ (a = 147 ∧ 1 < n) ∨ (a = 152 ∧ 2 < n)) then 0 else C a q) = _
    rw [if_neg (by omega)]
  have D0 : D 0 = C := by
    rw [hD]
    funext a q
    show (if q = 2 ∧ ((a = 142 ∧ 0 < 0) ∨ (a = 147 ∧ 1 < 0) ∨ (a = 152 ∧ 2 < 0)) then 0 else C a q) = _
    rw [if_neg (by omega)]
  have Ds : ∀ i, i < 3 → xup (D i) (142 + 5 * i) 2 0 = D (i + 1) := fun i hi => by
    funext a q
    rw [xup_at, hD]
    show (if a = 142 + 5 * i ∧ q = 2 then (0 : Int32) else if q = 2 ∧ ((a = 142 ∧ 0 < i) ∨ (a = 147 ∧ 1 < i) ∨ (a = 152 ∧ 2 < i)) then 0 else C a q) = if q = 2 ∧ ((a = 142 ∧ 0 < i + 1) ∨ (a = 147 ∧ 1 < i + 1) ∨ (a = 152 ∧ 2 < i + 1)) then 0 else C a q
    by_cases z : a = 142 + 5 * i ∧ q = 2
    · rw [if_pos z, if_pos (by omega)]
    · rw [if_neg z]
      by_cases y : q = 2 ∧ ((a = 142 ∧ 0 < i) ∨ (a = 147 ∧ 1 < i) ∨ (a = 152 ∧ 2 < i))
      · rw [if_pos y, if_pos (by omega)]
      · rw [if_neg y, if_neg (by omega)]
  have C15 : ∀ n, D n 1 15 = nI st := fun n => by rw [uD _ _ _ (by omega), uC _ _ (by omega) (by omega), uB _ _ (by omega), uA _ _ (by omega)]; exact hst
  have stp := stampTies_ok (σ := σ) (I := D 3) hS (C15 3)
  obtain ⟨E, hE⟩ : ∃ E, E = xup (xup (xup (D 3) 1 15 (nI (st + 1))) 16 6 (nI (st + 1))) 16 7 (nI (st + 1)) := ⟨_, rfl⟩
  rw [← hE] at stp
  have uE : ∀ a q, ¬ (a = 1 ∧ q = 15) → ¬ (a = 16 ∧ (q = 6 ∨ q = 7)) → E a q = D 3 a q := fun a q h1 h2 => by rw [hE, xup_at, if_neg (by omega), xup_at, if_neg (by omega), xup_at, if_neg h1]
  have loop : xloop (f_X11_beginAnew_b65 1) ((0 : Int32), xw σ C) = some (xw σ E) := by
    refine xforE (fun i : Nat => (nI i, xw σ (D i))) 3 (by rw [D0]; rfl) (fun i hi => ?_) ?_
    · have q1 : (nI 3 ≤ nI i) = False := by rw [nn_le (by omega) (by omega)]; exact eq_false (by omega)
      have sa := slA (σ := σ) (I := D i) hS hi
      have sp := slP (σ := σ) (I := D i) (j := 2) (v := 0) hS hi
      rw [Ds i hi] at sp
      simp only [f_X11_beginAnew_b65]
      rw [xw_gR, kR1_5 hS, Option.bind_some, xw_al, kL141 hS, Option.bind_some, if_neg (by rw [q1]; exact id), Option.bind_some, sa, Option.bind_some, sp, Option.bind_some, nI_succ]
    · simp only [f_X11_beginAnew_b65]
      rw [xw_gR, kR1_5 hS, Option.bind_some, xw_al, kL141 hS, Option.bind_some, if_pos (by decide), xw_ck, kC1 hS, Option.bind_some, stp, Option.bind_some]
      rfl
  refine ⟨E, ?_, ⟨?_, ?_, ?_, ?_, ?_, ?_, ?_⟩, fun t ht => ?_, fun i hi => ?_, ?_, ?_, ?_, ?_, ?_, ?_, ?_, ?_, ?_, fun i hi => ?_, fun a q h1 h2 h3 => ?_⟩
  · unfold f_X11_beginAnew
    rw [xw_gR, kR1_2 hS, Option.bind_some, xw_gR, kR1_1 hS, Option.bind_some, kG2 hS, Option.bind_some, Option.bind_some, kG2 hS, Option.bind_some, Option.bind_some, kG2 hS, Option.bind_some, h5, h6, h7, xw_ck, kC11 hS, Option.bind_some, e1, Option.bind_some, xw_gR, kR1_3 hS, Option.bind_some, xw_gR, kR1_1 hS, Option.bind_some, xw_gR, kR2_1 hS, Option.bind_some, xw_ck, kC16 hS, Option.bind_some, cp, Option.bind_some, xw_gR, kR1_3 hS, Option.bind_some, Option.bind_some, kG16 hS, Option.bind_some, kP16 hS, Option.bind_some, xw_gR, kR1_4 hS, Option.bind_some, xw_ck, kC19 hS, Option.bind_some]
    unfold f_X5_forget
    rw [kP19 hS, Option.bind_some, kP19 hS, Option.bind_some, Option.bind_some, ← hC]
    exact loop
  all_goals first
    | (rw [uE _ _ (by omega) (by omega), uD _ _ _ (by omega), uC _ _ (by omega) (by omega), uB _ _ (by omega)]; assumption)
    | skip
  · intro t ht
    rw [uE _ _ (by omega) (by omega), uD _ _ _ (by omega), uC _ _ (by omega) (by omega), uB _ _ (by omega)]; exact a5.1 t ht
  · intro i hi
    rw [uE _ _ (by omega) (by omega), uD _ _ _ (by omega), uC _ _ (by omega) (by omega), uB _ _ (by omega)]; exact a5.2.1 i hi
  · intro i j hi hj
    rw [uE _ _ (by omega) (by omega), uD _ _ _ (by omega), uC _ _ (by omega) (by omega), uB _ _ (by omega), uE _ _ (by omega) (by omega), uD _ _ _ (by omega), uC _ _ (by omega) (by omega), uB _ _ (by omega)]; exact a5.2.2 i j hi hj
  · rw [uE _ _ (by omega) (by omega), uD _ _ _ (by omega), uC _ _ (by omega) (by omega), hB]
    have : cpI A 16 8 (16 + 1) t = A (8 + 1) t := cpI_1 ht
    rw [this]; exact uA _ _ (by omega)
  · rw [uE _ _ (by omega) (by omega), uD _ _ _ (by omega), uC _ _ (by omega) (by omega), hB]
    have : cpI A 16 8 (16 + 2) i = A (8 + 2) i := by
      unfold cpI
      rw [if_neg (by omega), if_pos ⟨rfl, hi⟩]
    rw [this]; exact uA _ _ (by omega)
  · rw [uE _ _ (by omega) (by omega), uD _ _ _ (by omega), uC _ _ (by omega) (by omega)]; exact B0 2 (by omega) (by omega)
  · rw [uE _ _ (by omega) (by omega), uD _ _ _ (by omega), uC _ _ (by omega) (by omega)]; exact B0 3 (by omega) (by omega)
  · rw [uE _ _ (by omega) (by omega), uD _ _ _ (by omega), hC, xup_at, if_neg (by omega), xup_at, if_neg (by omega), xup_at, if_pos ⟨rfl, rfl⟩]; exact B0 3 (by omega) (by omega)
  · rw [uE _ _ (by omega) (by omega), uD _ _ _ (by omega), uC _ _ (by omega) (by omega)]; exact B0 5 (by omega) (by omega)
  · rw [hE, xup_at, if_neg (by omega), xup_at, if_pos ⟨rfl, rfl⟩]
  · rw [hE, xup_at, if_pos ⟨rfl, rfl⟩]
  · rw [hE, xup_at, if_neg (by omega), xup_at, if_neg (by omega), xup_at, if_pos ⟨rfl, rfl⟩]
  · rw [uE _ _ (by omega) (by omega), uD _ _ _ (by omega), hC, xup_at, if_neg (by omega), xup_at, if_pos ⟨rfl, rfl⟩]
  · rw [uE _ _ (by omega) (by omega), uD _ _ _ (by omega), hC, xup_at, if_pos ⟨rfl, rfl⟩]
  · rw [uE _ _ (by omega) (by omega), hD]
    show (if 2 = 2 ∧ ((142 + 5 * i = 142 ∧ 0 < 3) ∨ (142 + 5 * i = 147 ∧ 1 < 3) ∨ (142 + 5 * i = 152 ∧ 2 < 3)) then (0 : Int32) else C (142 + 5 * i) 2) = 0
    rw [if_pos (by omega)]
  · rw [uE _ _ (by omega) (by omega), uD _ _ _ (by omega), uC _ _ (by omega) (by omega), uB _ _ (by omega)]; exact uA _ _ (by omega)
end ANEW
end
section
/-! the model's meaning: what is wrong, what all sites get -/
def MB (J0 : Nat → Nat → Int32) (b : Nat → Int32) (m T : Nat) : Prop := OKT b m T ∧ TKM J0 b m (T + 1) ∧ J0 183 10 = nI (T + 1) ∧ J0 183 12 = 0 ∧ m ≤ 2000
def MF (J0 J : Nat → Nat → Int32) : Prop := ∀ a q, a ≠ 192 → ¬ (a = 183 ∧ (q = 14 ∨ q = 15 ∨ (22 ≤ q ∧ q ≤ 25))) → J a q = J0 a q
def MW (J : Nat → Nat → Int32) (b : Nat → Int32) (m : Nat) (W : Nat → Nat → Prop) : Prop := (J 183 14 = 0 ∧ ∀ c j, ¬ W c j) ∨ ∃ c j, W c j ∧ 0 < c ∧ c < 5 ∧ J 183 14 = nI c ∧ J 183 15 = nI (tSt b m j) ∧ ∀ c' j', W c' j' → tSt b m j < tSt b m j' ∨ (tSt b m j = tSt b m j' ∧ c ≤ c')
theorem MW_c {J J' : Nat → Nat → Int32} {b : Nat → Int32} {m : Nat} {W W' : Nat → Nat → Prop} (h4 : J' 183 14 = J 183 14) (h5 : J' 183 15 = J 183 15) (hW : ∀ c j, W' c j ↔ W c j) (h : MW J b m W) : MW J' b m W' := by
  have e : W' = W := by funext c j; exact propext (hW c j)
  rw [e]
  unfold MW
  rw [h4, h5]
  exact h
section MM
variable {τ : XS} {J0 J : Nat → Nat → Int32} {b : Nat → Int32} {m T : Nat} {W : Nat → Nat → Prop}
theorem mK (hB : MB J0 b m T) (hF : MF J0 J) {k : Nat} (hk : k ≤ T) : KMr (tKd b m k) (J 186 k) ∧ J 187 k = nI (tSt b m k) ∧ (tKd b m k = 2 → J 188 k = nI (tNu b m k)) := by
  rw [hF 186 k (by omega) (by omega), hF 187 k (by omega) (by omega), hF 188 k (by omega) (by omega)]
  exact hB.2.1 k (by omega)
theorem mKe (hB : MB J0 b m T) (hF : MF J0 J) {k k' : Nat} (hk : k ≤ T) (hk' : k' ≤ 15) (h1 : k' ≠ 1) : (J 186 k = nI (kmN k')) = (tKd b m k = k') := KMr_eq (mK hB hF hk).1 (tKd_b k) hk' h1
theorem wrong_ok (hS : Shp τ) (hB : MB J0 b m T) (hF : MF J0 J) (hW : MW J b m W) {c j : Nat} (hc : 0 < c) (hc5 : c < 5) (hj : j ≤ T) : ∃ J', f_X12_wrong (xw τ J) 183 (nI c) (nI j) = some (xw τ J') ∧ MW J' b m (fun c' j' => W c' j' ∨ (c' = c ∧ j' = j)) ∧ ∀ a q, ¬ (a = 183 ∧ (q = 14 ∨ q = 15)) → J' a q = J a q := by
  have hT := hB.1.2.1
  have hm := hB.2.2.2.2
  have vp := (mK hB hF hj).2.1
  have v12 : J 183 12 = 0 := by rw [hF _ _ (by omega) (by omega)]; exact hB.2.2.2.1
  have j403 : j < 403 := by omega
  have sb := (tSt_b (b := b) (m := m) j).2
  have z0 : ((0 : Int32) < 0) = False := eq_false (by decide)
  obtain ⟨S1, hS1⟩ : ∃ S1, S1 = xup (xup J 183 14 (nI c)) 183 15 (nI (tSt b m j)) := ⟨_, rfl⟩
  have j46 : f_X12_wrong_j46 (xw τ J) 183 (nI c) (nI (tSt b m j)) = some (xw τ S1) := by
    unfold f_X12_wrong_j46
    simp (disch := first | assumption | omega) only [Option.bind_some, Option.map_some, xw_gR, xw_gN, xw_al, xw_ck, xw_uI, xw_ur, xup_at, xur_at, if_true, if_false, reduceIte, and_true, true_and, and_false, false_and, not_true_eq_false, not_false_eq_true, Nat.reduceEqDiff, eq_self, Nat.reduceAdd, Nat.reduceMul, kC1, kG1, kP1, kR1_0, kR1_1, kR1_2, kR1_3, kR1_4, kR1_5, kR1_6, kR1_7, kR1_8, kR1_9, kR1_10, kR1_11, kR1_12, kR1_13, kC2, kG2, kP2, kR2_0, kR2_1, kC3, kG3, kP3, kR3_0, kR3_1, kR3_2, kR3_3, kL4, kA4, kS4, kL5, kA5, kS5, kL6, kA6, kS6, kL7, kA7, kS7, kC8, kG8, kP8, kR8_0, kR8_1, kL9, kA9, kS9, kL10, kA10, kS10, kC11, kG11, kP11, kR11_0, kR11_1, kR11_2, kR11_3, kL12, kA12, kS12, kL13, kA13, kS13, kL14, kA14, kS14, kL15, kA15, kS15, kC16, kG16, kP16, kR16_0, kR16_1, kL17, kA17, kS17, kL18, kA18, kS18, kC19, kG19, kP19, kR19_0, kL20, kL141, kL146, kA146, kS146, kL151, kA151, kS151, kL156, kA156, kS156, kC157, kG157, kP157, kR157_0, kR157_1, kL158, kA158, kS158, kL159, kA159, kS159, kC161, kG161, kP161, kR161_0, kR161_1, kL162, kA162, kS162, kL163, kA163, kS163, kC165, kG165, kP165, kR165_0, kR165_1, kR165_2, kR165_3, kL166, kA166, kS166, kL167, kA167, kS167, kL168, kA168, kS168, kL169, kA169, kS169, kC170, kG170, kP170, kR170_0, kR170_1, kR170_2, kL171, kA171, kS171, kL172, kA172, kS172, kL173, kA173, kS173, kC174, kG174, kP174, kR174_0, kR174_1, kR174_2, kR174_3, kR174_4, kL175, kA175, kS175, kL176, kA176, kS176, kL177, kA177, kS177, kL178, kA178, kS178, kL179, kC180, kG180, kP180, kL181, kL182, kA182, kS182, kC183, kG183, kP183, kR183_1, kR183_3, kR183_5, kR183_6, kR183_7, kR183_8, kR183_9, kR183_21, kR183_26, kR183_27, kR183_30, kR183_31, kR183_33, kR183_34, kR183_36, kR183_37, kR183_38, kR183_39, kR183_40, kR183_41, kR183_42, kR183_43, kR183_44, kL184, kA184, kS184, kL185, kA185, kS185, kL186, kA186, kS186, kL187, kA187, kS187, kL188, kA188, kS188, kL189, kL190, kL191, kA191, kS191, kL192, kA192, kS192, kL193, kA193, kS193, kL194, kA194, kS194, kL195, kA195, kS195, kL196, kA196, kS196, kL197, kA197, kS197, kL198, kA198, kS198, kL199, kA199, kS199, kL200, kA200, kS200, kL201, kL202, kA202, kS202, kL203, kA203, kS203, kL204, kA204, kS204, kL205, kL206, kA206, kS206, ← hS1]
  have s14 : S1 183 14 = nI c := by rw [hS1, xup_at, if_neg (by omega), xup_at, if_pos ⟨rfl, rfl⟩]
  have s15 : S1 183 15 = nI (tSt b m j) := by rw [hS1, xup_at, if_pos ⟨rfl, rfl⟩]
  have uS : ∀ a q, ¬ (a = 183 ∧ (q = 14 ∨ q = 15)) → S1 a q = J a q := fun a q h => by rw [hS1, xup_at, if_neg (by omega), xup_at, if_neg (by omega)]
  -- it becomes the worst
  have set : (∀ c' j', W c' j' → tSt b m j < tSt b m j' ∨ (tSt b m j = tSt b m j' ∧ c ≤ c')) → MW S1 b m (fun c' j' => W c' j' ∨ (c' = c ∧ j' = j)) := fun h => .inr ⟨c, j, .inr ⟨rfl, rfl⟩, hc, hc5, s14, s15, fun c' j' hh => by
    rcases hh with z | ⟨z1, z2⟩
    · exact h c' j' z
    · rw [z1, z2]; exact .inr ⟨rfl, Nat.le_refl _⟩⟩
  unfold f_X12_wrong
  rw [xw_gR, kR183_6 hS, Option.bind_some, kA187 hS j403, Option.bind_some, vp, kG183 hS, Option.bind_some, v12, if_neg (by decide), kG183 hS, Option.bind_some]
  rcases hW with ⟨w1, w2⟩ | ⟨c0, j0, w1, w2, w3, w4, w5, w6⟩
  · rw [w1, if_pos rfl, j46]
    exact ⟨S1, rfl, set (fun c' j' h => absurd h (w2 c' j')), uS⟩
  · have sb0 := (tSt_b (b := b) (m := m) j0).2
    have q1 : (nI (tSt b m j0) < nI (tSt b m j)) = (tSt b m j0 < tSt b m j) := nn_lt (by omega) (by omega)
    have q2 : (nI (tSt b m j) = nI (tSt b m j0)) = (tSt b m j = tSt b m j0) := nn_eq (by omega) (by omega)
    have q3 : (nI c < nI c0) = (c < c0) := nn_lt (by omega) (by omega)
    have keep : (tSt b m j0 < tSt b m j ∨ (tSt b m j0 = tSt b m j ∧ c0 ≤ c)) → MW J b m (fun c' j' => W c' j' ∨ (c' = c ∧ j' = j)) := fun h => .inr ⟨c0, j0, .inl w1, w2, w3, w4, w5, fun c' j' hh => by
      rcases hh with z | ⟨z1, z2⟩
      · exact w6 c' j' z
      · rw [z1, z2]; exact h⟩
    rw [w4, if_neg (nI_ne0 (by omega) (by omega)), kG183 hS, Option.bind_some, w5]
    simp only [q1]
    by_cases h1 : tSt b m j0 < tSt b m j
    · rw [if_pos h1]
      exact ⟨J, rfl, keep (.inl h1), fun _ _ _ => rfl⟩
    · rw [if_neg h1]
      simp only [Option.bind_some, q2, kG183 hS, w5, w4, q3]
      by_cases h2 : tSt b m j = tSt b m j0
      · rw [if_pos h2]
        by_cases h3 : c < c0
        · rw [if_pos h3, j46]
          refine ⟨S1, rfl, set (fun c' j' h => ?_), uS⟩
          have := w6 c' j' h
          omega
        · rw [if_neg h3]
          exact ⟨J, rfl, keep (.inr ⟨h2.symm, by omega⟩), fun _ _ _ => rfl⟩
      · rw [if_neg h2, j46]
        refine ⟨S1, rfl, set (fun c' j' h => ?_), uS⟩
        have := w6 c' j' h
        omega
theorem jAt_ok (hS : Shp τ) (hB : MB J0 b m T) (hF : MF J0 J) (hW : MW J b m W) {t : Nat} (hJ : isJt b m t) (ht : t + jlT b m t ≤ T) : ∃ J', f_X12_jAt (xw τ J) 183 (nI t) = some (iI (jvT b m t), xw τ J') ∧ MW J' b m (fun c j => W c j ∨ (3 < tNu b m (jnT b m t) ∧ c = 3 ∧ j = jnT b m t)) ∧ ∀ a q, ¬ (a = 183 ∧ (q = 14 ∨ q = 15)) → J' a q = J a q := by
  have hT := hB.1.2.1
  have jl1 : 1 ≤ jlT b m t := by unfold jlT; split <;> omega
  have jnb := jn_b (b := b) (m := m) t
  obtain ⟨n, hn⟩ : ∃ n, n = jnT b m t := ⟨_, rfl⟩
  rw [← hn] at jnb ⊢
  have kn : tKd b m n = 2 := by
    rw [hn]; unfold jnT
    rcases hJ with ⟨a1, a2⟩ | a1
    · rw [if_pos a1]; exact a2
    · rw [if_neg (by omega)]; exact a1
  have nv := tNu_b kn
  have n403 : n < 403 := by omega
  have t403 : t < 403 := by omega
  have q5 : ∀ J1, MF J0 J1 → (J1 186 t = (5 : Int32)) = (tKd b m t = 3) := fun J1 h => mKe (k' := 3) hB h (by omega) (by omega) (by omega)
  have v8 : ∀ J1, MF J0 J1 → J1 188 n = nI (tNu b m n) := fun J1 h => (mK hB h (by omega)).2.2 kn
  have j34 : ∀ J1, MF J0 J1 → f_X12_jAt_j34 (xw τ J1) 183 (nI t) (nI n) = some (iI (jvT b m t), xw τ J1) := fun J1 h => by
    unfold f_X12_jAt_j34
    simp only [xw_gR, kR183_5 hS, kR183_7 hS, Option.bind_some, kA186 hS t403, kA188 hS n403, v8 J1 h, q5 J1 h]
    unfold jvT
    by_cases z : tKd b m t = 3
    · have en : n = t + 1 := by rw [hn]; unfold jnT; rw [if_pos z]
      rw [if_pos z, if_pos z, ← en, iI_n, iI_neg]
    · have en : n = t := by rw [hn]; unfold jnT; rw [if_neg z]
      rw [if_neg z, if_neg z, ← en, iI_n]
  have j17 : f_X12_jAt (xw τ J) 183 (nI t) = f_X12_jAt_j17 (xw τ J) 183 (nI t) (nI n) := by
    unfold f_X12_jAt
    rw [xw_gR, kR183_5 hS, Option.bind_some, kA186 hS t403, Option.bind_some]
    simp only [q5 J hF]
    by_cases z : tKd b m t = 3
    · have en : n = t + 1 := by rw [hn]; unfold jnT; rw [if_pos z]
      rw [if_pos z, en, nI_succ]
    · have en : n = t := by rw [hn]; unfold jnT; rw [if_neg z]
      rw [if_neg z, en]
  have q3 : (nI (tNu b m n) ≤ (3 : Int32)) = (tNu b m n ≤ 3) := by rw [show (3 : Int32) = nI 3 from rfl, nn_le (by omega) (by omega)]
  rw [j17]
  unfold f_X12_jAt_j17
  rw [xw_gR, kR183_7 hS, Option.bind_some, kA188 hS n403, Option.bind_some, v8 J hF]
  simp only [q3]
  by_cases h3 : tNu b m n ≤ 3
  · rw [if_pos h3, j34 J hF]
    refine ⟨J, rfl, MW_c rfl rfl (fun c j => ⟨fun z => z.elim id (fun y => by omega), .inl⟩) hW, fun _ _ _ => rfl⟩
  · rw [if_neg h3]
    obtain ⟨J', e, w, u⟩ := wrong_ok (τ := τ) hS hB hF hW (c := 3) (j := n) (by omega) (by omega) (by omega)
    have e : f_X12_wrong (xw τ J) 183 (3 : Int32) (nI n) = some (xw τ J') := e
    have hF' : MF J0 J' := fun a q h1 h2 => by rw [u a q (by omega)]; exact hF a q h1 h2
    rw [xw_ck, kC183 hS, Option.bind_some, e, Option.bind_some, j34 J' hF']
    refine ⟨J', rfl, MW_c rfl rfl (fun c j => ⟨fun z => z.elim .inl (fun y => .inr ⟨y.2.1, y.2.2⟩), fun z => z.elim .inl (fun y => .inr ⟨by omega, y.1, y.2⟩)⟩) w, u⟩
/-- the new row behind the first pass -/
def FR1 (J : Nat → Nat → Int32) (b : Nat → Int32) (m k : Nat) : Prop := (∀ i, i < 16 → J 192 i = iI (aLL b m 6 k) ∧ J 192 (16 + i) = iI (aLL b m 7 k) ∧ J 192 (32 + i) = iI (aLL b m 8 k) ∧ J 192 (48 + i) = 0) ∧ J 192 64 = 0 ∧ J 192 65 = nI (sDD b m k)
theorem fold_at {α : Type} {x0 : α} {f : Nat → α → α} {k : Nat} (h : lsB b m k = true) : foldL b m x0 f (k + 1) = f k (foldL b m x0 f k) := by rw [foldL, if_pos h]
theorem fold_no {α : Type} {x0 : α} {f : Nat → α → α} {k : Nat} (h : lsB b m k = false) : foldL b m x0 f (k + 1) = foldL b m x0 f k := by rw [foldL, h, if_neg (by decide)]
theorem all16 (hS : Shp τ) {at_ : Nat} (ha : at_ + 16 ≤ 66) (v : Int32) : xloop (f_X12_meansAll_b105 183 (nI at_) v) ((0 : Int32), xw τ J) = some (xw τ (fun a q => if a = 192 ∧ at_ ≤ q ∧ q < at_ + 16 then v else J a q)) := by
  refine xforE (fun i : Nat => (nI i, xw τ (fun a q => if a = 192 ∧ at_ ≤ q ∧ q < at_ + i then v else J a q))) 16 ?_ (fun i hi => ?_) ?_
  · have : (fun a q => if a = 192 ∧ at_ ≤ q ∧ q < at_ + 0 then v else J a q) = J := by
      funext a q
      rw [if_neg (by omega)]
    simp only [this]
    rfl
  · have q1 : ((16 : Int32) ≤ nI i) = False := by rw [show (16 : Int32) = nI 16 from rfl, nn_le (by omega) (by omega)]; exact eq_false (by omega)
    have e : xup (fun a q => if a = 192 ∧ at_ ≤ q ∧ q < at_ + i then v else J a q) 192 (at_ + i) v = fun a q => if a = 192 ∧ at_ ≤ q ∧ q < at_ + (i + 1) then v else J a q := by
      funext a q
      rw [xup_at]
      by_cases z : a = 192 ∧ q = at_ + i
      · rw [if_pos z, if_pos (by omega)]
      · rw [if_neg z]
        by_cases y : a = 192 ∧ at_ ≤ q ∧ q < at_ + i
        · rw [if_pos y, if_pos (by omega)]
        · rw [if_neg y, if_neg (by omega)]
    simp only [f_X12_meansAll_b105]
    rw [if_neg (by rw [q1]; exact id), xw_gR, kR183_26 hS, Option.bind_some, nn_add, kS192 hS (by omega), Option.bind_some, e, nI_succ]
  · simp only [f_X12_meansAll_b105]
    rw [if_pos (by decide)]
    rfl
theorem meansAll_ok (hS : Shp τ) (hB : MB J0 b m T) (hF : MF J0 J) (hW : MW J b m W) {k : Nat} (hk4 : 4 ≤ k) (hkT : k ≤ T) (hl : lsB b m k = true) (hR : FR1 J b m k) : ∃ J', f_X12_meansAll (xw τ J) 183 (nI k) = some (xw τ J') ∧ MF J0 J' ∧ MW J' b m (fun c j => W c j ∨ ((tKd b m k = 6 ∨ tKd b m k = 7 ∨ tKd b m k = 8) ∧ 3 < tNu b m (jnT b m (k + 1)) ∧ c = 3 ∧ j = jnT b m (k + 1))) ∧ FR1 J' b m (k + 1) ∧ ∀ q, 22 ≤ q → q ≤ 25 → J' 183 q = J 183 q := by
  have hT := hB.1
  have T400 := hT.2.1
  have k403 : k < 403 := by omega
  have q30 : ∀ J1, MF J0 J1 → (J1 186 k = (30 : Int32)) = (tKd b m k = 15) := fun J1 h => mKe (k' := 15) hB h hkT (by omega) (by omega)
  have q21 : ∀ J1, MF J0 J1 → (J1 186 k = (21 : Int32)) = (tKd b m k = 6) := fun J1 h => mKe (k' := 6) hB h hkT (by omega) (by omega)
  have q22 : ∀ J1, MF J0 J1 → (J1 186 k = (22 : Int32)) = (tKd b m k = 7) := fun J1 h => mKe (k' := 7) hB h hkT (by omega) (by omega)
  have q23 : ∀ J1, MF J0 J1 → (J1 186 k = (23 : Int32)) = (tKd b m k = 8) := fun J1 h => mKe (k' := 8) hB h hkT (by omega) (by omega)
  have hws := (ls_ws hT hk4 hkT).mp hl
  have eA : ∀ c, aLL b m c (k + 1) = if tKd b m k = c then jvT b m (k + 1) else aLL b m c k := fun c => fold_at hl
  have eS : sDD b m (k + 1) = if tKd b m k = 15 then tNu b m (k + 1) else sDD b m k := fold_at hl
  obtain ⟨r1, r2, r3⟩ := hR
  -- the second half, whatever the first did
  have half : ∀ J1, MF J0 J1 → (∀ a q, ¬ (a = 192 ∧ q = 65) → J1 a q = J a q) → J1 192 65 = nI (sDD b m (k + 1)) → ∃ J', f_X12_meansAll_j26 (xw τ J1) 183 (nI k) = some (xw τ J') ∧ MF J0 J' ∧ MW J' b m (fun c j => W c j ∨ ((tKd b m k = 6 ∨ tKd b m k = 7 ∨ tKd b m k = 8) ∧ 3 < tNu b m (jnT b m (k + 1)) ∧ c = 3 ∧ j = jnT b m (k + 1))) ∧ FR1 J' b m (k + 1) ∧ ∀ q, 22 ≤ q → q ≤ 25 → J' 183 q = J 183 q := by
    intro J1 hF1 u1 s1
    have hW1 : MW J1 b m W := MW_c (u1 _ _ (by omega)) (u1 _ _ (by omega)) (fun _ _ => Iff.rfl) hW
    by_cases hk : tKd b m k = 6 ∨ tKd b m k = 7 ∨ tKd b m k = 8
    · have hlt : k < T := by
        rcases Nat.lt_or_ge k T with z | z
        · exact z
        · have : k = T := by omega
          rw [this, hT.2.2] at hk; omega
      have hJ : isJt b m (k + 1) := by
        rcases (line_at hT hws hlt).1 with ⟨-, h⟩ | ⟨h, -⟩ | ⟨h, -⟩ | ⟨h, -⟩ | ⟨h, -⟩ | ⟨h, -⟩
        · exact h
        all_goals omega
      have hend : k + 1 + jlT b m (k + 1) ≤ T := by
        have h1 := (line_at hT hws hlt).2.2.2.1
        unfold lnE at h1
        rw [if_neg (by omega), if_neg (by omega), if_neg (by omega), if_neg (by omega)] at h1
        omega
      obtain ⟨J2, e2, w2, u2⟩ := jAt_ok (τ := τ) hS hB hF1 hW1 hJ hend
      obtain ⟨at_, hat⟩ : ∃ at_, at_ = if tKd b m k = 6 then 0 else if tKd b m k = 7 then 16 else 32 := ⟨_, rfl⟩
      have at48 : at_ + 16 ≤ 48 := by rw [hat]; split; omega; split <;> omega
      have al := all16 (τ := τ) (J := J2) hS (show at_ + 16 ≤ 66 by omega) (iI (jvT b m (k + 1)))
      obtain ⟨J3, hJ3⟩ : ∃ J3 : Nat → Nat → Int32, J3 = fun a q => if a = 192 ∧ at_ ≤ q ∧ q < at_ + 16 then iI (jvT b m (k + 1)) else J2 a q := ⟨_, rfl⟩
      rw [← hJ3] at al
      have j93 : f_X12_meansAll_j93 (xw τ J1) 183 (nI k) (nI at_) = some (xw τ J3) := by
        unfold f_X12_meansAll_j93
        rw [xw_ck, kC183 hS, Option.bind_some, ← nI_succ, e2, Option.bind_some]
        exact al
      have j60 : f_X12_meansAll_j60 (xw τ J1) 183 (nI k) = some (xw τ J3) := by
        unfold f_X12_meansAll_j60
        simp only [xw_gR, kR183_5 hS, Option.bind_some, kA186 hS k403, q21 J1 hF1, q22 J1 hF1]
        rw [hat] at j93
        by_cases z1 : tKd b m k = 6
        · rw [if_pos z1] at j93 ⊢; exact j93
        · rw [if_neg z1] at j93 ⊢
          by_cases z2 : tKd b m k = 7
          · rw [if_pos z2] at j93 ⊢; exact j93
          · rw [if_neg z2] at j93 ⊢; exact j93
      have u3 : ∀ a q, ¬ (a = 192 ∧ at_ ≤ q ∧ q < at_ + 16) → J3 a q = J2 a q := fun a q h => by
        rw [hJ3]
        show (if a = 192 ∧ at_ ≤ q ∧ q < at_ + 16 then _ else J2 a q) = _
        rw [if_neg h]
      have i3 : ∀ q, at_ ≤ q → q < at_ + 16 → J3 192 q = iI (jvT b m (k + 1)) := fun q h1 h2 => by
        rw [hJ3]
        show (if 192 = 192 ∧ at_ ≤ q ∧ q < at_ + 16 then _ else J2 192 q) = _
        rw [if_pos ⟨rfl, h1, h2⟩]
      have old : ∀ q, q < 65 → J2 192 q = J 192 q := fun q hq => by rw [u2 _ _ (by omega)]; exact u1 _ _ (by omega)
      refine ⟨J3, ?_, fun a q h1 h2 => by rw [u3 a q (by omega), u2 a q (by omega)]; exact hF1 a q h1 h2, ?_, ⟨fun i hi => ?_, ?_, ?_⟩, fun q h1 h2 => by rw [u3 _ _ (by omega), u2 _ _ (by omega)]; exact u1 _ _ (by omega)⟩
      · unfold f_X12_meansAll_j26
        simp only [xw_gR, kR183_5 hS, Option.bind_some, kA186 hS k403, j60, q21 J1 hF1, q22 J1 hF1, q23 J1 hF1]
        by_cases z1 : tKd b m k = 6
        · rw [if_pos z1]
        · rw [if_neg z1]
          by_cases z2 : tKd b m k = 7
          · rw [if_pos z2]
          · rw [if_neg z2, if_pos (by omega)]
      · refine MW_c (u3 _ _ (by omega)) (u3 _ _ (by omega)) (fun c j => ?_) w2
        constructor
        · rintro (z | ⟨-, z⟩)
          · exact .inl z
          · exact .inr z
        · rintro (z | z)
          · exact .inl z
          · exact .inr ⟨hk, z⟩
      · obtain ⟨o1, o2, o3, o4⟩ := r1 i hi
        rw [eA, eA, eA]
        rcases hk with z | z | z
        · have ea : at_ = 0 := by rw [hat, if_pos z]
          rw [if_pos z, if_neg (by omega), if_neg (by omega)]
          refine ⟨i3 i (by omega) (by omega), ?_, ?_, ?_⟩
          · rw [u3 _ _ (by omega), old _ (by omega)]; exact o2
          · rw [u3 _ _ (by omega), old _ (by omega)]; exact o3
          · rw [u3 _ _ (by omega), old _ (by omega)]; exact o4
        · have ea : at_ = 16 := by rw [hat, if_neg (by omega), if_pos z]
          rw [if_neg (by omega), if_pos z, if_neg (by omega)]
          refine ⟨?_, i3 _ (by omega) (by omega), ?_, ?_⟩
          · rw [u3 _ _ (by omega), old _ (by omega)]; exact o1
          · rw [u3 _ _ (by omega), old _ (by omega)]; exact o3
          · rw [u3 _ _ (by omega), old _ (by omega)]; exact o4
        · have ea : at_ = 32 := by rw [hat, if_neg (by omega), if_neg (by omega)]
          rw [if_neg (by omega), if_neg (by omega), if_pos z]
          refine ⟨?_, ?_, i3 _ (by omega) (by omega), ?_⟩
          · rw [u3 _ _ (by omega), old _ (by omega)]; exact o1
          · rw [u3 _ _ (by omega), old _ (by omega)]; exact o2
          · rw [u3 _ _ (by omega), old _ (by omega)]; exact o4
      · rw [u3 _ _ (by omega), old _ (by omega)]; exact r2
      · rw [u3 _ _ (by omega), u2 _ _ (by omega)]; exact s1
    · refine ⟨J1, ?_, hF1, MW_c rfl rfl (fun c j => ⟨fun z => z.elim id (fun y => absurd y.1 hk), .inl⟩) hW1, ⟨fun i hi => ?_, ?_, s1⟩, fun q h1 h2 => u1 _ _ (by omega)⟩
      · unfold f_X12_meansAll_j26
        simp only [xw_gR, kR183_5 hS, Option.bind_some, kA186 hS k403, q21 J1 hF1, q22 J1 hF1, q23 J1 hF1]
        rw [if_neg (by omega), if_neg (by omega), if_neg (by omega)]
      · obtain ⟨o1, o2, o3, o4⟩ := r1 i hi
        rw [eA, eA, eA, if_neg (by omega), if_neg (by omega), if_neg (by omega), u1 _ _ (by omega), u1 _ _ (by omega), u1 _ _ (by omega), u1 _ _ (by omega)]
        exact ⟨o1, o2, o3, o4⟩
      · rw [u1 _ _ (by omega)]; exact r2
  unfold f_X12_meansAll
  rw [xw_gR, kR183_5 hS, Option.bind_some, kA186 hS k403, Option.bind_some]
  simp only [q30 J hF]
  by_cases hk : tKd b m k = 15
  · have hlt : k < T := by
      rcases Nat.lt_or_ge k T with z | z
      · exact z
      · have : k = T := by omega
        rw [this, hT.2.2] at hk; omega
    have hk1 : tKd b m (k + 1) = 2 := by
      rcases (line_at hT hws hlt).1 with ⟨h, -⟩ | ⟨h, -⟩ | ⟨h, -⟩ | ⟨h, -⟩ | ⟨h, -⟩ | ⟨-, h⟩
      all_goals first
        | exact h
        | omega
    have v8 := (mK hB hF (show k + 1 ≤ T by omega)).2.2 hk1
    rw [if_pos hk, xw_gR, kR183_26 hS, Option.bind_some, xw_gR, kR183_7 hS, Option.bind_some, ← nI_succ, kA188 hS (by omega), Option.bind_some, v8, show (65 : Int32) = nI 65 from rfl, kS192 hS (by omega), Option.bind_some]
    exact half _ (fun a q h1 h2 => by rw [xup_at, if_neg (by omega)]; exact hF a q h1 h2) (fun a q h => by rw [xup_at, if_neg h]) (by rw [xup_at, if_pos ⟨rfl, rfl⟩, eS, if_pos hk])
  · rw [if_neg hk]
    exact half J hF (fun _ _ _ => rfl) (by rw [eS, if_neg hk]; exact r3)
end MM
end
section
/-! the model's meaning: single sites -/
theorem leads_tot {s a w l z : Int32} (hw : w ≠ 0) : ∃ y, f_X12_leads s a w l z = some y := by
  have x : xdz w = some () := by unfold xdz; rw [if_neg hw]
  unfold f_X12_leads
  rw [x, Option.bind_some, Option.bind_some]
  split
  · split
    · split
      · exact ⟨_, rfl⟩
      · split
        · exact ⟨_, rfl⟩
        · exact ⟨_, rfl⟩
    · exact ⟨_, rfl⟩
  · split
    · split
      · exact ⟨_, rfl⟩
      · split
        · exact ⟨_, rfl⟩
        · exact ⟨_, rfl⟩
    · exact ⟨_, rfl⟩
noncomputable def ldB (w l rA rL s a : Nat) : Bool := match f_X12_leads (nI s) (nI a) (nI w) (nI l) (nI (if a = 0 then rA else rL)) with
  | some y => !decide (0 ≤ y)
  | none => false
def alT (b : Nat → Int32) (m k : Nat) : Nat := if tKd b m (k + 2) = 7 then 1 else 0
noncomputable def btB (b : Nat → Int32) (m w l rA rL k : Nat) : Bool := decide (w * l ≤ tNu b m (k + 1)) || (decide (tKd b m k = 10) && ldB w l rA rL (tNu b m (k + 1)) (alT b m k))
section ONE
variable {τ : XS} {J0 J : Nat → Nat → Int32} {b : Nat → Int32} {m T w l rA rL : Nat} {W : Nat → Nat → Prop}
theorem btB_ok {r : Nat} (hg : ((w, l, r) : GD) ∈ gAll) (h1 : rA = r % 2) (h2 : rL = r / 2) (k : Nat) : btB b m w l rA rL k = badS b m w l r k := by
  have hwl : w * l ≤ 16 := (gAll_b _ hg).2.2.1
  unfold btB badS
  by_cases hb : w * l ≤ tNu b m (k + 1)
  · rw [decide_eq_true hb, Bool.true_or, Bool.true_or]
  · rw [decide_eq_false hb, Bool.false_or, Bool.false_or]
    by_cases hk : tKd b m k = 10
    · rw [decide_eq_true hk, Bool.true_and, Bool.true_and]
      have a2 : alT b m k < 2 := by unfold alT; split <;> omega
      have lo := leads_ok (w, l, r) hg (alT b m k) a2 (tNu b m (k + 1)) (by omega) (show tNu b m (k + 1) < w * l by omega)
      have lo : f_X12_leads (nI (tNu b m (k + 1))) (nI (alT b m k)) (nI w) (nI l) (nI (if alT b m k = 0 then rA else rL)) = some (oI (gTo (w, l, r) (tNu b m (k + 1) + 16 * alT b m k))) := by rw [h1, h2]; exact lo
      have et : tNu b m (k + 1) + 16 * alT b m k = tpl b m k := by
        unfold alT tpl
        split <;> omega
      unfold ldB
      rw [lo, et]
      have t32 : tpl b m k < 32 := by unfold tpl; split <;> omega
      show (!decide (0 ≤ oI (gTo (w, l, r) (tpl b m k)))) = _
      cases hgt : gTo (w, l, r) (tpl b m k) with
      | none => rfl
      | some e =>
        have e16 := (gTo_b (w, l, r) hg _ t32 e hgt).2.1
        have e16' : e < 16 := Nat.lt_of_lt_of_le e16 hwl
        have q : ((0 : Int32) ≤ nI e) = (0 ≤ e) := nn_le (a := 0) (by decide) (by omega)
        show (!decide ((0 : Int32) ≤ nI e)) = false
        rw [decide_eq_true (by rw [q]; omega)]
        rfl
    · rw [decide_eq_false hk, Bool.false_and, Bool.false_and]
/-- the J that a line's end may spoil -/
def jfL (b : Nat → Int32) (m k c j : Nat) : Prop := (tKd b m k = 10 ∧ 3 < tNu b m (jnT b m (k + 3)) ∧ c = 3 ∧ j = jnT b m (k + 3)) ∨ (tKd b m k = 11 ∧ 3 < tNu b m (jnT b m (k + 2)) ∧ c = 3 ∧ j = jnT b m (k + 2))
def posT (b : Nat → Int32) (m k : Nat) : Nat := if tKd b m k = 10 then tpl b m k else if tKd b m k = 11 then 32 + tNu b m (k + 1) else 48 + tNu b m (k + 1)
def valT (b : Nat → Int32) (m k : Nat) : Int32 := if tKd b m k = 10 then iI (jvT b m (k + 3)) else if tKd b m k = 11 then iI (jvT b m (k + 2)) else if tKd b m (k + 2) = 13 then 1 else 2
theorem one145 (hS : Shp τ) (hB : MB J0 b m T) (hF : MF J0 J) (hW : MW J b m W) {k : Nat} (hkT : k < T) (hL : LN3 b m k ∨ LN4 b m k ∨ LN5 b m k) (hend : lnE b m k + 1 ≤ T) {is : Nat} (his : is < 2) (hs : is = 1 → tNu b m (k + 1) < 16) :
    ∃ J', f_X12_meansOne_j145 (xw τ J) 183 (nI k) (nI (kmN (tKd b m k))) (nI (tNu b m (k + 1))) (nI is) (nI (alT b m k)) = some (xw τ J') ∧ MW J' b m (fun c j => W c j ∨ jfL b m k c j) ∧ (∀ a q, a ≠ 192 → ¬ (a = 183 ∧ (q = 14 ∨ q = 15)) → J' a q = J a q) ∧ ∀ q, J' 192 q = if is = 1 ∧ q = posT b m k then valT b m k else J 192 q := by
  have hT := hB.1.2.1
  have hV : ∀ x, tKd b m (k + 1) = 2 → x = tNu b m (k + 1) → x < 10000 := fun x h e => by rw [e]; exact tNu_b h
  have q27 : (nI (kmN (tKd b m k)) = (27 : Int32)) = (tKd b m k = 12) := by
    have := KMr_eq (k := tKd b m k) (k' := 12) (x := nI (kmN (tKd b m k))) (.inr ⟨by rcases hL with h | h | h <;> have := h.1 <;> omega, rfl⟩) (tKd_b k) (by omega) (by omega)
    exact this
  have q25 : (nI (kmN (tKd b m k)) = (25 : Int32)) = (tKd b m k = 10) := by
    have := KMr_eq (k := tKd b m k) (k' := 10) (x := nI (kmN (tKd b m k))) (.inr ⟨by rcases hL with h | h | h <;> have := h.1 <;> omega, rfl⟩) (tKd_b k) (by omega) (by omega)
    exact this
  have q26 : (nI (kmN (tKd b m k)) = (26 : Int32)) = (tKd b m k = 11) := by
    have := KMr_eq (k := tKd b m k) (k' := 11) (x := nI (kmN (tKd b m k))) (.inr ⟨by rcases hL with h | h | h <;> have := h.1 <;> omega, rfl⟩) (tKd_b k) (by omega) (by omega)
    exact this
  have qis : (nI is = (0 : Int32)) = (is = 0) := nn_eq (b := 0) (by omega) (by decide)
  have qal : (nI (alT b m k) = (0 : Int32)) = (alT b m k = 0) := nn_eq (b := 0) (by unfold alT; split <;> omega) (by decide)
  -- the J and what it is laid to
  have j200 : ∀ t, isJt b m t → t + jlT b m t ≤ T → (tKd b m k = 10 ∨ tKd b m k = 11) → (∀ c j, jfL b m k c j ↔ (3 < tNu b m (jnT b m t) ∧ c = 3 ∧ j = jnT b m t)) → valT b m k = iI (jvT b m t) → ∃ J', f_X12_meansOne_j200 (xw τ J) 183 (nI (kmN (tKd b m k))) (nI (tNu b m (k + 1))) (nI is) (nI (alT b m k)) 183 (nI t) = some (xw τ J') ∧ MW J' b m (fun c j => W c j ∨ jfL b m k c j) ∧ (∀ a q, a ≠ 192 → ¬ (a = 183 ∧ (q = 14 ∨ q = 15)) → J' a q = J a q) ∧ ∀ q, J' 192 q = if is = 1 ∧ q = posT b m k then valT b m k else J 192 q := by
    intro t hJ ht hk hjf hv
    obtain ⟨J2, e2, w2, u2⟩ := jAt_ok (τ := τ) hS hB hF hW hJ ht
    have w2' : MW J2 b m (fun c j => W c j ∨ jfL b m k c j) := MW_c rfl rfl (fun c j => ⟨fun z => z.elim .inl (fun y => .inr ((hjf c j).mp y)), fun z => z.elim .inl (fun y => .inr ((hjf c j).mpr y))⟩) w2
    unfold f_X12_meansOne_j200
    rw [xw_ck, kC183 hS, Option.bind_some, e2, Option.bind_some]
    dsimp only
    simp only [qis]
    rcases (show is = 0 ∨ is = 1 by omega) with z | z
    · rw [if_pos z]
      exact ⟨J2, rfl, w2', fun a q h1 h2 => u2 a q h2, fun q => by rw [if_neg (by omega)]; exact u2 _ _ (by omega)⟩
    · rw [if_neg (by omega), xw_gR, kR183_26 hS, Option.bind_some]
      have s16 := hs z
      have fin : ∀ p, p = posT b m k → p < 66 → ∃ J', ((xsI (xw τ J2) 20 192 (nI p) (iI (jvT b m t))).bind fun σ8 => some σ8) = some (xw τ J') ∧ MW J' b m (fun c j => W c j ∨ jfL b m k c j) ∧ (∀ a q, a ≠ 192 → ¬ (a = 183 ∧ (q = 14 ∨ q = 15)) → J' a q = J a q) ∧ ∀ q, J' 192 q = if is = 1 ∧ q = posT b m k then valT b m k else J 192 q := by
        intro p hp p66
        refine ⟨xup J2 192 p (iI (jvT b m t)), by rw [kS192 hS p66, Option.bind_some], MW_c (by rw [xup_at, if_neg (by omega)]) (by rw [xup_at, if_neg (by omega)]) (fun _ _ => Iff.rfl) w2', fun a q h1 h2 => by rw [xup_at, if_neg (by omega)]; exact u2 a q h2, fun q => ?_⟩
        rw [xup_at]
        by_cases y : q = p
        · rw [if_pos ⟨rfl, y⟩, if_pos ⟨z, by rw [← hp]; exact y⟩, hv]
        · rw [if_neg (by omega), if_neg (fun x => y (by rw [hp]; exact x.2))]; exact u2 _ _ (by omega)
      simp only [q26, qal]
      rcases hk with y | y
      · rw [if_neg (by omega)]
        by_cases a0 : alT b m k = 0
        · have n7 : ¬ tKd b m (k + 2) = 7 := fun x => by unfold alT at a0; rw [if_pos x] at a0; omega
          rw [if_pos a0, show (0 : Int32) = nI 0 from rfl, nn_add, Nat.zero_add]
          exact fin _ (by unfold posT tpl; rw [if_pos y, if_neg n7]) (by omega)
        · have y7 : tKd b m (k + 2) = 7 := by
            apply Classical.byContradiction
            intro x
            unfold alT at a0
            rw [if_neg x] at a0
            exact a0 rfl
          rw [if_neg a0, show (16 : Int32) = nI 16 from rfl, nn_add]
          exact fin _ (by unfold posT tpl; rw [if_pos y, if_pos y7]) (by omega)
      · rw [if_pos y, show (32 : Int32) = nI 32 from rfl, nn_add]
        exact fin _ (by unfold posT; rw [if_neg (by omega), if_pos y]) (by omega)
  unfold f_X12_meansOne_j145
  simp only [q27, q25]
  rcases hL with ⟨k0, k1, k2, k3⟩ | ⟨k0, k1, k3⟩ | ⟨k0, k1, k2⟩
  · rw [if_neg (by omega), if_pos k0, show (3 : Int32) = nI 3 from rfl, nn_add]
    refine j200 (k + 3) k3 ?_ (.inl k0) (fun c j => ?_) ?_
    · unfold lnE at hend; rw [if_neg (by omega), if_pos k0] at hend; omega
    · unfold jfL
      constructor
      · rintro (z | z)
        · exact z.2
        · omega
      · intro z; exact .inl ⟨k0, z⟩
    · unfold valT; rw [if_pos k0]
  · rw [if_neg (by omega), if_neg (by omega), show (2 : Int32) = nI 2 from rfl, nn_add]
    refine j200 (k + 2) k3 ?_ (.inr k0) (fun c j => ?_) ?_
    · unfold lnE at hend; rw [if_neg (by omega), if_neg (by omega), if_pos k0] at hend; omega
    · unfold jfL
      constructor
      · rintro (z | z)
        · omega
        · exact z.2
      · intro z; exact .inr ⟨k0, z⟩
    · unfold valT; rw [if_neg (by omega), if_pos k0]
  · have hE : lnE b m k = k + 3 := by unfold lnE; rw [if_neg (by omega), if_neg (by omega), if_neg (by omega), if_pos k0]
    have wj : MW J b m (fun c j => W c j ∨ jfL b m k c j) := MW_c rfl rfl (fun c j => ⟨fun z => z.elim id (fun y => by unfold jfL at y; omega), .inl⟩) hW
    rw [if_pos k0]
    simp only [qis]
    rcases (show is = 0 ∨ is = 1 by omega) with z | z
    · rw [if_pos z]
      exact ⟨J, rfl, wj, fun _ _ _ _ => rfl, fun q => by rw [if_neg (by omega)]⟩
    · have s16 := hs z
      have q28 : (J 186 (k + 2) = (28 : Int32)) = (tKd b m (k + 2) = 13) := mKe (k' := 13) hB hF (by omega) (by omega) (by omega)
      have k403 : k + 2 < 403 := by omega
      rw [if_neg (by omega), xw_gR, kR183_26 hS, Option.bind_some, xw_gR, kR183_5 hS, Option.bind_some, show (2 : Int32) = nI 2 from rfl, nn_add, kA186 hS k403, Option.bind_some, show (48 : Int32) = nI 48 from rfl, nn_add]
      simp only [q28]
      obtain ⟨p, hp⟩ : ∃ p, p = 48 + tNu b m (k + 1) := ⟨_, rfl⟩
      have p66 : p < 66 := by omega
      have fin : ∀ v : Int32, v = valT b m k → ∃ J', ((xsI (xw τ J) 20 192 (nI (48 + tNu b m (k + 1))) v).bind fun σ8 => some σ8) = some (xw τ J') ∧ MW J' b m (fun c j => W c j ∨ jfL b m k c j) ∧ (∀ a q, a ≠ 192 → ¬ (a = 183 ∧ (q = 14 ∨ q = 15)) → J' a q = J a q) ∧ ∀ q, J' 192 q = if is = 1 ∧ q = posT b m k then valT b m k else J 192 q := by
        intro v hv
        have ep : posT b m k = p := by unfold posT; rw [if_neg (by omega), if_neg (by omega), hp]
        rw [← hp, ep]
        refine ⟨xup J 192 p v, by rw [kS192 hS p66, Option.bind_some], MW_c (by rw [xup_at, if_neg (by omega)]) (by rw [xup_at, if_neg (by omega)]) (fun _ _ => Iff.rfl) wj, fun a q h1 h2 => by rw [xup_at, if_neg (by omega)], fun q => ?_⟩
        rw [xup_at]
        by_cases y : q = p
        · rw [if_pos ⟨rfl, y⟩, if_pos ⟨z, y⟩, hv]
        · rw [if_neg (by omega), if_neg (fun x => y x.2)]
      by_cases y : tKd b m (k + 2) = 13
      · rw [if_pos y]
        exact fin 1 (by unfold valT; rw [if_neg (by omega), if_neg (by omega), if_pos y])
      · rw [if_neg y]
        exact fin (nI 2) (by unfold valT; rw [if_neg (by omega), if_neg (by omega), if_neg y]; rfl)
theorem meansOne_ok (hS : Shp τ) (hB : MB J0 b m T) (hF : MF J0 J) (hW : MW J b m W) {k : Nat} (hk4 : 4 ≤ k) (hkT : k ≤ T) (hl : lsB b m k = true) (h22 : J 183 22 = nI w) (h23 : J 183 23 = nI l) (h24 : J 183 24 = nI rA) (h25 : J 183 25 = nI rL) (hw : w < 10000) (hll : l < 10000) (hsz : J 183 14 = 0 → w * l ≤ 16) :
    ∃ J', f_X12_meansOne (xw τ J) 183 (nI k) = some (xw τ J') ∧ MF J0 J' ∧ MW J' b m (fun c j => W c j ∨ (¬ (tKd b m k = 6 ∨ tKd b m k = 7 ∨ tKd b m k = 8) ∧ clL b m (btB b m w l rA rL) k c j)) ∧ (∀ q, 22 ≤ q → q ≤ 25 → J' 183 q = J 183 q) ∧ (J 183 14 = 0 → ∀ q, J' 192 q = if (tKd b m k = 10 ∨ tKd b m k = 11 ∨ tKd b m k = 12) ∧ btB b m w l rA rL k = false ∧ q = posT b m k then valT b m k else J 192 q) := by
  have hT := hB.1
  have T400 := hT.2.1
  have k403 : k < 403 := by omega
  have q25 : (J 186 k = (25 : Int32)) = (tKd b m k = 10) := mKe (k' := 10) hB hF hkT (by omega) (by omega)
  have q26 : (J 186 k = (26 : Int32)) = (tKd b m k = 11) := mKe (k' := 11) hB hF hkT (by omega) (by omega)
  have q27 : (J 186 k = (27 : Int32)) = (tKd b m k = 12) := mKe (k' := 12) hB hF hkT (by omega) (by omega)
  have hws := (ls_ws hT hk4 hkT).mp hl
  unfold f_X12_meansOne
  rw [xw_gR, kR183_5 hS, Option.bind_some, kA186 hS k403, Option.bind_some]
  simp only [q25, q26, q27]
  by_cases hk : tKd b m k = 10 ∨ tKd b m k = 11 ∨ tKd b m k = 12
  · have hlt : k < T := by
      rcases Nat.lt_or_ge k T with z | z
      · exact z
      · have : k = T := by omega
        rw [this, hT.2.2] at hk; omega
    obtain ⟨hline, -, -, hend, -⟩ := line_at hT hws hlt
    have hL : LN3 b m k ∨ LN4 b m k ∨ LN5 b m k := by
      rcases hline with h | h | h | h | h | h
      · have := h.1; omega
      · have := h.1; omega
      · exact .inl h
      · exact .inr (.inl h)
      · exact .inr (.inr h)
      · have := h.1; omega
    have k1 : tKd b m (k + 1) = 2 := by
      rcases hL with h | h | h
      · exact h.2.1
      · exact h.2.1
      · exact h.2.1
    have hE2 : k + 2 ≤ T := by
      have : k + 2 ≤ lnE b m k := by
        have j3 : 1 ≤ jlT b m (k + 3) := by unfold jlT; split <;> omega
        have j2 : 1 ≤ jlT b m (k + 2) := by unfold jlT; split <;> omega
        unfold lnE
        rcases hk with z | z | z
        · rw [if_neg (by omega), if_pos z]; omega
        · rw [if_neg (by omega), if_neg (by omega), if_pos z]; omega
        · rw [if_neg (by omega), if_neg (by omega), if_neg (by omega), if_pos z]; omega
      omega
    obtain ⟨s, hs⟩ : ∃ s, s = tNu b m (k + 1) := ⟨_, rfl⟩
    have s4 : s < 10000 := by rw [hs]; exact tNu_b k1
    have vs := (mK hB hF (show k + 1 ≤ T by omega)).2.2 k1
    rw [← hs] at vs
    have ekm : J 186 k = nI (kmN (tKd b m k)) := by
      rcases (mK hB hF hkT).1 with ⟨z, -⟩ | ⟨-, z⟩
      · omega
      · exact z
    have hwl : w * l < 100000000 := by
      by_cases z : w = 0
      · rw [z, Nat.zero_mul]; omega
      · have := Nat.mul_lt_mul'' hw hll
        omega
    have qw : (nI w * nI l ≤ nI s) = (w * l ≤ s) := by rw [nn_mul, nn_le (by omega) (by omega)]
    have q22 : (J 186 (k + 2) = (22 : Int32)) = (tKd b m (k + 2) = 7) := mKe (k' := 7) hB hF hE2 (by omega) (by omega)
    have step : (if tKd b m k = 10 then f_X12_meansOne_j26 (xw τ J) 183 (nI k) (J 186 k) else if tKd b m k = 11 then f_X12_meansOne_j26 (xw τ J) 183 (nI k) (J 186 k) else if tKd b m k = 12 then f_X12_meansOne_j26 (xw τ J) 183 (nI k) (J 186 k) else some (xw τ J)) = f_X12_meansOne_j26 (xw τ J) 183 (nI k) (nI (kmN (tKd b m k))) := by
      rw [ekm]
      by_cases z1 : tKd b m k = 10
      · rw [if_pos z1]
      · rw [if_neg z1]
        by_cases z2 : tKd b m k = 11
        · rw [if_pos z2]
        · rw [if_neg z2, if_pos (by omega)]
    rw [step]
    -- is it to be laid
    obtain ⟨is0, his0⟩ : ∃ is0 : Nat, is0 = if w * l ≤ s then 0 else if J 183 14 = 0 then 1 else 0 := ⟨_, rfl⟩
    have is2 : is0 < 2 := by rw [his0]; split; omega; split <;> omega
    have e80 : f_X12_meansOne_j26 (xw τ J) 183 (nI k) (nI (kmN (tKd b m k))) = f_X12_meansOne_j80 (xw τ J) 183 (nI k) (nI (kmN (tKd b m k))) (nI s) (nI is0) (nI (alT b m k)) := by
      have j60 : ∀ t0, f_X12_meansOne_j60 (xw τ J) 183 (nI k) (nI (kmN (tKd b m k))) (nI s) t0 = f_X12_meansOne_j80 (xw τ J) 183 (nI k) (nI (kmN (tKd b m k))) (nI s) t0 (nI (alT b m k)) := fun t0 => by
        unfold f_X12_meansOne_j60
        rw [xw_gR, kR183_5 hS, Option.bind_some, show (2 : Int32) = nI 2 from rfl, nn_add, kA186 hS (by omega), Option.bind_some]
        simp only [q22]
        unfold alT
        by_cases z : tKd b m (k + 2) = 7
        · rw [if_pos z, if_pos z]; rfl
        · rw [if_neg z, if_neg z]; rfl
      unfold f_X12_meansOne_j26
      rw [xw_gR, kR183_7 hS, Option.bind_some, ← nI_succ, kA188 hS (by omega), Option.bind_some, vs]
      simp only [kG183 hS, Option.bind_some, h22, h23, qw, j60]
      rw [his0]
      by_cases z1 : w * l ≤ s
      · rw [if_pos z1, if_pos z1]; rfl
      · rw [if_neg z1, if_neg z1]
        by_cases z2 : J 183 14 = 0
        · rw [if_pos z2, if_pos z2]; rfl
        · rw [if_neg z2, if_neg z2]; rfl
    rw [e80]
    have qk : (nI (kmN (tKd b m k)) = (25 : Int32)) = (tKd b m k = 10) := by rw [← ekm]; exact q25
    -- all wrong tokens of this line
    have eqW : ∀ c j, (¬ (tKd b m k = 6 ∨ tKd b m k = 7 ∨ tKd b m k = 8) ∧ clL b m (btB b m w l rA rL) k c j) ↔ ((btB b m w l rA rL k = true ∧ c = 4 ∧ j = k + 1) ∨ jfL b m k c j) := fun c j => by
      unfold clL jfL
      constructor
      · rintro ⟨-, ⟨z, -⟩ | ⟨-, z⟩ | z | z⟩
        · omega
        · exact .inl z
        · exact .inr (.inl z)
        · exact .inr (.inr z)
      · rintro (z | z | z)
        · exact ⟨by omega, .inr (.inl ⟨hk, z⟩)⟩
        · exact ⟨by omega, .inr (.inr (.inl z))⟩
        · exact ⟨by omega, .inr (.inr (.inr z))⟩
    -- a site that is wrong
    have j134 : btB b m w l rA rL k = true → ∃ J', f_X12_meansOne_j134 (xw τ J) 183 (nI k) (nI (kmN (tKd b m k))) (nI s) (nI (alT b m k)) = some (xw τ J') ∧ MF J0 J' ∧ MW J' b m (fun c j => W c j ∨ (¬ (tKd b m k = 6 ∨ tKd b m k = 7 ∨ tKd b m k = 8) ∧ clL b m (btB b m w l rA rL) k c j)) ∧ (∀ q, 22 ≤ q → q ≤ 25 → J' 183 q = J 183 q) ∧ (J 183 14 = 0 → ∀ q, J' 192 q = if (tKd b m k = 10 ∨ tKd b m k = 11 ∨ tKd b m k = 12) ∧ btB b m w l rA rL k = false ∧ q = posT b m k then valT b m k else J 192 q) := by
      intro hbt
      obtain ⟨J1, e1, w1, u1⟩ := wrong_ok (τ := τ) hS hB hF hW (c := 4) (j := k + 1) (by omega) (by omega) (by omega)
      have e1 : f_X12_wrong (xw τ J) 183 (4 : Int32) (nI (k + 1)) = some (xw τ J1) := e1
      have hF1 : MF J0 J1 := fun a q h1 h2 => by rw [u1 a q (by omega)]; exact hF a q h1 h2
      obtain ⟨J2, e2, w2, u2, v2⟩ := one145 (τ := τ) (is := 0) hS hB hF1 w1 hlt hL hend (by omega) (fun z => by omega)
      rw [← hs] at e2
      refine ⟨J2, ?_, fun a q h1 h2 => by rw [u2 a q h1 (by omega)]; exact hF1 a q h1 h2, MW_c rfl rfl (fun c j => ?_) w2, fun q h1 h2 => by rw [u2 _ _ (by omega) (by omega)]; exact u1 _ _ (by omega), fun _ q => ?_⟩
      · unfold f_X12_meansOne_j134
        rw [xw_ck, kC183 hS, Option.bind_some, ← nI_succ, e1, Option.bind_some]
        exact e2
      · rw [eqW]
        constructor
        · rintro (z | ⟨-, z⟩ | z)
          · exact .inl (.inl z)
          · exact .inl (.inr z)
          · exact .inr z
        · rintro ((z | z) | z)
          · exact .inl z
          · exact .inr (.inl ⟨hbt, z⟩)
          · exact .inr (.inr z)
      · rw [v2 q, if_neg (by omega), if_neg (fun z => by rw [hbt] at z; cases z.2.1)]
        exact u1 _ _ (by omega)
    -- a site that is right
    have j145 : btB b m w l rA rL k = false → ¬ w * l ≤ s → ∃ J', f_X12_meansOne_j145 (xw τ J) 183 (nI k) (nI (kmN (tKd b m k))) (nI s) (nI is0) (nI (alT b m k)) = some (xw τ J') ∧ MF J0 J' ∧ MW J' b m (fun c j => W c j ∨ (¬ (tKd b m k = 6 ∨ tKd b m k = 7 ∨ tKd b m k = 8) ∧ clL b m (btB b m w l rA rL) k c j)) ∧ (∀ q, 22 ≤ q → q ≤ 25 → J' 183 q = J 183 q) ∧ (J 183 14 = 0 → ∀ q, J' 192 q = if (tKd b m k = 10 ∨ tKd b m k = 11 ∨ tKd b m k = 12) ∧ btB b m w l rA rL k = false ∧ q = posT b m k then valT b m k else J 192 q) := by
      intro hbt hsw
      obtain ⟨J2, e2, w2, u2, v2⟩ := one145 (τ := τ) (is := is0) hS hB hF hW hlt hL hend is2 (fun z => by
        have z14 : J 183 14 = 0 := by
          apply Classical.byContradiction
          intro y
          rw [his0, if_neg hsw, if_neg y] at z
          cases z
        have := hsz z14
        omega)
      rw [← hs] at e2
      refine ⟨J2, e2, fun a q h1 h2 => by rw [u2 a q h1 (by omega)]; exact hF a q h1 h2, MW_c rfl rfl (fun c j => ?_) w2, fun q h1 h2 => u2 _ _ (by omega) (by omega), fun z14 q => ?_⟩
      · rw [eqW]
        constructor
        · rintro (z | ⟨z, -⟩ | z)
          · exact .inl z
          · rw [hbt] at z; cases z
          · exact .inr z
        · rintro (z | z)
          · exact .inl z
          · exact .inr (.inr z)
      · have e1 : is0 = 1 := by rw [his0, if_neg hsw, if_pos z14]
        rw [v2 q]
        by_cases y : q = posT b m k
        · rw [if_pos ⟨e1, y⟩, if_pos ⟨hk, hbt, y⟩]
        · rw [if_neg (fun x => y x.2), if_neg (fun x => y x.2.2)]
    unfold f_X12_meansOne_j80
    simp only [kG183 hS, Option.bind_some, h22, h23, h24, h25, qw, qk]
    by_cases hsw : w * l ≤ s
    · rw [if_pos hsw]
      exact j134 (by unfold btB; rw [← hs, decide_eq_true hsw, Bool.true_or])
    · rw [if_neg hsw]
      by_cases k10 : tKd b m k = 10
      · rw [if_pos k10]
        have hw0 : w ≠ 0 := fun z => by rw [z, Nat.zero_mul] at hsw; omega
        have qa : (nI (alT b m k) = (0 : Int32)) = (alT b m k = 0) := nn_eq (b := 0) (by unfold alT; split <;> omega) (by decide)
        obtain ⟨y, hy⟩ := leads_tot (s := nI s) (a := nI (alT b m k)) (w := nI w) (l := nI l) (z := nI (if alT b m k = 0 then rA else rL)) (nI_ne0 (by omega) (by omega))
        have hbt : btB b m w l rA rL k = !decide ((0 : Int32) ≤ y) := by
          unfold btB ldB
          rw [← hs, decide_eq_false hsw, Bool.false_or, decide_eq_true k10, Bool.true_and, hy]
        have j128 : ∀ z, z = nI (if alT b m k = 0 then rA else rL) → ∃ J', f_X12_meansOne_j128 (xw τ J) 183 (nI k) (nI (kmN (tKd b m k))) (nI s) (nI is0) (nI (alT b m k)) (nI s) (nI (alT b m k)) (nI w) (nI l) z = some (xw τ J') ∧ MF J0 J' ∧ MW J' b m (fun c j => W c j ∨ (¬ (tKd b m k = 6 ∨ tKd b m k = 7 ∨ tKd b m k = 8) ∧ clL b m (btB b m w l rA rL) k c j)) ∧ (∀ q, 22 ≤ q → q ≤ 25 → J' 183 q = J 183 q) ∧ (J 183 14 = 0 → ∀ q, J' 192 q = if (tKd b m k = 10 ∨ tKd b m k = 11 ∨ tKd b m k = 12) ∧ btB b m w l rA rL k = false ∧ q = posT b m k then valT b m k else J 192 q) := by
          rintro z rfl
          unfold f_X12_meansOne_j128
          rw [hy, Option.bind_some]
          by_cases y0 : (0 : Int32) ≤ y
          · rw [if_pos y0]
            exact j145 (by rw [hbt, decide_eq_true y0]; rfl) hsw
          · rw [if_neg y0]
            exact j134 (by rw [hbt, decide_eq_false y0]; rfl)
        simp only [qa]
        by_cases a0 : alT b m k = 0
        · rw [if_pos a0]
          exact j128 (nI rA) (by rw [if_pos a0])
        · rw [if_neg a0]
          exact j128 (nI rL) (by rw [if_neg a0])
      · rw [if_neg k10]
        exact j145 (by unfold btB; rw [← hs, decide_eq_false hsw, Bool.false_or, decide_eq_false k10, Bool.false_and]) hsw
  · rw [if_neg (by omega), if_neg (by omega), if_neg (by omega)]
    refine ⟨J, rfl, hF, MW_c rfl rfl (fun c j => ⟨fun z => z.elim id (fun y => ?_), .inl⟩) hW, fun _ _ _ => rfl, fun _ q => by rw [if_neg (fun z => hk z.1)]⟩
    exfalso
    obtain ⟨y1, y2⟩ := y
    unfold clL at y2
    omega
end ONE
end
section
/-! the model's meaning, whole -/
section MEANS
variable {τ : XS} {J0 J : Nat → Nat → Int32} {b : Nat → Int32} {m T w l rA rL : Nat} {W : Nat → Nat → Prop}
theorem dl_9 : ∀ v, v < 14 → (dl v 9).all (fun e => decide (e = 7)) = true := by decide
theorem dl_7 : ∀ k, k < 16 → dl 7 k = none ∨ k = 6 ∨ k = 7 := by decide
theorem ring9 (hT : OKT b m T) {k : Nat} (hk : k < T) (h9 : tKd b m k = 9) : tKd b m (k + 1) = 6 ∨ tKd b m (k + 1) = 7 := by
  obtain ⟨v, v1, v2, u, v3, v4⟩ := ws_pre T 4 hT.1 k hk
  have e := dl_9 v (ws_b k v v1)
  rw [h9] at v3
  rw [v3] at e
  have u7 : u = 7 := by simpa using e
  rw [u7] at v4
  obtain ⟨-, -, h16, u', d1, -⟩ := ws_go hT v4 (by omega) (by omega)
  rcases dl_7 _ h16 with z | z | z
  · rw [z] at d1; cases d1
  · exact .inl z
  · exact .inr z
def A1w (b : Nat → Int32) (m k c j : Nat) : Prop := (tKd b m k = 6 ∨ tKd b m k = 7 ∨ tKd b m k = 8) ∧ 3 < tNu b m (jnT b m (k + 1)) ∧ c = 3 ∧ j = jnT b m (k + 1)
def A2w (b : Nat → Int32) (m : Nat) (β : Nat → Bool) (k c j : Nat) : Prop := ¬ (tKd b m k = 6 ∨ tKd b m k = 7 ∨ tKd b m k = 8) ∧ clL b m β k c j
def A0w (w l c j : Nat) : Prop := ((w < 1 ∨ 4 < w) ∧ c = 3 ∧ j = 1) ∨ ((l < 1 ∨ 16 < l ∨ 16 < w * l) ∧ c = 3 ∧ j = 2)
def WW3 (b : Nat → Int32) (m w l : Nat) (β : Nat → Bool) (p q c j : Nat) : Prop := A0w w l c j ∨ (∃ k, k < p ∧ lsB b m k = true ∧ A1w b m k c j) ∨ ∃ k, k < q ∧ lsB b m k = true ∧ A2w b m β k c j
def FR2 (J : Nat → Nat → Int32) (b : Nat → Int32) (m T k : Nat) : Prop := (∀ i, i < 16 → J 192 i = iI ((tII b m i k).getD (aLL b m 6 T)) ∧ J 192 (16 + i) = iI ((tII b m (16 + i) k).getD (aLL b m 7 T)) ∧ J 192 (32 + i) = iI ((pUU b m i k).getD (aLL b m 8 T)) ∧ J 192 (48 + i) = nI (pII b m i k)) ∧ J 192 64 = 0 ∧ J 192 65 = nI (sDD b m T)
theorem MW_0 (hW : MW J b m W) (h : J 183 14 = 0) (c j : Nat) : ¬ W c j := by
  rcases hW with ⟨-, w2⟩ | ⟨c0, j0, -, w2, w3, w4, -, -⟩
  · exact w2 c j
  · rw [w4] at h
    exact absurd h (nI_ne0 (by omega) (by omega))
theorem MW_e (hW : MW J b m W) (h : ∀ c j, ¬ W c j) : J 183 14 = 0 := by
  rcases hW with ⟨w1, -⟩ | ⟨c0, j0, w1, -⟩
  · exact w1
  · exact absurd w1 (h c0 j0)
theorem fold_T {α : Type} {x0 : α} {f : Nat → α → α} (h : ∀ a, f T a = a) : foldL b m x0 f (T + 1) = foldL b m x0 f T := by
  rw [foldL]
  split
  · exact h _
  · rfl
theorem one_l (hS : Shp τ) (hB : MB J0 b m T) (h22 : w < 10000) (h23 : l < 10000) : ∀ n k J, T + 1 - k ≤ n → 4 ≤ k → k ≤ T + 1 → MF J0 J → MW J b m (WW3 b m w l (btB b m w l rA rL) (T + 1) k) → J 183 22 = nI w → J 183 23 = nI l → J 183 24 = nI rA → J 183 25 = nI rL → (J 183 14 = 0 → FR2 J b m T k) → ∃ J', xloop (f_X12_means_b211 183) (nI k, xw τ J) = some (xw τ J') ∧ MF J0 J' ∧ MW J' b m (WW3 b m w l (btB b m w l rA rL) (T + 1) (T + 1)) ∧ J' 183 22 = nI w ∧ J' 183 23 = nI l ∧ J' 183 24 = nI rA ∧ J' 183 25 = nI rL ∧ (J' 183 14 = 0 → FR2 J' b m T (T + 1)) := by
  have hT := hB.1
  have T400 := hT.2.1
  have v10 : ∀ J1, MF J0 J1 → J1 183 10 = nI (T + 1) := fun J1 h => by rw [h _ _ (by omega) (by omega)]; exact hB.2.2.1
  have stop : ∀ J1, MF J0 J1 → xloop (f_X12_means_b211 183) (nI (T + 1), xw τ J1) = some (xw τ J1) := fun J1 h => by
    refine xloop_end ?_
    simp only [f_X12_means_b211]
    rw [kG183 hS, Option.bind_some, v10 J1 h, if_pos (by rw [nn_le (by omega) (by omega)]; exact Nat.le_refl _)]
    rfl
  intro n
  induction n with
  | zero =>
    intro k J hn k4 kT hF hW e22 e23 e24 e25 hR
    have : k = T + 1 := by omega
    subst this
    exact ⟨J, stop J hF, hF, hW, e22, e23, e24, e25, hR⟩
  | succ n ih =>
    intro k J hn k4 kT hF hW e22 e23 e24 e25 hR
    by_cases z : k = T + 1
    · subst z
      exact ⟨J, stop J hF, hF, hW, e22, e23, e24, e25, hR⟩
    · have kT' : k ≤ T := by omega
      have q1 : (nI (T + 1) ≤ nI k) = False := by rw [nn_le (by omega) (by omega)]; exact eq_false (by omega)
      have k403 : k - 1 < 403 := by omega
      have q4 : (J 186 (k - 1) = (4 : Int32)) = (tKd b m (k - 1) = 4) := mKe (k' := 4) hB hF (by omega) (by omega) (by omega)
      have es : nI k - (1 : Int32) = nI (k - 1) := nn_sub (a := k) (b := 1) (by omega)
      have step : f_X12_means_b211 183 (nI k, xw τ J) = if tKd b m (k - 1) = 4 then ((f_X12_meansOne (xw τ J) 183 (nI k)).bind fun σ9 => some (.inl (nI (k + 1), σ9))) else some (.inl (nI (k + 1), xw τ J)) := by
        simp only [f_X12_means_b211]
        rw [kG183 hS, Option.bind_some, v10 J hF, if_neg (by rw [q1]; exact id)]
        simp only [xw_gR, kR183_5 hS, Option.bind_some, es, kA186 hS k403, q4, xw_ck, kC183 hS, nI_succ]
      by_cases hk : tKd b m (k - 1) = 4
      · have hl : lsB b m k = true := by unfold lsB; rw [decide_eq_true k4, decide_eq_true hk]; rfl
        rw [if_pos hk] at step
        have hsz : J 183 14 = 0 → w * l ≤ 16 := fun h => by
          apply Classical.byContradiction
          intro x
          exact MW_0 hW h 3 2 (.inl (.inr ⟨.inr (.inr (by omega)), rfl, rfl⟩))
        obtain ⟨J1, a1, a2, a3, a4, a5⟩ := meansOne_ok (τ := τ) (rA := rA) (rL := rL) hS hB hF hW k4 kT' hl e22 e23 e24 e25 h22 h23 hsz
        have eqW : ∀ c j, WW3 b m w l (btB b m w l rA rL) (T + 1) (k + 1) c j ↔ (WW3 b m w l (btB b m w l rA rL) (T + 1) k c j ∨ (¬ (tKd b m k = 6 ∨ tKd b m k = 7 ∨ tKd b m k = 8) ∧ clL b m (btB b m w l rA rL) k c j)) := fun c j => by
          unfold WW3
          constructor
          · rintro (x | x | ⟨k', x1, x2, x3⟩)
            · exact .inl (.inl x)
            · exact .inl (.inr (.inl x))
            · by_cases y : k' = k
              · rw [y] at x3; exact .inr x3
              · exact .inl (.inr (.inr ⟨k', by omega, x2, x3⟩))
          · rintro ((x | x | ⟨k', x1, x2, x3⟩) | x)
            · exact .inl x
            · exact .inr (.inl x)
            · exact .inr (.inr ⟨k', by omega, x2, x3⟩)
            · exact .inr (.inr ⟨k, by omega, hl, x⟩)
        have a3' := MW_c rfl rfl eqW a3
        have fr : J1 183 14 = 0 → FR2 J1 b m T (k + 1) := fun h => by
          have no := MW_0 a3' h
          have h0 : J 183 14 = 0 := MW_e hW (fun c j x => no c j ((eqW c j).mpr (.inl x)))
          have v := a5 h0
          obtain ⟨r1, r2, r3⟩ := hR h0
          have bt : tKd b m k = 10 ∨ tKd b m k = 11 ∨ tKd b m k = 12 → btB b m w l rA rL k = false := fun hh => by
            cases hb : btB b m w l rA rL k with
            | false => rfl
            | true => exact absurd ((eqW 4 (k + 1)).mpr (.inr ⟨by omega, .inr (.inl ⟨hh, hb, rfl, rfl⟩)⟩)) (no _ _)
          have s16 : tKd b m k = 10 ∨ tKd b m k = 11 ∨ tKd b m k = 12 → tNu b m (k + 1) < 16 := fun hh => by
            have x := bt hh
            unfold btB at x
            rw [Bool.or_eq_false_iff] at x
            have := of_decide_eq_false x.1
            have := hsz h0
            omega
          have vv : ∀ q, J1 192 q = if (tKd b m k = 10 ∨ tKd b m k = 11 ∨ tKd b m k = 12) ∧ q = posT b m k then valT b m k else J 192 q := fun q => by
            rw [v q]
            by_cases hh : tKd b m k = 10 ∨ tKd b m k = 11 ∨ tKd b m k = 12
            · by_cases hq : q = posT b m k
              · rw [if_pos ⟨hh, bt hh, hq⟩, if_pos ⟨hh, hq⟩]
              · rw [if_neg (fun x => hq x.2.2), if_neg (fun x => hq x.2)]
            · rw [if_neg (fun x => hh x.1), if_neg (fun x => hh x.1)]
          have p10 : tKd b m k = 10 → posT b m k = tpl b m k ∧ valT b m k = iI (jvT b m (k + 3)) ∧ tpl b m k < 32 := fun hh => by
            have := s16 (.inl hh)
            unfold posT valT tpl
            rw [if_pos hh, if_pos hh]
            exact ⟨rfl, rfl, by split <;> omega⟩
          have p11 : tKd b m k = 11 → posT b m k = 32 + tNu b m (k + 1) ∧ valT b m k = iI (jvT b m (k + 2)) := fun hh => by
            unfold posT valT
            rw [if_neg (by omega), if_pos hh, if_neg (by omega), if_pos hh]
            exact ⟨rfl, rfl⟩
          have p12 : tKd b m k = 12 → posT b m k = 48 + tNu b m (k + 1) ∧ valT b m k = nI (if tKd b m (k + 2) = 13 then 1 else 2) := fun hh => by
            unfold posT valT
            rw [if_neg (by omega), if_neg (by omega), if_neg (by omega), if_neg (by omega)]
            refine ⟨rfl, ?_⟩
            split <;> rfl
          have t10 : ∀ t, t < 32 → ∀ a, J 192 t = iI ((tII b m t k).getD a) → J1 192 t = iI ((tII b m t (k + 1)).getD a) := fun t ht a ha => by
            rw [vv]
            unfold tII
            rw [fold_at hl]
            by_cases hh : tKd b m k = 10 ∧ tpl b m k = t
            · have := p10 hh.1
              rw [if_pos hh, if_pos ⟨.inl hh.1, by omega⟩, this.2.1]
              rfl
            · rw [if_neg hh, if_neg ?_]
              · exact ha
              · rintro ⟨x1, x2⟩
                have s := s16 x1
                rcases x1 with x | x | x
                · exact hh ⟨x, by rw [x2, (p10 x).1]⟩
                · rw [(p11 x).1] at x2; omega
                · rw [(p12 x).1] at x2; omega
          have ng : ∀ q, 64 ≤ q → J1 192 q = J 192 q := fun q hq => by
            rw [vv, if_neg ?_]
            rintro ⟨x1, x2⟩
            have s := s16 x1
            rcases x1 with x | x | x
            · have := p10 x; omega
            · rw [(p11 x).1] at x2; omega
            · rw [(p12 x).1] at x2; omega
          refine ⟨fun i hi => ⟨t10 i (by omega) _ (r1 i hi).1, t10 (16 + i) (by omega) _ (r1 i hi).2.1, ?_, ?_⟩, by rw [ng 64 (by omega)]; exact r2, by rw [ng 65 (by omega)]; exact r3⟩
          · have ha := (r1 i hi).2.2.1
            rw [vv]
            unfold pUU at ha ⊢
            rw [fold_at hl]
            by_cases hh : tKd b m k = 11 ∧ tNu b m (k + 1) = i
            · have := p11 hh.1
              rw [if_pos hh, if_pos ⟨.inr (.inl hh.1), by omega⟩, this.2]
              rfl
            · rw [if_neg hh, if_neg ?_]
              · exact ha
              · rintro ⟨x1, x2⟩
                have s := s16 x1
                rcases x1 with x | x | x
                · have := p10 x; omega
                · rw [(p11 x).1] at x2; exact hh ⟨x, by omega⟩
                · rw [(p12 x).1] at x2; omega
          · have ha := (r1 i hi).2.2.2
            rw [vv]
            unfold pII at ha ⊢
            rw [fold_at hl]
            by_cases hh : tKd b m k = 12 ∧ tNu b m (k + 1) = i
            · have := p12 hh.1
              rw [if_pos hh, if_pos ⟨.inr (.inr hh.1), by omega⟩, this.2]
            · rw [if_neg hh, if_neg ?_]
              · exact ha
              · rintro ⟨x1, x2⟩
                have s := s16 x1
                rcases x1 with x | x | x
                · have := p10 x; omega
                · rw [(p11 x).1] at x2; omega
                · rw [(p12 x).1] at x2; exact hh ⟨x, by omega⟩
        rw [a1, Option.bind_some] at step
        obtain ⟨J', c1, c2⟩ := ih (k + 1) J1 (by omega) (by omega) (by omega) a2 a3' (by rw [a4 _ (by omega) (by omega)]; exact e22) (by rw [a4 _ (by omega) (by omega)]; exact e23) (by rw [a4 _ (by omega) (by omega)]; exact e24) (by rw [a4 _ (by omega) (by omega)]; exact e25) fr
        exact ⟨J', by rw [← c1]; exact xloop_step step, c2⟩
      · have hl : lsB b m k = false := by unfold lsB; rw [decide_eq_false hk, Bool.and_false]
        rw [if_neg hk] at step
        have eqW : ∀ c j, WW3 b m w l (btB b m w l rA rL) (T + 1) (k + 1) c j ↔ WW3 b m w l (btB b m w l rA rL) (T + 1) k c j := fun c j => by
          unfold WW3
          constructor
          · rintro (x | x | ⟨k', x1, x2, x3⟩)
            · exact .inl x
            · exact .inr (.inl x)
            · refine .inr (.inr ⟨k', ?_, x2, x3⟩)
              rcases Nat.lt_or_ge k' k with y | y
              · exact y
              · have : k' = k := by omega
                rw [this, hl] at x2; cases x2
          · rintro (x | x | ⟨k', x1, x2, x3⟩)
            · exact .inl x
            · exact .inr (.inl x)
            · exact .inr (.inr ⟨k', by omega, x2, x3⟩)
        have fr : J 183 14 = 0 → FR2 J b m T (k + 1) := fun h => by
          have r := hR h
          unfold FR2 tII pUU pII at r ⊢
          simp only [fold_no hl]
          exact r
        obtain ⟨J', c1, c2⟩ := ih (k + 1) J (by omega) (by omega) (by omega) hF (MW_c rfl rfl eqW hW) e22 e23 e24 e25 fr
        exact ⟨J', by rw [← c1]; exact xloop_step step, c2⟩
theorem all_l (hS : Shp τ) (hB : MB J0 b m T) (h22 : w < 10000) (h23 : l < 10000) : ∀ n k J, T + 1 - k ≤ n → 4 ≤ k → k ≤ T + 1 → MF J0 J → MW J b m (WW3 b m w l (btB b m w l rA rL) k 4) → J 183 22 = nI w → J 183 23 = nI l → J 183 24 = nI rA → J 183 25 = nI rL → FR1 J b m k → ∃ J', xloop (f_X12_means_b178 183) (nI k, xw τ J) = some (xw τ J') ∧ MF J0 J' ∧ MW J' b m (WW3 b m w l (btB b m w l rA rL) (T + 1) (T + 1)) ∧ J' 183 22 = nI w ∧ J' 183 23 = nI l ∧ J' 183 24 = nI rA ∧ J' 183 25 = nI rL ∧ (J' 183 14 = 0 → FR2 J' b m T (T + 1)) := by
  have hT := hB.1
  have T400 := hT.2.1
  have v10 : ∀ J1, MF J0 J1 → J1 183 10 = nI (T + 1) := fun J1 h => by rw [h _ _ (by omega) (by omega)]; exact hB.2.2.1
  have stop : ∀ J1, MF J0 J1 → MW J1 b m (WW3 b m w l (btB b m w l rA rL) (T + 1) 4) → J1 183 22 = nI w → J1 183 23 = nI l → J1 183 24 = nI rA → J1 183 25 = nI rL → FR1 J1 b m (T + 1) → ∃ J', xloop (f_X12_means_b178 183) (nI (T + 1), xw τ J1) = some (xw τ J') ∧ MF J0 J' ∧ MW J' b m (WW3 b m w l (btB b m w l rA rL) (T + 1) (T + 1)) ∧ J' 183 22 = nI w ∧ J' 183 23 = nI l ∧ J' 183 24 = nI rA ∧ J' 183 25 = nI rL ∧ (J' 183 14 = 0 → FR2 J' b m T (T + 1)) := fun J1 h hw e22 e23 e24 e25 hR => by
    have eA : ∀ c, c ≠ 0 → aLL b m c (T + 1) = aLL b m c T := fun c hc => fold_T (fun a => by rw [hT.2.2, if_neg (by omega)])
    have eS : sDD b m (T + 1) = sDD b m T := fold_T (fun a => by rw [hT.2.2, if_neg (by omega)])
    have fr : FR2 J1 b m T 4 := by
      obtain ⟨r1, r2, r3⟩ := hR
      rw [eA 6 (by omega), eA 7 (by omega), eA 8 (by omega)] at r1
      rw [eS] at r3
      unfold FR2 tII pUU pII
      simp only [foldL_4 _ _ 4 (Nat.le_refl 4)]
      exact ⟨r1, r2, r3⟩
    obtain ⟨J', c1, c2⟩ := one_l (τ := τ) hS hB h22 h23 (T + 1) 4 J1 (by omega) (by omega) (by have := (head_at hT).1; omega) h hw e22 e23 e24 e25 (fun _ => fr)
    have c1 : xloop (f_X12_means_b211 183) ((4 : Int32), xw τ J1) = some (xw τ J') := c1
    refine ⟨J', xloop_end ?_, c2⟩
    simp only [f_X12_means_b178]
    rw [kG183 hS, Option.bind_some, v10 J1 h, if_pos (by rw [nn_le (by omega) (by omega)]; exact Nat.le_refl _), c1]
    rfl
  intro n
  induction n with
  | zero =>
    intro k J hn k4 kT hF hW e22 e23 e24 e25 hR
    have : k = T + 1 := by omega
    subst this
    exact stop J hF hW e22 e23 e24 e25 hR
  | succ n ih =>
    intro k J hn k4 kT hF hW e22 e23 e24 e25 hR
    by_cases z : k = T + 1
    · subst z
      exact stop J hF hW e22 e23 e24 e25 hR
    · have kT' : k ≤ T := by omega
      have q1 : (nI (T + 1) ≤ nI k) = False := by rw [nn_le (by omega) (by omega)]; exact eq_false (by omega)
      have k403 : k - 1 < 403 := by omega
      have q4 : (J 186 (k - 1) = (4 : Int32)) = (tKd b m (k - 1) = 4) := mKe (k' := 4) hB hF (by omega) (by omega) (by omega)
      have es : nI k - (1 : Int32) = nI (k - 1) := nn_sub (a := k) (b := 1) (by omega)
      have step : f_X12_means_b178 183 (nI k, xw τ J) = if tKd b m (k - 1) = 4 then ((f_X12_meansAll (xw τ J) 183 (nI k)).bind fun σ9 => some (.inl (nI (k + 1), σ9))) else some (.inl (nI (k + 1), xw τ J)) := by
        simp only [f_X12_means_b178]
        rw [kG183 hS, Option.bind_some, v10 J hF, if_neg (by rw [q1]; exact id)]
        simp only [xw_gR, kR183_5 hS, Option.bind_some, es, kA186 hS k403, q4, xw_ck, kC183 hS, nI_succ]
      by_cases hk : tKd b m (k - 1) = 4
      · have hl : lsB b m k = true := by unfold lsB; rw [decide_eq_true k4, decide_eq_true hk]; rfl
        rw [if_pos hk] at step
        obtain ⟨J1, a1, a2, a3, a4, a5⟩ := meansAll_ok (τ := τ) hS hB hF hW k4 kT' hl hR
        have eqW : ∀ c j, WW3 b m w l (btB b m w l rA rL) (k + 1) 4 c j ↔ (WW3 b m w l (btB b m w l rA rL) k 4 c j ∨ ((tKd b m k = 6 ∨ tKd b m k = 7 ∨ tKd b m k = 8) ∧ 3 < tNu b m (jnT b m (k + 1)) ∧ c = 3 ∧ j = jnT b m (k + 1))) := fun c j => by
          unfold WW3
          constructor
          · rintro (x | ⟨k', x1, x2, x3⟩ | x)
            · exact .inl (.inl x)
            · by_cases y : k' = k
              · rw [y] at x3; exact .inr x3
              · exact .inl (.inr (.inl ⟨k', by omega, x2, x3⟩))
            · exact .inl (.inr (.inr x))
          · rintro ((x | ⟨k', x1, x2, x3⟩ | x) | x)
            · exact .inl x
            · exact .inr (.inl ⟨k', by omega, x2, x3⟩)
            · exact .inr (.inr x)
            · exact .inr (.inl ⟨k, by omega, hl, x⟩)
        rw [a1, Option.bind_some] at step
        obtain ⟨J', c1, c2⟩ := ih (k + 1) J1 (by omega) (by omega) (by omega) a2 (MW_c rfl rfl eqW a3) (by rw [a5 _ (by omega) (by omega)]; exact e22) (by rw [a5 _ (by omega) (by omega)]; exact e23) (by rw [a5 _ (by omega) (by omega)]; exact e24) (by rw [a5 _ (by omega) (by omega)]; exact e25) a4
        exact ⟨J', by rw [← c1]; exact xloop_step step, c2⟩
      · have hl : lsB b m k = false := by unfold lsB; rw [decide_eq_false hk, Bool.and_false]
        rw [if_neg hk] at step
        have eqW : ∀ c j, WW3 b m w l (btB b m w l rA rL) (k + 1) 4 c j ↔ WW3 b m w l (btB b m w l rA rL) k 4 c j := fun c j => by
          unfold WW3
          constructor
          · rintro (x | ⟨k', x1, x2, x3⟩ | x)
            · exact .inl x
            · refine .inr (.inl ⟨k', ?_, x2, x3⟩)
              rcases Nat.lt_or_ge k' k with y | y
              · exact y
              · have : k' = k := by omega
                rw [this, hl] at x2; cases x2
            · exact .inr (.inr x)
          · rintro (x | ⟨k', x1, x2, x3⟩ | x)
            · exact .inl x
            · exact .inr (.inl ⟨k', by omega, x2, x3⟩)
            · exact .inr (.inr x)
        have fr : FR1 J b m (k + 1) := by
          unfold FR1 aLL sDD at hR ⊢
          simp only [fold_no hl]
          exact hR
        obtain ⟨J', c1, c2⟩ := ih (k + 1) J (by omega) (by omega) (by omega) hF (MW_c rfl rfl eqW hW) e22 e23 e24 e25 fr
        exact ⟨J', by rw [← c1]; exact xloop_step step, c2⟩
theorem or_1 : ∀ x, x < 4 → (x ||| 1) % 2 = 1 ∧ (x ||| 1) / 2 = x / 2 ∧ (x ||| 2) % 2 = x % 2 ∧ (x ||| 2) / 2 = 1 := by decide
def rUp (J : Nat → Nat → Int32) (r : Nat) : Nat → Nat → Int32 := xup (xup J 183 24 (nI (r % 2))) 183 25 (nI (r / 2))
theorem ring_s (hS : Shp τ) (hB : MB J0 b m T) (hF : MF J0 J) {k : Nat} (hk : k ≤ T) (h1 : J 183 24 = nI (rgN b m k % 2)) (h2 : J 183 25 = nI (rgN b m k / 2)) : ∃ J', f_X12_means_b104 183 (nI k, xw τ J) = some (.inl (nI (k + 1), xw τ J')) ∧ MF J0 J' ∧ (∀ a q, ¬ (a = 183 ∧ (q = 24 ∨ q = 25)) → J' a q = J a q) ∧ J' 183 24 = nI (rgN b m (k + 1) % 2) ∧ J' 183 25 = nI (rgN b m (k + 1) / 2) := by
  have hT := hB.1
  have T400 := hT.2.1
  have v10 : J 183 10 = nI (T + 1) := by rw [hF _ _ (by omega) (by omega)]; exact hB.2.2.1
  have q1 : (nI (T + 1) ≤ nI k) = False := by rw [nn_le (by omega) (by omega)]; exact eq_false (by omega)
  have k403 : k < 403 := by omega
  have es : nI k + (1 : Int32) = nI (k + 1) := (nI_succ k).symm
  have q9 : (J 186 k = (24 : Int32)) = (tKd b m k = 9) := mKe (k' := 9) hB hF hk (by omega) (by omega)
  have rb := or_1 _ (rgN_b b m k)
  simp only [f_X12_means_b104]
  rw [kG183 hS, Option.bind_some, v10, if_neg (by rw [q1]; exact id)]
  by_cases h9 : tKd b m k = 9
  · have hlt : k < T := by
      rcases Nat.lt_or_ge k T with z | z
      · exact z
      · have : k = T := by omega
        rw [this, hT.2.2] at h9; omega
    have k403' : k + 1 < 403 := by omega
    have q6 : (J 186 (k + 1) = (21 : Int32)) = (tKd b m (k + 1) = 6) := mKe (k' := 6) hB hF (by omega) (by omega) (by omega)
    have q7 : (J 186 (k + 1) = (22 : Int32)) = (tKd b m (k + 1) = 7) := mKe (k' := 7) hB hF (by omega) (by omega) (by omega)
    rw [xw_gR, kR183_5 hS, Option.bind_some, kA186 hS k403, Option.bind_some, if_pos (by rw [q9]; exact h9), Option.bind_some, es, kA186 hS k403', Option.bind_some]
    rcases ring9 hT hlt h9 with h6 | h7
    · have er : rgN b m (k + 1) = rgN b m k ||| 1 := by rw [rgN, if_pos h9, if_pos h6]
      have g1 : (xup J 183 24 (1 : Int32)) 186 k = J 186 k := by rw [xup_at, if_neg (by omega)]
      have g2 : (xup J 183 24 (1 : Int32)) 186 (k + 1) = J 186 (k + 1) := by rw [xup_at, if_neg (by omega)]
      refine ⟨xup J 183 24 1, ?_, fun a q x y => by rw [xup_at, if_neg (by omega)]; exact hF a q x y, fun a q x => by rw [xup_at, if_neg (by omega)], by rw [xup_at, if_pos ⟨rfl, rfl⟩, er, rb.1]; rfl, by rw [xup_at, if_neg (by omega), h2, er, rb.2.1]⟩
      rw [if_pos (by rw [q6]; exact h6), kP183 hS, Option.bind_some]
      unfold f_X12_means_j141
      rw [xw_gR, kR183_5 hS, Option.bind_some, kA186 hS k403, Option.bind_some, g1, if_pos (by rw [q9]; exact h9), Option.bind_some, es, kA186 hS k403', Option.bind_some, g2, if_neg (by rw [q7]; omega)]
    · have er : rgN b m (k + 1) = rgN b m k ||| 2 := by rw [rgN, if_pos h9, if_neg (by omega)]
      refine ⟨xup J 183 25 1, ?_, fun a q x y => by rw [xup_at, if_neg (by omega)]; exact hF a q x y, fun a q x => by rw [xup_at, if_neg (by omega)], by rw [xup_at, if_neg (by omega), h1, er, rb.2.2.1], by rw [xup_at, if_pos ⟨rfl, rfl⟩, er, rb.2.2.2]; rfl⟩
      rw [if_neg (by rw [q6]; omega)]
      unfold f_X12_means_j141
      rw [xw_gR, kR183_5 hS, Option.bind_some, kA186 hS k403, Option.bind_some, if_pos (by rw [q9]; exact h9), Option.bind_some, es, kA186 hS k403', Option.bind_some, if_pos (by rw [q7]; exact h7), kP183 hS, Option.bind_some]
  · have er : rgN b m (k + 1) = rgN b m k := by rw [rgN, if_neg h9]
    refine ⟨J, ?_, hF, fun _ _ _ => rfl, by rw [er]; exact h1, by rw [er]; exact h2⟩
    rw [xw_gR, kR183_5 hS, Option.bind_some, kA186 hS k403, Option.bind_some, if_neg (by rw [q9]; exact h9)]
    unfold f_X12_means_j141
    rw [xw_gR, kR183_5 hS, Option.bind_some, kA186 hS k403, Option.bind_some, if_neg (by rw [q9]; exact h9), es]
theorem ring_l (hS : Shp τ) (hB : MB J0 b m T) : ∀ n k J, T + 1 - k ≤ n → k ≤ T + 1 → MF J0 J → J 183 24 = nI (rgN b m k % 2) → J 183 25 = nI (rgN b m k / 2) → ∃ J', (∀ z, xloop (f_X12_means_b178 183) ((4 : Int32), xw τ J') = some z → xloop (f_X12_means_b104 183) (nI k, xw τ J) = some z) ∧ MF J0 J' ∧ (∀ a q, ¬ (a = 183 ∧ (q = 24 ∨ q = 25)) → J' a q = J a q) ∧ J' 183 24 = nI (rgN b m T % 2) ∧ J' 183 25 = nI (rgN b m T / 2) := by
  have hT := hB.1
  have T400 := hT.2.1
  have v10 : ∀ J1, MF J0 J1 → J1 183 10 = nI (T + 1) := fun J1 h => by rw [h _ _ (by omega) (by omega)]; exact hB.2.2.1
  have er : rgN b m (T + 1) = rgN b m T := by rw [rgN, if_neg (by rw [hT.2.2]; omega)]
  have stop : ∀ J1, MF J0 J1 → J1 183 24 = nI (rgN b m (T + 1) % 2) → J1 183 25 = nI (rgN b m (T + 1) / 2) → ∃ J', (∀ z, xloop (f_X12_means_b178 183) ((4 : Int32), xw τ J') = some z → xloop (f_X12_means_b104 183) (nI (T + 1), xw τ J1) = some z) ∧ MF J0 J' ∧ (∀ a q, ¬ (a = 183 ∧ (q = 24 ∨ q = 25)) → J' a q = J1 a q) ∧ J' 183 24 = nI (rgN b m T % 2) ∧ J' 183 25 = nI (rgN b m T / 2) := fun J1 h h1 h2 => by
    refine ⟨J1, fun z hz => xloop_end ?_, h, fun _ _ _ => rfl, by rw [← er]; exact h1, by rw [← er]; exact h2⟩
    simp only [f_X12_means_b104]
    rw [kG183 hS, Option.bind_some, v10 J1 h, if_pos (by rw [nn_le (by omega) (by omega)]; exact Nat.le_refl _), hz]
    rfl
  intro n
  induction n with
  | zero =>
    intro k J hn kT hF h1 h2
    have : k = T + 1 := by omega
    subst this
    exact stop J hF h1 h2
  | succ n ih =>
    intro k J hn kT hF h1 h2
    by_cases z : k = T + 1
    · subst z
      exact stop J hF h1 h2
    · obtain ⟨J1, a1, a2, a3, a4, a5⟩ := ring_s (τ := τ) hS hB hF (show k ≤ T by omega) h1 h2
      obtain ⟨J', c1, c2, c3, c4⟩ := ih (k + 1) J1 (by omega) (by omega) a2 a4 a5
      exact ⟨J', fun z hz => by rw [← c1 z hz]; exact xloop_step a1, c2, fun a q h => by rw [c3 a q h]; exact a3 a q h, c4⟩
theorem fresh_l (hS : Shp τ) : ∀ z, xloop (f_X12_means_b104 183) ((0 : Int32), xw τ (fun a q => if a = 192 ∧ q < 66 then 0 else J a q)) = some z → xloop (f_X12_means_b83 183) ((0 : Int32), xw τ J) = some z := by
  intro z hz
  refine xforE (fun i : Nat => (nI i, xw τ (fun a q => if a = 192 ∧ q < i then 0 else J a q))) 66 ?_ (fun i hi => ?_) ?_
  · have : (fun a q => if a = 192 ∧ q < 0 then 0 else J a q) = J := by
      funext a q
      rw [if_neg (by omega)]
    simp only [this]
    rfl
  · have q1 : ((66 : Int32) ≤ nI i) = False := by rw [show (66 : Int32) = nI 66 from rfl, nn_le (by omega) (by omega)]; exact eq_false (by omega)
    have e : xup (fun a q => if a = 192 ∧ q < i then 0 else J a q) 192 i 0 = fun a q => if a = 192 ∧ q < i + 1 then 0 else J a q := by
      funext a q
      rw [xup_at]
      by_cases z : a = 192 ∧ q = i
      · rw [if_pos z, if_pos (by omega)]
      · rw [if_neg z]
        by_cases y : a = 192 ∧ q < i
        · rw [if_pos y, if_pos (by omega)]
        · rw [if_neg y, if_neg (by omega)]
    simp only [f_X12_means_b83]
    rw [if_neg (by rw [q1]; exact id), xw_gR, kR183_26 hS, Option.bind_some, kS192 hS hi, Option.bind_some, e, nI_succ]
  · simp only [f_X12_means_b83]
    rw [if_pos (by decide), hz]
    rfl
theorem in_14 (x : Nat) (hx : x < 10000) {n : Nat} (hn : n < 100) : f_X12_in (nI x) 1 (nI n) = some (if x < 1 ∨ n < x then 0 else 1) := by
  have q1 : (nI x < (1 : Int32)) = (x < 1) := nn_lt (b := 1) (by omega) (by decide)
  have q2 : (nI n < nI x) = (n < x) := nn_lt (by omega) (by omega)
  unfold f_X12_in
  simp only [q1, q2]
  by_cases z1 : x < 1
  · rw [if_pos z1, if_pos (.inl z1)]
  · rw [if_neg z1]
    by_cases z2 : n < x
    · rw [if_pos z2, if_pos (.inr z2)]
    · rw [if_neg z2, if_neg (by omega)]
theorem means_ok (hS : Shp τ) (hB : MB J0 b m T) (h14 : J0 183 14 = 0) : ∃ J', f_X12_means (xw τ J0) 183 = some (xw τ J') ∧ MF J0 J' ∧ J' 183 22 = nI (tNu b m 1) ∧ J' 183 23 = nI (tNu b m 2) ∧ J' 183 24 = nI (rgN b m T % 2) ∧ J' 183 25 = nI (rgN b m T / 2) ∧ ((fFT b m T = none ∧ J' 183 14 = 0 ∧ FR2 J' b m T T) ∨ ∃ x i, fFT b m T = some (x, i) ∧ J' 183 14 = nI x ∧ J' 183 15 = nI (tSt b m i)) := by
  have hT := hB.1
  have T400 := hT.2.1
  obtain ⟨T4, k0, k1, k2, k3, -⟩ := head_at hT
  obtain ⟨w, hw⟩ : ∃ w, w = tNu b m 1 := ⟨_, rfl⟩
  obtain ⟨l, hl⟩ : ∃ l, l = tNu b m 2 := ⟨_, rfl⟩
  obtain ⟨r, hr⟩ : ∃ r, r = rgN b m T := ⟨_, rfl⟩
  have w4 : w < 10000 := by rw [hw]; exact tNu_b k1
  have l4 : l < 10000 := by rw [hl]; exact tNu_b k2
  have v1 : J0 188 1 = nI w := by rw [hw]; exact (mK hB (fun _ _ _ _ => rfl) (show 1 ≤ T by omega)).2.2 k1
  have v2 : J0 188 2 = nI l := by rw [hl]; exact (mK hB (fun _ _ _ _ => rfl) (show 2 ≤ T by omega)).2.2 k2
  rw [← hw, ← hl, ← hr]
  obtain ⟨A, hA⟩ : ∃ A, A = xup (xup (xup (xup J0 183 22 (nI w)) 183 23 (nI l)) 183 24 0) 183 25 0 := ⟨_, rfl⟩
  have A22 : A 183 22 = nI w := by rw [hA, xup_at, if_neg (by omega), xup_at, if_neg (by omega), xup_at, if_neg (by omega), xup_at, if_pos ⟨rfl, rfl⟩]
  have A23 : A 183 23 = nI l := by rw [hA, xup_at, if_neg (by omega), xup_at, if_neg (by omega), xup_at, if_pos ⟨rfl, rfl⟩]
  have A24 : A 183 24 = 0 := by rw [hA, xup_at, if_neg (by omega), xup_at, if_pos ⟨rfl, rfl⟩]
  have A25 : A 183 25 = 0 := by rw [hA, xup_at, if_pos ⟨rfl, rfl⟩]
  have uA : ∀ a q, ¬ (a = 183 ∧ 22 ≤ q ∧ q ≤ 25) → A a q = J0 a q := fun a q h => by rw [hA, xup_at, if_neg (by omega), xup_at, if_neg (by omega), xup_at, if_neg (by omega), xup_at, if_neg (by omega)]
  have FA : MF J0 A := fun a q h1 h2 => uA a q (by omega)
  have WA : MW A b m (fun _ _ => False) := .inl ⟨by rw [uA _ _ (by omega)]; exact h14, fun _ _ => id⟩
  have i1 : f_X12_in (nI w) 1 4 = some (if w < 1 ∨ 4 < w then 0 else 1) := in_14 w w4 (n := 4) (by omega)
  have i2 : f_X12_in (nI l) 1 16 = some (if l < 1 ∨ 16 < l then 0 else 1) := in_14 l l4 (n := 16) (by omega)
  -- the width
  obtain ⟨B, b1, b2, b3, b4⟩ : ∃ B, (if (if w < 1 ∨ 4 < w then (0 : Int32) else 1) = 0 then ((xck (xw τ A) 183 12).bind fun _ => (f_X12_wrong (xw τ A) 183 (3 : Int32) (1 : Int32)).bind fun σ23 => f_X12_means_j48 σ23 183) else f_X12_means_j48 (xw τ A) 183) = f_X12_means_j48 (xw τ B) 183 ∧ MF J0 B ∧ MW B b m (fun c j => (w < 1 ∨ 4 < w) ∧ c = 3 ∧ j = 1) ∧ ∀ a q, ¬ (a = 183 ∧ (q = 14 ∨ q = 15)) → B a q = A a q := by
    by_cases z : w < 1 ∨ 4 < w
    · obtain ⟨B, c1, c2, c3⟩ := wrong_ok (τ := τ) hS hB FA WA (c := 3) (j := 1) (by omega) (by omega) (by omega)
      have c1 : f_X12_wrong (xw τ A) 183 (3 : Int32) (1 : Int32) = some (xw τ B) := c1
      refine ⟨B, ?_, fun a q h1 h2 => by rw [c3 a q (by omega)]; exact FA a q h1 h2, MW_c rfl rfl (fun c j => ⟨fun x => .inr x.2, fun x => x.elim (fun y => y.elim) (fun y => ⟨z, y⟩)⟩) c2, c3⟩
      rw [if_pos z, if_pos rfl, xw_ck, kC183 hS, Option.bind_some, c1, Option.bind_some]
    · refine ⟨A, ?_, FA, MW_c rfl rfl (fun c j => ⟨fun x => z x.1, fun x => x.elim⟩) WA, fun _ _ _ => rfl⟩
      rw [if_neg z, if_neg (by decide)]
  -- the length
  have wl : nI w * nI l = nI (w * l) := nn_mul ..
  have hwl : w * l < 100000000 := by
    by_cases z : w = 0
    · rw [z, Nat.zero_mul]; omega
    · have := Nat.mul_lt_mul'' w4 l4
      omega
  have q16 : (nI (w * l) ≤ (16 : Int32)) = (w * l ≤ 16) := nn_le (b := 16) (by omega) (by decide)
  have B22 : B 183 22 = nI w := by rw [b4 _ _ (by omega)]; exact A22
  have B23 : B 183 23 = nI l := by rw [b4 _ _ (by omega)]; exact A23
  obtain ⟨C, c1, c2, c3, c4⟩ : ∃ C, f_X12_means_j48 (xw τ B) 183 = xloop (f_X12_means_b83 183) ((0 : Int32), xw τ C) ∧ MF J0 C ∧ MW C b m (A0w w l) ∧ ∀ a q, ¬ (a = 183 ∧ (q = 14 ∨ q = 15)) → C a q = A a q := by
    have st : f_X12_means_j48 (xw τ B) 183 = if (if l < 1 ∨ 16 < l then (0 : Int32) else 1) = 0 then f_X12_means_j75 (xw τ B) 183 else if w * l ≤ 16 then xloop (f_X12_means_b83 183) ((0 : Int32), xw τ B) else f_X12_means_j75 (xw τ B) 183 := by
      unfold f_X12_means_j48
      simp only [kG183 hS, Option.bind_some, B22, B23, i2, wl, q16]
    rw [st]
    have bad : (l < 1 ∨ 16 < l ∨ 16 < w * l) → ∃ C, f_X12_means_j75 (xw τ B) 183 = xloop (f_X12_means_b83 183) ((0 : Int32), xw τ C) ∧ MF J0 C ∧ MW C b m (A0w w l) ∧ ∀ a q, ¬ (a = 183 ∧ (q = 14 ∨ q = 15)) → C a q = A a q := fun z => by
      obtain ⟨C, d1, d2, d3⟩ := wrong_ok (τ := τ) hS hB b2 b3 (c := 3) (j := 2) (by omega) (by omega) (by omega)
      have d1 : f_X12_wrong (xw τ B) 183 (3 : Int32) (2 : Int32) = some (xw τ C) := d1
      refine ⟨C, ?_, fun a q h1 h2 => by rw [d3 a q (by omega)]; exact b2 a q h1 h2, MW_c rfl rfl (fun c j => ⟨fun x => x.elim .inl (fun y => .inr y.2), fun x => x.elim .inl (fun y => .inr ⟨z, y⟩)⟩) d2, fun a q h => by rw [d3 a q h]; exact b4 a q h⟩
      unfold f_X12_means_j75
      rw [xw_ck, kC183 hS, Option.bind_some, d1, Option.bind_some]
    by_cases z : l < 1 ∨ 16 < l
    · rw [if_pos z, if_pos rfl]
      exact bad (by omega)
    · rw [if_neg z, if_neg (by decide)]
      by_cases y : w * l ≤ 16
      · rw [if_pos y]
        exact ⟨B, rfl, b2, MW_c rfl rfl (fun c j => ⟨fun x => x.elim id (fun u => by omega), .inl⟩) b3, b4⟩
      · rw [if_neg y]
        exact bad (by omega)
  -- the loops
  obtain ⟨D, hD⟩ : ∃ D : Nat → Nat → Int32, D = fun a q => if a = 192 ∧ q < 66 then 0 else C a q := ⟨_, rfl⟩
  have uD : ∀ a q, a ≠ 192 → D a q = C a q := fun a q h => by rw [hD]; exact if_neg (by omega)
  have FD : MF J0 D := fun a q h1 h2 => by rw [uD a q h1]; exact c2 a q h1 h2
  have D24 : D 183 24 = nI (rgN b m 0 % 2) := by rw [uD _ _ (by omega), c4 _ _ (by omega), A24]; rfl
  have D25 : D 183 25 = nI (rgN b m 0 / 2) := by rw [uD _ _ (by omega), c4 _ _ (by omega), A25, show rgN b m 0 = 0 from rfl, show 0 / 2 = 0 from rfl]; rfl
  obtain ⟨E, e1, e2, e3, e4, e5⟩ := ring_l (τ := τ) hS hB (T + 1) 0 D (by omega) (by omega) FD D24 D25
  rw [← hr] at e4 e5
  have E22 : E 183 22 = nI w := by rw [e3 _ _ (by omega), uD _ _ (by omega), c4 _ _ (by omega)]; exact A22
  have E23 : E 183 23 = nI l := by rw [e3 _ _ (by omega), uD _ _ (by omega), c4 _ _ (by omega)]; exact A23
  have z0 : ∀ q, q < 66 → E 192 q = 0 := fun q hq => by rw [e3 _ _ (by omega), hD]; exact if_pos ⟨rfl, hq⟩
  have hno : ∀ k, k < 4 → lsB b m k = false := fun k hk => by unfold lsB; rw [decide_eq_false (by omega), Bool.false_and]
  have WE : MW E b m (WW3 b m w l (btB b m w l (r % 2) (r / 2)) 4 4) := by
    refine MW_c (by rw [e3 _ _ (by omega), uD _ _ (by omega)]) (by rw [e3 _ _ (by omega), uD _ _ (by omega)]) (fun c j => ⟨fun x => ?_, .inl⟩) c3
    rcases x with x | ⟨k, x1, x2, -⟩ | ⟨k, x1, x2, -⟩
    · exact x
    · rw [hno k x1] at x2; cases x2
    · rw [hno k x1] at x2; cases x2
  have RE : FR1 E b m 4 := by
    unfold FR1 aLL sDD
    simp only [foldL_4 _ _ 4 (Nat.le_refl 4)]
    exact ⟨fun i hi => ⟨z0 _ (by omega), z0 _ (by omega), z0 _ (by omega), z0 _ (by omega)⟩, z0 _ (by omega), z0 _ (by omega)⟩
  obtain ⟨G, g1, g2, g3, g4, g5, g6, g7, g8⟩ := all_l (τ := τ) hS hB w4 l4 (T + 1) 4 E (by omega) (by omega) (by omega) e2 WE E22 E23 e4 e5 RE
  have g1 : xloop (f_X12_means_b178 183) ((4 : Int32), xw τ E) = some (xw τ G) := g1
  refine ⟨G, ?_, g2, g4, g5, g6, g7, ?_⟩
  · have h1 := e1 _ g1
    have h1 : xloop (f_X12_means_b104 183) ((0 : Int32), xw τ D) = some (xw τ G) := h1
    rw [hD] at h1
    have h2 := fresh_l hS _ h1
    rw [← c1, ← b1] at h2
    rw [← h2]
    have s1 : xup J0 183 22 (nI w) 188 2 = nI l := by rw [xup_at, if_neg (by omega)]; exact v2
    unfold f_X12_means
    rw [xw_gR, kR183_7 hS, Option.bind_some, show (1 : Int32) = nI 1 from rfl, kA188 hS (by omega), Option.bind_some, v1, kP183 hS, Option.bind_some, xw_gR, kR183_7 hS, Option.bind_some, show (2 : Int32) = nI 2 from rfl, kA188 hS (by omega), Option.bind_some, s1, kP183 hS, Option.bind_some, kP183 hS, Option.bind_some, kP183 hS, Option.bind_some, ← hA, kG183 hS, Option.bind_some, A22]
    have i1 : f_X12_in (nI w) (nI 1) 4 = some (if w < 1 ∨ 4 < w then 0 else 1) := i1
    rw [i1, Option.bind_some]
    rfl
  · have hft : fFT b m T = fFF b m w l r T := by unfold fFT; rw [hw, hl, hr]
    have hβ : szF w l = none → btB b m w l (r % 2) (r / 2) = badS b m w l r := fun hz => by
      have hg : ((w, l, r) : GD) ∈ gAll := by rw [hw, hl, hr]; exact sz_in (by rw [← hw, ← hl]; exact hz)
      funext k
      exact btB_ok hg rfl rfl k
    -- every wrong token lies in a line
    have cl : ∀ c j, WW3 b m w l (btB b m w l (r % 2) (r / 2)) (T + 1) (T + 1) c j → A0w w l c j ∨ ∃ k, k < T ∧ lsB b m k = true ∧ clL b m (btB b m w l (r % 2) (r / 2)) k c j := fun c j x => by
      rcases x with x | ⟨k, x1, x2, x3⟩ | ⟨k, x1, x2, -, x3⟩
      · exact .inl x
      · refine .inr ⟨k, ?_, x2, .inl x3⟩
        rcases Nat.lt_or_ge k T with y | y
        · exact y
        · have : k = T := by omega
          have := x3.1
          rw [‹k = T›, hT.2.2] at this; omega
      · refine .inr ⟨k, ?_, x2, x3⟩
        rcases Nat.lt_or_ge k T with y | y
        · exact y
        · have kT : k = T := by omega
          have := hT.2.2
          unfold clL at x3
          rw [kT] at x3; omega
    have lc : ∀ k c j, k < T → lsB b m k = true → clL b m (btB b m w l (r % 2) (r / 2)) k c j → WW3 b m w l (btB b m w l (r % 2) (r / 2)) (T + 1) (T + 1) c j := fun k c j x1 x2 x3 => by
      by_cases y : tKd b m k = 6 ∨ tKd b m k = 7 ∨ tKd b m k = 8
      · refine .inr (.inl ⟨k, by omega, x2, ?_⟩)
        rcases x3 with x | ⟨x, -⟩ | ⟨x, -⟩ | ⟨x, -⟩
        · exact x
        · omega
        · omega
        · omega
      · exact .inr (.inr ⟨k, by omega, x2, y, x3⟩)
    have sz0 : szF w l = none → ∀ c j, ¬ A0w w l c j := fun hz c j x => by
      unfold szF at hz
      split at hz
      · cases hz
      · split at hz
        · cases hz
        · unfold A0w at x; omega
    rw [hft]
    cases hf : fFF b m w l r T with
    | none =>
      have n1 := fF_none T hf
      have g14 : G 183 14 = 0 := MW_e g3 (fun c j x => by
        rcases cl c j x with y | ⟨k, y1, y2, y3⟩
        · exact sz0 n1.1 c j y
        · rw [hβ n1.1] at y3
          exact lin_cl (n1.2 k y1 y2) y3)
      refine .inl ⟨rfl, g14, ?_⟩
      have fr := g8 g14
      have e1 : ∀ t, tII b m t (T + 1) = tII b m t T := fun t => fold_T (fun a => by rw [hT.2.2, if_neg (by omega)])
      have e2 : ∀ t, pUU b m t (T + 1) = pUU b m t T := fun t => fold_T (fun a => by rw [hT.2.2, if_neg (by omega)])
      have e3 : ∀ t, pII b m t (T + 1) = pII b m t T := fun t => fold_T (fun a => by rw [hT.2.2, if_neg (by omega)])
      unfold FR2 at fr ⊢
      simp only [e1, e2, e3] at fr
      exact fr
    | some x =>
      obtain ⟨x, i⟩ := x
      refine .inr ⟨x, i, rfl, ?_⟩
      have hin := ff_in hT hf
      -- it is among them
      have mem : WW3 b m w l (btB b m w l (r % 2) (r / 2)) (T + 1) (T + 1) x i := by
        cases hz : szF w l with
        | none =>
          obtain ⟨k, y1, y2, y3⟩ := ff_reach hT hf hz
          exact lc k x i y1 y2 (by rw [hβ hz]; exact y3)
        | some u =>
          rcases fF_some T hf with z | ⟨z, -⟩
          · refine .inl ?_
            unfold szF at z
            unfold A0w
            split at z
            · next q => cases z; exact .inl ⟨q, rfl, rfl⟩
            · split at z
              · next q => cases z; exact .inr ⟨q, rfl, rfl⟩
              · cases z
          · rw [hz] at z; cases z
      have first : ∀ c j, WW3 b m w l (btB b m w l (r % 2) (r / 2)) (T + 1) (T + 1) c j → (i < j ∨ (i = j ∧ c = x)) := fun c j y => by
        rcases cl c j y with y | ⟨k, y1, y2, y3⟩
        · rcases fF_some T hf with z | ⟨z, -⟩
          · unfold szF at z
            unfold A0w at y
            split at z
            · cases z; omega
            · split at z
              · cases z; omega
              · cases z
          · exact absurd y (sz0 z c j)
        · exact ff_first hT hf hβ y1 y2 y3
      rcases g3 with ⟨w1, w2⟩ | ⟨c, j, w1, w2, w3, w4, w5, w6⟩
      · exact absurd mem (w2 _ _)
      · have m1 := w6 x i mem
        rcases first c j w1 with y | ⟨y1, y2⟩
        · exfalso
          have hj : j ≤ T := by
            rcases cl c j w1 with u | ⟨k, u1, u2, u3⟩
            · unfold A0w at u; omega
            · have hws := (ls_ws hT (lsB_4 u2) (by omega)).mp u2
              have la := line_at hT hws u1
              have jb1 := jn_b (b := b) (m := m) (k + 1)
              have jb2 := jn_b (b := b) (m := m) (k + 2)
              have jb3 := jn_b (b := b) (m := m) (k + 3)
              have le := la.2.2.2.1
              unfold clL at u3
              unfold lnE at le
              rcases u3 with ⟨a1, -, -, a4⟩ | ⟨a1, -, -, a4⟩ | ⟨a1, -, -, a4⟩ | ⟨a1, -, -, a4⟩
              · rw [if_neg (by omega), if_neg (by omega), if_neg (by omega), if_neg (by omega)] at le; omega
              · omega
              · rw [if_neg (by omega), if_pos a1] at le; omega
              · rw [if_neg (by omega), if_neg (by omega), if_pos a1] at le; omega
          have := tSt_mono (b := b) (m := m) y (fun k a1 a2 => by
            obtain ⟨v, -, v2, -⟩ := ws_pre T 4 hT.1 k (by omega)
            exact v2)
          omega
        · rw [y1, ← y2]
          exact ⟨w4, w5⟩
end MEANS
end
