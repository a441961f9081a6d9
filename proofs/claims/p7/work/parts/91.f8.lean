/-! the draft from its beginning to its last line -/
def rgN (b : Nat → Int32) (m : Nat) : Nat → Nat
  | 0 => 0
  | i + 1 => if tKd b m i = 9 then (if tKd b m (i + 1) = 6 then rgN b m i ||| 1 else rgN b m i ||| 2) else rgN b m i
theorem rgN_b (b : Nat → Int32) (m : Nat) : ∀ i, rgN b m i < 4
  | 0 => by show 0 < 4; omega
  | i + 1 => by
    have ih := rgN_b b m i
    have h : ∀ x, x < 4 → x ||| 1 < 4 ∧ x ||| 2 < 4 := by decide
    rw [rgN]
    split
    · split
      · exact (h _ ih).1
      · exact (h _ ih).2
    · exact ih
section BUILD
variable {σ : XS} {J0 J : Nat → Nat → Int32} {b : Nat → Int32} {m T w l r c : Nat}
theorem begin_ok (hS : Shp σ) : ∃ J', f_X1_begin (xw σ J) 2 = some (xw σ J') ∧ J' 2 2 = 0 ∧ J' 2 3 = -1 ∧ J' 2 4 = 0 ∧ J' 2 7 = 0 ∧ J' 2 8 = 0 ∧ J' 2 9 = 0 ∧ J' 2 10 = 0 ∧ J' 2 11 = 0 ∧ J' 2 12 = 0 ∧ (∀ t, t < 32 → J' 9 t = 0) ∧ (∀ i, i < 16 → J' 10 i = 0) ∧ J' 8 2 = 0 ∧ J' 8 3 = 0 ∧ J' 8 4 = 0 ∧ J' 8 5 = 0 ∧ ∀ a q, ¬ (a = 2 ∨ (8 ≤ a ∧ a ≤ 10)) → J' a q = J a q := by
  have K9 : σ.1 9 = (20, 32) := xw_K hS (by decide) (by decide) (by decide)
  have K10 : σ.1 10 = (20, 16) := xw_K hS (by decide) (by decide) (by decide)
  have f9 := fillI_ok (σ := σ) (I := J) (v := 0) K9 (by decide)
  obtain ⟨A, hA⟩ : ∃ A, A = xur J 9 (fun j => if j < 32 then 0 else J 9 j) := ⟨_, rfl⟩
  rw [← hA] at f9
  have f10 := fillI_ok (σ := σ) (I := A) (v := 0) K10 (by decide)
  obtain ⟨B, hB⟩ : ∃ B, B = xur A 10 (fun j => if j < 16 then 0 else A 10 j) := ⟨_, rfl⟩
  rw [← hB] at f10
  have cl : f_X6_clear (xw σ J) 8 = some (xw σ (xup (xup (xup (xup B 8 2 0) 8 3 0) 8 4 0) 8 5 0)) := by
    unfold f_X6_clear
    simp (disch := first | assumption | omega) only [Option.bind_some, Option.map_some, xw_gR, xw_gN, xw_al, xw_ck, xw_uI, xw_ur, xup_at, xur_at, if_true, if_false, reduceIte, and_true, true_and, and_false, false_and, not_true_eq_false, not_false_eq_true, Nat.reduceEqDiff, eq_self, Nat.reduceAdd, Nat.reduceMul, kC1, kG1, kP1, kR1_0, kR1_1, kR1_2, kR1_3, kR1_4, kR1_5, kR1_6, kR1_7, kR1_8, kR1_9, kR1_10, kR1_11, kR1_12, kR1_13, kC2, kG2, kP2, kR2_0, kR2_1, kC3, kG3, kP3, kR3_0, kR3_1, kR3_2, kR3_3, kL4, kA4, kS4, kL5, kA5, kS5, kL6, kA6, kS6, kL7, kA7, kS7, kC8, kG8, kP8, kR8_0, kR8_1, kL9, kA9, kS9, kL10, kA10, kS10, kC11, kG11, kP11, kR11_0, kR11_1, kR11_2, kR11_3, kL12, kA12, kS12, kL13, kA13, kS13, kL14, kA14, kS14, kL15, kA15, kS15, kC16, kG16, kP16, kR16_0, kR16_1, kL17, kA17, kS17, kL18, kA18, kS18, kC19, kG19, kP19, kR19_0, kL20, kL141, kL146, kA146, kS146, kL151, kA151, kS151, kL156, kA156, kS156, kC157, kG157, kP157, kR157_0, kR157_1, kL158, kA158, kS158, kL159, kA159, kS159, kC161, kG161, kP161, kR161_0, kR161_1, kL162, kA162, kS162, kL163, kA163, kS163, kC165, kG165, kP165, kR165_0, kR165_1, kR165_2, kR165_3, kL166, kA166, kS166, kL167, kA167, kS167, kL168, kA168, kS168, kL169, kA169, kS169, kC170, kG170, kP170, kR170_0, kR170_1, kR170_2, kL171, kA171, kS171, kL172, kA172, kS172, kL173, kA173, kS173, kC174, kG174, kP174, kR174_0, kR174_1, kR174_2, kR174_3, kR174_4, kL175, kA175, kS175, kL176, kA176, kS176, kL177, kA177, kS177, kL178, kA178, kS178, kL179, kC180, kG180, kP180, kL181, kL182, kA182, kS182, kC183, kG183, kP183, kR183_1, kR183_3, kR183_5, kR183_6, kR183_7, kR183_8, kR183_9, kR183_21, kR183_26, kR183_27, kR183_30, kR183_31, kR183_33, kR183_34, kR183_36, kR183_37, kR183_38, kR183_39, kR183_40, kR183_41, kR183_42, kR183_43, kR183_44, kL184, kA184, kS184, kL185, kA185, kS185, kL186, kA186, kS186, kL187, kA187, kS187, kL188, kA188, kS188, kL189, kL190, kL191, kA191, kS191, kL192, kA192, kS192, kL193, kA193, kS193, kL194, kA194, kS194, kL195, kA195, kS195, kL196, kA196, kS196, kL197, kA197, kS197, kL198, kA198, kS198, kL199, kA199, kS199, kL200, kA200, kS200, kL201, kL202, kA202, kS202, kL203, kA203, kS203, kL204, kA204, kS204, kL205, kL206, kA206, kS206, f9, f10]
  obtain ⟨C, hC⟩ : ∃ C, C = xup (xup (xup (xup B 8 2 0) 8 3 0) 8 4 0) 8 5 0 := ⟨_, rfl⟩
  rw [← hC] at cl
  have uB : ∀ a q, a ≠ 9 → a ≠ 10 → B a q = J a q := fun a q h1 h2 => by rw [hB, xur_at, if_neg h2, hA, xur_at, if_neg h1]
  have uC : ∀ a q, a ≠ 8 → C a q = B a q := fun a q h => by rw [hC, xup_at, if_neg (by omega), xup_at, if_neg (by omega), xup_at, if_neg (by omega), xup_at, if_neg (by omega)]
  refine ⟨xup (xup (xup (xup (xup (xup (xup (xup (xup C 2 2 0) 2 3 (-1)) 2 4 0) 2 7 0) 2 8 0) 2 9 0) 2 10 0) 2 11 0) 2 12 0, ?_, ?_, ?_, ?_, ?_, ?_, ?_, ?_, ?_, ?_, fun t ht => ?_, fun i hi => ?_, ?_, ?_, ?_, ?_, fun a q h => ?_⟩
  · unfold f_X1_begin
    simp (disch := first | assumption | omega) only [Option.bind_some, Option.map_some, xw_gR, xw_gN, xw_al, xw_ck, xw_uI, xw_ur, xup_at, xur_at, if_true, if_false, reduceIte, and_true, true_and, and_false, false_and, not_true_eq_false, not_false_eq_true, Nat.reduceEqDiff, eq_self, Nat.reduceAdd, Nat.reduceMul, kC1, kG1, kP1, kR1_0, kR1_1, kR1_2, kR1_3, kR1_4, kR1_5, kR1_6, kR1_7, kR1_8, kR1_9, kR1_10, kR1_11, kR1_12, kR1_13, kC2, kG2, kP2, kR2_0, kR2_1, kC3, kG3, kP3, kR3_0, kR3_1, kR3_2, kR3_3, kL4, kA4, kS4, kL5, kA5, kS5, kL6, kA6, kS6, kL7, kA7, kS7, kC8, kG8, kP8, kR8_0, kR8_1, kL9, kA9, kS9, kL10, kA10, kS10, kC11, kG11, kP11, kR11_0, kR11_1, kR11_2, kR11_3, kL12, kA12, kS12, kL13, kA13, kS13, kL14, kA14, kS14, kL15, kA15, kS15, kC16, kG16, kP16, kR16_0, kR16_1, kL17, kA17, kS17, kL18, kA18, kS18, kC19, kG19, kP19, kR19_0, kL20, kL141, kL146, kA146, kS146, kL151, kA151, kS151, kL156, kA156, kS156, kC157, kG157, kP157, kR157_0, kR157_1, kL158, kA158, kS158, kL159, kA159, kS159, kC161, kG161, kP161, kR161_0, kR161_1, kL162, kA162, kS162, kL163, kA163, kS163, kC165, kG165, kP165, kR165_0, kR165_1, kR165_2, kR165_3, kL166, kA166, kS166, kL167, kA167, kS167, kL168, kA168, kS168, kL169, kA169, kS169, kC170, kG170, kP170, kR170_0, kR170_1, kR170_2, kL171, kA171, kS171, kL172, kA172, kS172, kL173, kA173, kS173, kC174, kG174, kP174, kR174_0, kR174_1, kR174_2, kR174_3, kR174_4, kL175, kA175, kS175, kL176, kA176, kS176, kL177, kA177, kS177, kL178, kA178, kS178, kL179, kC180, kG180, kP180, kL181, kL182, kA182, kS182, kC183, kG183, kP183, kR183_1, kR183_3, kR183_5, kR183_6, kR183_7, kR183_8, kR183_9, kR183_21, kR183_26, kR183_27, kR183_30, kR183_31, kR183_33, kR183_34, kR183_36, kR183_37, kR183_38, kR183_39, kR183_40, kR183_41, kR183_42, kR183_43, kR183_44, kL184, kA184, kS184, kL185, kA185, kS185, kL186, kA186, kS186, kL187, kA187, kS187, kL188, kA188, kS188, kL189, kL190, kL191, kA191, kS191, kL192, kA192, kS192, kL193, kA193, kS193, kL194, kA194, kS194, kL195, kA195, kS195, kL196, kA196, kS196, kL197, kA197, kS197, kL198, kA198, kS198, kL199, kA199, kS199, kL200, kA200, kS200, kL201, kL202, kA202, kS202, kL203, kA203, kS203, kL204, kA204, kS204, kL205, kL206, kA206, kS206, cl]
  · simp [xup_at]
  · simp [xup_at]
  · simp [xup_at]
  · simp [xup_at]
  · simp [xup_at]
  · simp [xup_at]
  · simp [xup_at]
  · simp [xup_at]
  · simp [xup_at]
  · have : C 9 t = 0 := by rw [uC _ _ (by omega), hB, xur_at, if_neg (by omega), hA, xur_at, if_pos rfl, if_pos ht]
    simp [xup_at, this]
  · have : C 10 i = 0 := by rw [uC _ _ (by omega), hB, xur_at, if_pos rfl, if_pos hi]
    simp [xup_at, this]
  · have : C 8 2 = 0 := by rw [hC]; simp [xup_at]
    simp [xup_at, this]
  · have : C 8 3 = 0 := by rw [hC]; simp [xup_at]
    simp [xup_at, this]
  · have : C 8 4 = 0 := by rw [hC]; simp [xup_at]
    simp [xup_at, this]
  · have : C 8 5 = 0 := by rw [hC]; simp [xup_at]
    simp [xup_at, this]
  · rw [xup_at, if_neg (by omega), xup_at, if_neg (by omega), xup_at, if_neg (by omega), xup_at, if_neg (by omega), xup_at, if_neg (by omega), xup_at, if_neg (by omega), xup_at, if_neg (by omega), xup_at, if_neg (by omega), xup_at, if_neg (by omega), uC a q (by omega), uB a q (by omega) (by omega)]
theorem takeSize_ok (hS : Shp σ) (hC : CT J b m T) (h4 : J 2 4 = 0) (h2 : J 2 2 = 0) : ∃ J', f_X1_takeSize (xw σ J) 2 = some (xw σ J') ∧ J' 2 4 = nI 4 ∧ J' 2 5 = nI (tNu b m 1) ∧ J' 2 6 = nI (tNu b m 2) ∧ (szF (tNu b m 1) (tNu b m 2) = none → J' 2 2 = J 2 2 ∧ J' 2 3 = J 2 3) ∧ (∀ x j, szF (tNu b m 1) (tNu b m 2) = some (x, j) → J' 2 2 = nI x ∧ J' 2 3 = nI (tSt b m j)) ∧ ∀ a q, ¬ (a = 2 ∧ 2 ≤ q ∧ q ≤ 6) → J' a q = J a q := by
  have hT := hC.1
  obtain ⟨T4, k0, k1, k2, k3, -⟩ := head_at hT
  have T400 := hT.2.1
  have V1 := tNu_b k1
  have V2 := tNu_b k2
  obtain ⟨w, hw⟩ : ∃ w, w = tNu b m 1 := ⟨_, rfl⟩
  obtain ⟨l, hl⟩ : ∃ l, l = tNu b m 2 := ⟨_, rfl⟩
  rw [← hw, ← hl]
  have hwl : w * l < 2147483648 := by
    have : w * l ≤ 10000 * 10000 := Nat.mul_le_mul (by omega) (by omega)
    omega
  have cc : ∀ {J1 : Nat → Nat → Int32}, (∀ a q, a ≠ 2 → J1 a q = J a q) → CT J1 b m T := fun h => CT_c (fun a q h1 _ _ _ => h a q h1) hC
  have t0 := tkKind (σ := σ) (c := 0) hS hC (by omega) h4
  obtain ⟨A, hA⟩ : ∃ A, A = xup J 2 4 (nI (0 + 1)) := ⟨_, rfl⟩
  rw [← hA] at t0
  have uA : ∀ a q, ¬ (a = 2 ∧ q = 4) → A a q = J a q := fun a q h => by rw [hA, xup_at, if_neg h]
  have t1 := tkInt (σ := σ) (J := A) (c := 1) hS (cc (fun a q h => uA a q (by omega))) (by omega) k1 (by rw [hA, xup_at, if_pos ⟨rfl, rfl⟩])
  rw [← hw] at t1
  obtain ⟨B, hB⟩ : ∃ B, B = xup (xup A 2 4 (nI (1 + 1))) 2 5 (nI w) := ⟨_, rfl⟩
  have uB : ∀ a q, ¬ (a = 2 ∧ (q = 4 ∨ q = 5)) → B a q = J a q := fun a q h => by rw [hB, xup_at, if_neg (by omega), xup_at, if_neg (by omega), uA a q (by omega)]
  have B5 : B 2 5 = nI w := by rw [hB, xup_at, if_pos ⟨rfl, rfl⟩]
  have B4 : B 2 4 = nI 2 := by rw [hB, xup_at, if_neg (by omega), xup_at, if_pos ⟨rfl, rfl⟩]
  -- the first blame
  obtain ⟨C, hCC⟩ : ∃ C, C = blI B (decide (w < 1 ∨ 4 < w)) 3 (nI (tSt b m 1)) := ⟨_, rfl⟩
  have uC : ∀ a q, ¬ (a = 2 ∧ (q = 2 ∨ q = 3)) → C a q = B a q := fun a q h => by rw [hCC, blI_out h]
  have pl1 := plAt_ok (σ := σ) (J := B) (i := 1) hS (cc (fun a q h => uB a q (by omega))) (by omega)
  have t2 := tkInt (σ := σ) (J := C) (c := 2) hS (cc (fun a q h => by rw [uC a q (by omega)]; exact uB a q (by omega))) (by omega) k2 (by rw [uC _ _ (by omega)]; exact B4)
  rw [← hl] at t2
  obtain ⟨D, hD⟩ : ∃ D, D = xup (xup C 2 4 (nI (2 + 1))) 2 6 (nI l) := ⟨_, rfl⟩
  have uD : ∀ a q, ¬ (a = 2 ∧ (q = 4 ∨ q = 6)) → D a q = C a q := fun a q h => by rw [hD, xup_at, if_neg (by omega), xup_at, if_neg (by omega)]
  have D6 : D 2 6 = nI l := by rw [hD, xup_at, if_pos ⟨rfl, rfl⟩]
  have D5 : D 2 5 = nI w := by rw [uD _ _ (by omega), uC _ _ (by omega)]; exact B5
  have D4 : D 2 4 = nI 3 := by rw [hD, xup_at, if_neg (by omega), xup_at, if_pos ⟨rfl, rfl⟩]
  obtain ⟨E, hE⟩ : ∃ E, E = blI D (decide (l < 1 ∨ 16 < l ∨ 16 < w * l)) 3 (nI (tSt b m 2)) := ⟨_, rfl⟩
  have uE : ∀ a q, ¬ (a = 2 ∧ (q = 2 ∨ q = 3)) → E a q = D a q := fun a q h => by rw [hE, blI_out h]
  have hCD : CT D b m T := cc (fun a q h => by rw [uD a q (by omega), uC a q (by omega)]; exact uB a q (by omega))
  have pl2 := plAt_ok (σ := σ) (J := D) (i := 2) hS hCD (by omega)
  have hCE : CT E b m T := CT_c (fun a q h1 _ _ _ => uE a q (by omega)) hCD
  have t3 := tkKind (σ := σ) (J := E) (c := 3) hS hCE (by omega) (by rw [uE _ _ (by omega)]; exact D4)
  have B2 : B 2 2 = 0 := by rw [uB _ _ (by omega)]; exact h2
  refine ⟨xup E 2 4 (nI (3 + 1)), ?_, by rw [xup_at, if_pos ⟨rfl, rfl⟩], by rw [xup_at, if_neg (by omega), uE _ _ (by omega)]; exact D5, by rw [xup_at, if_neg (by omega), uE _ _ (by omega)]; exact D6, fun hz => ?_, fun x j hz => ?_, fun a q h => ?_⟩
  · -- from the end
    have j104 : f_X1_takeSize_j104 (xw σ E) 2 = some (xw σ (xup E 2 4 (nI (3 + 1)))) := by
      unfold f_X1_takeSize_j104
      rw [xw_ck, kC2 hS, Option.bind_some, t3, Option.bind_some]
    have e2 : nI 3 - (1 : Int32) = nI 2 := by decide
    have e1 : nI 2 - (1 : Int32) = nI 1 := by decide
    have j47 : f_X1_takeSize_j47 (xw σ C) 2 = some (xw σ (xup E 2 4 (nI (3 + 1)))) := by
      have j86 : (l < 1 ∨ 16 < l ∨ 16 < w * l) → f_X1_takeSize_j86 (xw σ D) 2 = some (xw σ (xup E 2 4 (nI (3 + 1)))) := by
        intro hb
        unfold f_X1_takeSize_j86
        rw [xw_gR, kR2_0 hS, Option.bind_some, kG2 hS, Option.bind_some, D4, e2, xw_ck, kC3 hS, Option.bind_some, pl2, Option.bind_some, xw_ck, kC2 hS, Option.bind_some, blame_b hS, Option.bind_some]
        rw [decide_eq_true hb] at hE
        rw [← hE]
        exact j104
      have q1 : (nI l < (1 : Int32)) = (l < 1) := nn_lt (b := 1) (by omega) (by decide)
      have q2 : ((16 : Int32) < nI l) = (16 < l) := nn_lt (a := 16) (by decide) (by omega)
      have q3 : (nI w * nI l ≤ (16 : Int32)) = (w * l ≤ 16) := by rw [nn_mul]; exact nn_le (b := 16) (by omega) (by decide)
      unfold f_X1_takeSize_j47
      rw [xw_ck, kC2 hS, Option.bind_some, t2, Option.bind_some]
      dsimp only
      rw [kP2 hS, Option.bind_some, ← hD]
      simp only [kG2 hS, Option.bind_some, D6, D5, q1, q2, q3]
      by_cases a1 : l < 1
      · rw [if_pos a1]; exact j86 (.inl a1)
      · rw [if_neg a1]
        by_cases a2 : 16 < l
        · rw [if_pos a2]; exact j86 (.inr (.inl a2))
        · rw [if_neg a2]
          by_cases a3 : w * l ≤ 16
          · rw [if_pos a3]
            have hb : ¬ (l < 1 ∨ 16 < l ∨ 16 < w * l) := by omega
            rw [decide_eq_false hb, blI_f] at hE
            rw [hE] at j104
            rw [hE]
            exact j104
          · rw [if_neg a3]; exact j86 (.inr (.inr (by omega)))
    have j29 : (w < 1 ∨ 4 < w) → f_X1_takeSize_j29 (xw σ B) 2 = some (xw σ (xup E 2 4 (nI (3 + 1)))) := by
      intro hb
      unfold f_X1_takeSize_j29
      rw [xw_gR, kR2_0 hS, Option.bind_some, kG2 hS, Option.bind_some, B4, e1, xw_ck, kC3 hS, Option.bind_some, pl1, Option.bind_some, xw_ck, kC2 hS, Option.bind_some, blame_b hS, Option.bind_some]
      rw [decide_eq_true hb] at hCC
      rw [← hCC]
      exact j47
    have q1 : (nI w < (1 : Int32)) = (w < 1) := nn_lt (b := 1) (by omega) (by decide)
    have q2 : (nI w ≤ (4 : Int32)) = (w ≤ 4) := nn_le (b := 4) (by omega) (by decide)
    unfold f_X1_takeSize
    rw [xw_ck, kC2 hS, Option.bind_some, t0, Option.bind_some]
    dsimp only
    rw [xw_ck, kC2 hS, Option.bind_some, t1, Option.bind_some]
    dsimp only
    rw [kP2 hS, Option.bind_some, ← hB]
    simp only [kG2 hS, Option.bind_some, B5, q1, q2]
    by_cases a1 : w < 1
    · rw [if_pos a1]; exact j29 (.inl a1)
    · rw [if_neg a1]
      by_cases a2 : w ≤ 4
      · rw [if_pos a2]
        have hb : ¬ (w < 1 ∨ 4 < w) := by omega
        rw [decide_eq_false hb, blI_f] at hCC
        rw [← hCC]
        exact j47
      · rw [if_neg a2]; exact j29 (.inr (by omega))
  · unfold szF at hz
    split at hz
    · cases hz
    · next n1 =>
      split at hz
      · cases hz
      · next n2 =>
        rw [decide_eq_false n1, blI_f] at hCC
        rw [decide_eq_false n2, blI_f] at hE
        rw [xup_at, if_neg (by omega), xup_at, if_neg (by omega), hE, uD _ _ (by omega), uD _ _ (by omega), hCC]
        exact ⟨uB _ _ (by omega), uB _ _ (by omega)⟩
  · rw [xup_at, if_neg (by omega), xup_at, if_neg (by omega)]
    unfold szF at hz
    split at hz
    · next n1 =>
      cases hz
      rw [decide_eq_true n1, blI_t B2] at hCC
      have C2 : C 2 2 = nI 3 := by rw [hCC, xup_at, if_neg (by omega), xup_at, if_pos ⟨rfl, rfl⟩]; rfl
      have D2 : D 2 2 ≠ 0 := by rw [uD _ _ (by omega), C2]; decide
      rw [blI_n D2] at hE
      rw [hE, uD _ _ (by omega), uD _ _ (by omega), C2]
      refine ⟨rfl, ?_⟩
      rw [hCC, xup_at, if_pos ⟨rfl, rfl⟩]
    · next n1 =>
      split at hz
      · next n2 =>
        cases hz
        rw [decide_eq_false n1, blI_f] at hCC
        have D2 : D 2 2 = 0 := by rw [uD _ _ (by omega), hCC]; exact B2
        rw [decide_eq_true n2, blI_t D2] at hE
        rw [hE, xup_at, if_neg (by omega), xup_at, if_pos ⟨rfl, rfl⟩, xup_at, if_pos ⟨rfl, rfl⟩]
        exact ⟨rfl, rfl⟩
      · cases hz
  · rw [xup_at, if_neg (by omega), uE a q (by omega), uD a q (by omega), uC a q (by omega), uB a q (by omega)]
theorem rings_ok (hS : Shp σ) (hC : CT J b m T) (h4 : J 2 4 = nI 4) (h7 : J 2 7 = 0) : ∃ J', f_X1_seeRings (xw σ J) 2 = some (xw σ J') ∧ J' 2 7 = nI (rgN b m T) ∧ ∀ a q, ¬ (a = 2 ∧ q = 7) → J' a q = J a q := by
  have hT := hC.1
  obtain ⟨T4, k0, k1, k2, k3, -⟩ := head_at hT
  have T400 := hT.2.1
  have r4 : rgN b m 4 = 0 := by
    have e : ∀ i, i < 4 → tKd b m i ≠ 9 := fun i hi => by
      rcases (show i = 0 ∨ i = 1 ∨ i = 2 ∨ i = 3 by omega) with z | z | z | z <;> rw [z] <;> omega
    have : ∀ i, i ≤ 4 → rgN b m i = 0 := fun i => by
      induction i with
      | zero => intro _; rfl
      | succ i ih => intro h; rw [rgN, if_neg (e i (by omega))]; exact ih (by omega)
    exact this 4 (Nat.le_refl _)
  have e0 : xup J 2 7 (nI (rgN b m (4 + 0))) = J := by
    funext a q
    rw [xup_at]
    by_cases z : a = 2 ∧ q = 7
    · rw [if_pos z, z.1, z.2, h7]
      show nI (rgN b m 4) = 0
      rw [r4]; rfl
    · rw [if_neg z]
  refine ⟨xup J 2 7 (nI (rgN b m T)), ?_, by rw [xup_at, if_pos ⟨rfl, rfl⟩], fun a q h => by rw [xup_at, if_neg h]⟩
  unfold f_X1_seeRings
  rw [kG2 hS, Option.bind_some, h4]
  have hCi : ∀ v, CT (xup J 2 7 v) b m T := fun v => CT_c (fun a q h1 _ _ _ => by rw [xup_at, if_neg (by omega)]) hC
  refine xforE (fun i : Nat => (nI (4 + i), xw σ (xup J 2 7 (nI (rgN b m (4 + i)))))) (T - 4) (by simp only [e0]) (fun i hi => ?_) ?_
  · have v5 : xup J 2 7 (nI (rgN b m (4 + i))) 3 5 = nI T := by rw [xup_at, if_neg (by omega)]; exact hC.2.1
    have q1 : (nI T ≤ nI (4 + i)) = False := by rw [nn_le (by omega) (by omega)]; exact eq_false (by omega)
    have ka := kindAt_ok (σ := σ) hS (hCi (nI (rgN b m (4 + i)))) (show 4 + i ≤ T by omega)
    have kb := kindAt_ok (σ := σ) hS (hCi (nI (rgN b m (4 + i)))) (show 4 + i + 1 ≤ T by omega)
    have kk := tKd_b (b := b) (m := m) (4 + i)
    have kk2 := tKd_b (b := b) (m := m) (4 + i + 1)
    have q9 : (nI (tKd b m (4 + i)) = (9 : Int32)) = (tKd b m (4 + i) = 9) := nn_eq (b := 9) (by omega) (by decide)
    have q6 : (nI (tKd b m (4 + i + 1)) = (6 : Int32)) = (tKd b m (4 + i + 1) = 6) := nn_eq (b := 6) (by omega) (by decide)
    have u7 : xup J 2 7 (nI (rgN b m (4 + i))) 2 7 = nI (rgN b m (4 + i)) := by rw [xup_at, if_pos ⟨rfl, rfl⟩]
    have er : rgN b m (4 + (i + 1)) = if tKd b m (4 + i) = 9 then (if tKd b m (4 + i + 1) = 6 then rgN b m (4 + i) ||| 1 else rgN b m (4 + i) ||| 2) else rgN b m (4 + i) := rfl
    have o1 : nI (rgN b m (4 + i)) ||| (1 : Int32) = nI (rgN b m (4 + i) ||| 1) := fa_or _ 1
    have o2 : nI (rgN b m (4 + i)) ||| (2 : Int32) = nI (rgN b m (4 + i) ||| 2) := fa_or _ 2
    have es : nI (4 + i) + (1 : Int32) = nI (4 + i + 1) := (nI_succ (4 + i)).symm
    simp only [f_X1_seeRings_b5]
    simp only [xw_gR, kR2_0 hS, kG3 hS, v5, q1, if_false, Option.bind_some, xw_ck, kC3 hS, ka, kG2 hS, u7, es, kb, o1, o2, kP2 hS, xup2, er, q9, q6]
    by_cases z1 : tKd b m (4 + i) = 9
    · rw [if_pos z1, if_pos z1]
      by_cases z2 : tKd b m (4 + i + 1) = 6
      · rw [if_pos z2, if_pos z2]; rfl
      · rw [if_neg z2, if_neg z2]; rfl
    · rw [if_neg z1, if_neg z1]; rfl
  · have e : 4 + (T - 4) = T := by omega
    have v5 : xup J 2 7 (nI (rgN b m T)) 3 5 = nI T := by rw [xup_at, if_neg (by omega)]; exact hC.2.1
    have q1 : (nI T ≤ nI T) = True := by rw [nn_le (by omega) (by omega)]; exact eq_true (Nat.le_refl _)
    simp only [f_X1_seeRings_b5, e]
    simp (disch := first | assumption | omega) only [Option.bind_some, Option.map_some, xw_gR, xw_gN, xw_al, xw_ck, xw_uI, xw_ur, xup_at, xur_at, if_true, if_false, reduceIte, and_true, true_and, and_false, false_and, not_true_eq_false, not_false_eq_true, Nat.reduceEqDiff, eq_self, Nat.reduceAdd, Nat.reduceMul, kC1, kG1, kP1, kR1_0, kR1_1, kR1_2, kR1_3, kR1_4, kR1_5, kR1_6, kR1_7, kR1_8, kR1_9, kR1_10, kR1_11, kR1_12, kR1_13, kC2, kG2, kP2, kR2_0, kR2_1, kC3, kG3, kP3, kR3_0, kR3_1, kR3_2, kR3_3, kL4, kA4, kS4, kL5, kA5, kS5, kL6, kA6, kS6, kL7, kA7, kS7, kC8, kG8, kP8, kR8_0, kR8_1, kL9, kA9, kS9, kL10, kA10, kS10, kC11, kG11, kP11, kR11_0, kR11_1, kR11_2, kR11_3, kL12, kA12, kS12, kL13, kA13, kS13, kL14, kA14, kS14, kL15, kA15, kS15, kC16, kG16, kP16, kR16_0, kR16_1, kL17, kA17, kS17, kL18, kA18, kS18, kC19, kG19, kP19, kR19_0, kL20, kL141, kL146, kA146, kS146, kL151, kA151, kS151, kL156, kA156, kS156, kC157, kG157, kP157, kR157_0, kR157_1, kL158, kA158, kS158, kL159, kA159, kS159, kC161, kG161, kP161, kR161_0, kR161_1, kL162, kA162, kS162, kL163, kA163, kS163, kC165, kG165, kP165, kR165_0, kR165_1, kR165_2, kR165_3, kL166, kA166, kS166, kL167, kA167, kS167, kL168, kA168, kS168, kL169, kA169, kS169, kC170, kG170, kP170, kR170_0, kR170_1, kR170_2, kL171, kA171, kS171, kL172, kA172, kS172, kL173, kA173, kS173, kC174, kG174, kP174, kR174_0, kR174_1, kR174_2, kR174_3, kR174_4, kL175, kA175, kS175, kL176, kA176, kS176, kL177, kA177, kS177, kL178, kA178, kS178, kL179, kC180, kG180, kP180, kL181, kL182, kA182, kS182, kC183, kG183, kP183, kR183_1, kR183_3, kR183_5, kR183_6, kR183_7, kR183_8, kR183_9, kR183_21, kR183_26, kR183_27, kR183_30, kR183_31, kR183_33, kR183_34, kR183_36, kR183_37, kR183_38, kR183_39, kR183_40, kR183_41, kR183_42, kR183_43, kR183_44, kL184, kA184, kS184, kL185, kA185, kS185, kL186, kA186, kS186, kL187, kA187, kS187, kL188, kA188, kS188, kL189, kL190, kL191, kA191, kS191, kL192, kA192, kS192, kL193, kA193, kS193, kL194, kA194, kS194, kL195, kA195, kS195, kL196, kA196, kS196, kL197, kA197, kS197, kL198, kA198, kS198, kL199, kA199, kS199, kL200, kA200, kS200, kL201, kL202, kA202, kS202, kL203, kA203, kS203, kL204, kA204, kS204, kL205, kL206, kA206, kS206, v5, q1]
theorem fF_stay {x : Nat × Nat} {k : Nat} (h : fFF b m w l r k = some x) : ∀ e, k ≤ e → fFF b m w l r e = some x
  | 0, he => by rw [show k = 0 by omega] at h; exact h
  | e + 1, he => by
    by_cases z : k = e + 1
    · rw [← z]; exact h
    · have ih := fF_stay h e (by omega)
      unfold fFF at ih ⊢
      rw [foldL]
      by_cases hl : lsB b m e = true
      · rw [if_pos hl, ih]
      · rw [if_neg hl]; exact ih
theorem build_l (hS : Shp σ) (hC : CT J0 b m T) (hg : ((w, l, r) : GD) ∈ gAll) : ∀ k c n J, T - c ≤ k → n ≤ c → 4 ≤ c → c ≤ T → ws b m c = some 4 → DR J0 J b m w l r c → fFF b m w l r c = none → ∃ J1, (fFF b m w l r T = none → DR J0 J1 b m w l r T) ∧ (∀ x j, fFF b m w l r T = some (x, j) → DF J0 J1 b m x j) ∧ ∀ z, f_X1_build_j77 (xw σ J1) 2 = some z → xloop (f_X1_build_b39 2) (nI n, xw σ J) = some z := by
  have hT := hC.1
  have T400 := hT.2.1
  have last : ∀ c n J, n ≤ c → c = T → DR J0 J b m w l r c → ∀ z, f_X1_build_j77 (xw σ J) 2 = some z → xloop (f_X1_build_b39 2) (nI n, xw σ J) = some z := by
    intro c n J hn hc hD z hz
    refine xloop_end ?_
    have v5 : J 3 5 = nI T := by rw [hD.1 3 5 (by omega)]; exact hC.2.1
    have q1 : (nI T ≤ nI c) = True := by rw [nn_le (by omega) (by omega)]; exact eq_true (by omega)
    simp only [f_X1_build_b39]
    by_cases h400 : (400 : Int32) ≤ nI n
    · rw [if_pos h400, hz]; rfl
    · rw [if_neg h400, kG2 hS, Option.bind_some, if_pos hD.2.1, kG2 hS, Option.bind_some, hD.2.2.2.1, xw_gR, kR2_0 hS, Option.bind_some, kG3 hS, Option.bind_some, v5, if_pos (by rw [q1]; trivial), hz]
      rfl
  intro k
  induction k with
  | zero =>
    intro c n J hk hn h4 hc hws hD hF
    have e : c = T := by omega
    refine ⟨J, fun _ => by rw [← e]; exact hD, (fun x j hx1 => by rw [← e, hF] at hx1; cases hx1), last c n J hn e hD⟩
  | succ k ih =>
    intro c n J hk hn h4 hc hws hD hF
    by_cases e : c = T
    · exact ⟨J, fun _ => by rw [← e]; exact hD, (fun x j hx1 => by rw [← e, hF] at hx1; cases hx1), last c n J hn e hD⟩
    · have hcT : c < T := by omega
      obtain ⟨J2, e2, a1, a2⟩ := tell_ok (σ := σ) hS hC hg h4 hws hcT hD
      obtain ⟨-, l1, l2, l3, l4⟩ := line_at hT hws hcT
      have v5 : J 3 5 = nI T := by rw [hD.1 3 5 (by omega)]; exact hC.2.1
      have q0 : ((400 : Int32) ≤ nI n) = False := by rw [show (400 : Int32) = nI 400 from rfl, nn_le (by omega) (by omega)]; exact eq_false (by omega)
      have q1 : (nI T ≤ nI c) = False := by rw [nn_le (by omega) (by omega)]; exact eq_false (by omega)
      have stp : f_X1_build_b39 2 (nI n, xw σ J) = some (.inl (nI (n + 1), xw σ J2)) := by
        simp only [f_X1_build_b39]
        rw [if_neg (by rw [q0]; exact id), kG2 hS, Option.bind_some, if_pos hD.2.1, kG2 hS, Option.bind_some, hD.2.2.2.1, xw_gR, kR2_0 hS, Option.bind_some, kG3 hS, Option.bind_some, v5, if_neg (by rw [q1]; exact id), xw_ck, kC2 hS, Option.bind_some, e2, Option.bind_some, nI_succ]
      have eF : fFF b m w l r (lnE b m c + 1) = linF b m w l r c := by
        unfold fFF at hF ⊢
        rw [foldL_line _ _ hT h4 hws hcT, hF]
      cases hl : linF b m w l r c with
      | none =>
        obtain ⟨J1, b1, b2, b3⟩ := ih (lnE b m c + 1) (n + 1) J2 (by omega) (by omega) (by omega) l3 l2 (a1 hl) (by rw [eF]; exact hl)
        exact ⟨J1, b1, b2, fun z hz => by rw [xloop_step stp]; exact b3 z hz⟩
      | some x =>
        have hFT : fFF b m w l r T = some x := fF_stay (by rw [eF]; exact hl) T (by omega)
        refine ⟨J2, fun z => (by rw [hFT] at z; cases z), fun x' j' z => ?_, fun z hz => ?_⟩
        · rw [hFT] at z; cases z
          exact a2 x' j' hl
        · rw [xloop_step stp]
          refine xloop_end ?_
          have hd := a2 x.1 x.2 hl
          have xs := ff_in hT hFT
          have nz : J2 2 2 ≠ 0 := by rw [hd.2.1]; exact nI_ne0 (by omega) (by omega)
          simp only [f_X1_build_b39]
          by_cases h400 : (400 : Int32) ≤ nI (n + 1)
          · rw [if_pos h400, hz]; rfl
          · rw [if_neg h400, kG2 hS, Option.bind_some, if_neg nz, hz]
            rfl
end BUILD
