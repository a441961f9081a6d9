section
/-! stiff -/
def mnE (E : Nat → Int) (p : Nat → Bool) : Nat → Option Int
  | 0 => none
  | s + 1 => if p s then (match mnE E p s with
    | none => some (E s)
    | some m => some (min m (E s))) else mnE E p s
theorem mnE_b {E : Nat → Int} (p : Nat → Bool) (h : ∀ s, -144 ≤ E s ∧ E s ≤ 144) : ∀ s m, mnE E p s = some m → -144 ≤ m ∧ m ≤ 144
  | 0, m => fun h => nomatch h
  | s + 1, m => fun hm => by
    have ih := mnE_b p h s
    have hs := h s
    rw [mnE] at hm
    split at hm
    · split at hm
      · cases hm; exact hs
      · next m' hm' =>
        have := ih m' hm'
        cases hm
        omega
    · exact ih m hm
def enO (c : Int) (o : Option Int) : Int32 := match o with
  | none => iI c
  | some m => iI m
theorem xmin_i {a b : Int} (h1 : -2147483648 ≤ a) (h2 : a < 2147483648) (h3 : -2147483648 ≤ b) (h4 : b < 2147483648) : xmin (iI a) (iI b) = iI (min a b) := by
  unfold xmin
  simp only [iI_lt h3 h4 h1 h2]
  split
  · congr 1; omega
  · congr 1; omega
theorem isLawful11_ok {σ : XS} {I : Nat → Nat → Int32} {g : GD} {F : Nat → Int32} (hS : Shp σ) (hG : GRD I g) (h : SR g I 16 F) (x : Int32) : f_X11_isLawful (xw σ I) 1 x = some (if isB g F x then 1 else 0) := by
  have hSt := (gSt_b hG.1).1
  unfold f_X11_isLawful
  by_cases h0 : x < 0
  · rw [if_pos h0]
    have : isB g F x = false := by
      unfold isB
      have : x.toInt < 0 := (fa_lt _ _).mp h0
      simp; omega
    rw [this]; rfl
  · obtain ⟨s, hs, rfl⟩ := nn_of h0
    rw [if_neg h0]
    simp (disch := first | assumption | omega) only [Option.bind_some, Option.map_some, xw_gR, xw_gN, xw_al, xw_ck, xw_uI, xw_ur, xup_at, xur_at, if_true, if_false, reduceIte, and_true, true_and, and_false, false_and, not_true_eq_false, not_false_eq_true, Nat.reduceEqDiff, eq_self, Nat.reduceAdd, Nat.reduceMul, kC1, kG1, kP1, kR1_0, kR1_1, kR1_2, kR1_3, kR1_4, kR1_5, kR1_6, kR1_7, kR1_8, kR1_9, kR1_10, kR1_11, kR1_12, kR1_13, kC2, kG2, kP2, kR2_0, kR2_1, kC3, kG3, kP3, kR3_0, kR3_1, kR3_2, kR3_3, kL4, kA4, kS4, kL5, kA5, kS5, kL6, kA6, kS6, kL7, kA7, kS7, kC8, kG8, kP8, kR8_0, kR8_1, kL9, kA9, kS9, kL10, kA10, kS10, kC11, kG11, kP11, kR11_0, kR11_1, kR11_2, kR11_3, kL12, kA12, kS12, kL13, kA13, kS13, kL14, kA14, kS14, kL15, kA15, kS15, kC16, kG16, kP16, kR16_0, kR16_1, kL17, kA17, kS17, kL18, kA18, kS18, kC19, kG19, kP19, kR19_0, kL20, kL141, kL146, kA146, kS146, kL151, kA151, kS151, kL156, kA156, kS156, kC157, kG157, kP157, kR157_0, kR157_1, kL158, kA158, kS158, kL159, kA159, kS159, kC161, kG161, kP161, kR161_0, kR161_1, kL162, kA162, kS162, kL163, kA163, kS163, kC165, kG165, kP165, kR165_0, kR165_1, kR165_2, kR165_3, kL166, kA166, kS166, kL167, kA167, kS167, kL168, kA168, kS168, kL169, kA169, kS169, kC170, kG170, kP170, kR170_0, kR170_1, kR170_2, kL171, kA171, kS171, kL172, kA172, kS172, kL173, kA173, kS173, kC174, kG174, kP174, kR174_0, kR174_1, kR174_2, kR174_3, kR174_4, kL175, kA175, kS175, kL176, kA176, kS176, kL177, kA177, kS177, kL178, kA178, kS178, kL179, kC180, kG180, kP180, kL181, kL182, kA182, kS182, kC183, kG183, kP183, kR183_1, kR183_3, kR183_5, kR183_6, kR183_7, kR183_8, kR183_9, kR183_21, kR183_26, kR183_27, kR183_30, kR183_31, kR183_33, kR183_34, kR183_36, kR183_37, kR183_38, kR183_39, kR183_40, kR183_41, kR183_42, kR183_43, kR183_44, kL184, kA184, kS184, kL185, kA185, kS185, kL186, kA186, kS186, kL187, kA187, kS187, kL188, kA188, kS188, kL189, kL190, kL191, kA191, kS191, kL192, kA192, kS192, kL193, kA193, kS193, kL194, kA194, kS194, kL195, kA195, kS195, kL196, kA196, kS196, kL197, kA197, kS197, kL198, kA198, kS198, kL199, kA199, kS199, kL200, kA200, kS200, kL201, kL202, kA202, kS202, kL203, kA203, kS203, kL204, kA204, kS204, kL205, kL206, kA206, kS206, states11_ok hS hG, nn_le, allows_ok hS hG.1 suA_16 h]
    by_cases hq : gSt g ≤ s
    · rw [if_pos hq]
      have : isB g F (nI s) = false := by
        unfold isB
        rw [nI_toInt hs]
        simp; omega
      rw [this]; rfl
    · rw [if_neg hq, isB_n hG.1 (by omega)]
      cases lW g F s <;> rfl
def stfR (A U : Option Int) : Int32 := match A, U with
  | some a, some b => iI b - iI a
  | _, _ => -100000
theorem op_stiff : Op_stiff INV := by
  intro n σ hn ⟨g, gT, gP, st, H⟩ x y
  have hS0 := H.shp
  have hG0 := H.grd
  have hg := hG0.1
  have h16 := (gAll_b g hg).2.2.1
  have hSt := (gSt_b hg).1
  by_cases hx1 : isS g x = true
  · by_cases hy1 : isS g y = true
    · by_cases hxy : x = y
      · refine ⟨-100000, σ, σ, ?_, ?_, g, gT, gP, st, H.nop⟩
        · show f_X11_stiff (xw σ (xI σ)) 1 x y = _
          unfold f_X11_stiff
          simp (disch := first | assumption | omega) only [Option.bind_some, Option.map_some, xw_gR, xw_gN, xw_al, xw_ck, xw_uI, xw_ur, xup_at, xur_at, if_true, if_false, reduceIte, and_true, true_and, and_false, false_and, not_true_eq_false, not_false_eq_true, Nat.reduceEqDiff, eq_self, Nat.reduceAdd, Nat.reduceMul, kC1, kG1, kP1, kR1_0, kR1_1, kR1_2, kR1_3, kR1_4, kR1_5, kR1_6, kR1_7, kR1_8, kR1_9, kR1_10, kR1_11, kR1_12, kR1_13, kC2, kG2, kP2, kR2_0, kR2_1, kC3, kG3, kP3, kR3_0, kR3_1, kR3_2, kR3_3, kL4, kA4, kS4, kL5, kA5, kS5, kL6, kA6, kS6, kL7, kA7, kS7, kC8, kG8, kP8, kR8_0, kR8_1, kL9, kA9, kS9, kL10, kA10, kS10, kC11, kG11, kP11, kR11_0, kR11_1, kR11_2, kR11_3, kL12, kA12, kS12, kL13, kA13, kS13, kL14, kA14, kS14, kL15, kA15, kS15, kC16, kG16, kP16, kR16_0, kR16_1, kL17, kA17, kS17, kL18, kA18, kS18, kC19, kG19, kP19, kR19_0, kL20, kL141, kL146, kA146, kS146, kL151, kA151, kS151, kL156, kA156, kS156, kC157, kG157, kP157, kR157_0, kR157_1, kL158, kA158, kS158, kL159, kA159, kS159, kC161, kG161, kP161, kR161_0, kR161_1, kL162, kA162, kS162, kL163, kA163, kS163, kC165, kG165, kP165, kR165_0, kR165_1, kR165_2, kR165_3, kL166, kA166, kS166, kL167, kA167, kS167, kL168, kA168, kS168, kL169, kA169, kS169, kC170, kG170, kP170, kR170_0, kR170_1, kR170_2, kL171, kA171, kS171, kL172, kA172, kS172, kL173, kA173, kS173, kC174, kG174, kP174, kR174_0, kR174_1, kR174_2, kR174_3, kR174_4, kL175, kA175, kS175, kL176, kA176, kS176, kL177, kA177, kS177, kL178, kA178, kS178, kL179, kC180, kG180, kP180, kL181, kL182, kA182, kS182, kC183, kG183, kP183, kR183_1, kR183_3, kR183_5, kR183_6, kR183_7, kR183_8, kR183_9, kR183_21, kR183_26, kR183_27, kR183_30, kR183_31, kR183_33, kR183_34, kR183_36, kR183_37, kR183_38, kR183_39, kR183_40, kR183_41, kR183_42, kR183_43, kR183_44, kL184, kA184, kS184, kL185, kA185, kS185, kL186, kA186, kS186, kL187, kA187, kS187, kL188, kA188, kS188, kL189, kL190, kL191, kA191, kS191, kL192, kA192, kS192, kL193, kA193, kS193, kL194, kA194, kS194, kL195, kA195, kS195, kL196, kA196, kS196, kL197, kA197, kS197, kL198, kA198, kS198, kL199, kA199, kS199, kL200, kA200, kS200, kL201, kL202, kA202, kS202, kL203, kA203, kS203, kL204, kA204, kS204, kL205, kL206, kA206, kS206, hasSite_ok hS0 hG0, hx1, hy1, one0, hxy]
          rfl
        · show f_X12_stiff (xw σ (xI σ)) 183 x y = _
          unfold f_X12_stiff
          simp (disch := first | assumption | omega) only [Option.bind_some, Option.map_some, xw_gR, xw_gN, xw_al, xw_ck, xw_uI, xw_ur, xup_at, xur_at, if_true, if_false, reduceIte, and_true, true_and, and_false, false_and, not_true_eq_false, not_false_eq_true, Nat.reduceEqDiff, eq_self, Nat.reduceAdd, Nat.reduceMul, kC1, kG1, kP1, kR1_0, kR1_1, kR1_2, kR1_3, kR1_4, kR1_5, kR1_6, kR1_7, kR1_8, kR1_9, kR1_10, kR1_11, kR1_12, kR1_13, kC2, kG2, kP2, kR2_0, kR2_1, kC3, kG3, kP3, kR3_0, kR3_1, kR3_2, kR3_3, kL4, kA4, kS4, kL5, kA5, kS5, kL6, kA6, kS6, kL7, kA7, kS7, kC8, kG8, kP8, kR8_0, kR8_1, kL9, kA9, kS9, kL10, kA10, kS10, kC11, kG11, kP11, kR11_0, kR11_1, kR11_2, kR11_3, kL12, kA12, kS12, kL13, kA13, kS13, kL14, kA14, kS14, kL15, kA15, kS15, kC16, kG16, kP16, kR16_0, kR16_1, kL17, kA17, kS17, kL18, kA18, kS18, kC19, kG19, kP19, kR19_0, kL20, kL141, kL146, kA146, kS146, kL151, kA151, kS151, kL156, kA156, kS156, kC157, kG157, kP157, kR157_0, kR157_1, kL158, kA158, kS158, kL159, kA159, kS159, kC161, kG161, kP161, kR161_0, kR161_1, kL162, kA162, kS162, kL163, kA163, kS163, kC165, kG165, kP165, kR165_0, kR165_1, kR165_2, kR165_3, kL166, kA166, kS166, kL167, kA167, kS167, kL168, kA168, kS168, kL169, kA169, kS169, kC170, kG170, kP170, kR170_0, kR170_1, kR170_2, kL171, kA171, kS171, kL172, kA172, kS172, kL173, kA173, kS173, kC174, kG174, kP174, kR174_0, kR174_1, kR174_2, kR174_3, kR174_4, kL175, kA175, kS175, kL176, kA176, kS176, kL177, kA177, kS177, kL178, kA178, kS178, kL179, kC180, kG180, kP180, kL181, kL182, kA182, kS182, kC183, kG183, kP183, kR183_1, kR183_3, kR183_5, kR183_6, kR183_7, kR183_8, kR183_9, kR183_21, kR183_26, kR183_27, kR183_30, kR183_31, kR183_33, kR183_34, kR183_36, kR183_37, kR183_38, kR183_39, kR183_40, kR183_41, kR183_42, kR183_43, kR183_44, kL184, kA184, kS184, kL185, kA185, kS185, kL186, kA186, kS186, kL187, kA187, kS187, kL188, kA188, kS188, kL189, kL190, kL191, kA191, kS191, kL192, kA192, kS192, kL193, kA193, kS193, kL194, kA194, kS194, kL195, kA195, kS195, kL196, kA196, kS196, kL197, kA197, kS197, kL198, kA198, kS198, kL199, kA199, kS199, kL200, kA200, kS200, kL201, kL202, kA202, kS202, kL203, kA203, kS203, kL204, kA204, kS204, kL205, kL206, kA206, kS206, isSite_ok hS0 hG0, hx1, hy1, one0, hxy]
          rfl
      · obtain ⟨τ, e1, H1, K1, u1, l1⟩ := energiesNow_ok (by omega) H
        obtain ⟨I', e2, H2, K2, u2⟩ := knows_ok H1
        have hS := H1.shp
        have hG1 := H1.grd
        have hG2 : GRD I' g := H2.grd
        obtain ⟨F, hF⟩ : ∃ F, F = xI τ 191 := ⟨_, rfl⟩
        have r2 : I' 191 = F := by rw [hF]; funext k; exact u2 191 k (by omega) (by omega)
        have hSR := H1.now.1
        have ho := H1.now.2.1
        rw [r2] at K2
        rw [← hF] at K1 hSR ho
        obtain ⟨c, a, hEn, ha, hcn⟩ := H1.en157
        obtain ⟨i, hi, rfl⟩ := isS_t hx1
        obtain ⟨j, hj, rfl⟩ := isS_t hy1
        have hEb : ∀ s, -144 ≤ eE g (zR F) s ∧ eE g (zR F) s ≤ 144 := fun s => eE_b hg ho s
        obtain ⟨pA, hpA⟩ : ∃ p : Nat → Bool, p = fun s => lW g F s && decide (s.testBit i = s.testBit j) := ⟨_, rfl⟩
        obtain ⟨pU, hpU⟩ : ∃ p : Nat → Bool, p = fun s => lW g F s && !decide (s.testBit i = s.testBit j) := ⟨_, rfl⟩
        obtain ⟨A, hA⟩ : ∃ A, A = mnE (eE g (zR F)) pA (gSt g) := ⟨_, rfl⟩
        obtain ⟨U, hU⟩ : ∃ U, U = mnE (eE g (zR F)) pU (gSt g) := ⟨_, rfl⟩
        have hAb : ∀ m, A = some m → -144 ≤ m ∧ m ≤ 144 := fun m h => mnE_b pA hEb (gSt g) m (hA ▸ h)
        have hUb : ∀ m, U = some m → -144 ≤ m ∧ m ≤ 144 := fun m h => mnE_b pU hEb (gSt g) m (hU ▸ h)
        obtain ⟨r, hr⟩ : ∃ r : Int32, r = stfR A U := ⟨_, rfl⟩
        refine ⟨r, τ, xw τ I', ?_, ?_, INV_i H2.nop⟩
        · have e1' : f_X11_energiesNow (xw σ (xI σ)) 1 = some (157, τ) := e1
          show f_X11_stiff (xw σ (xI σ)) 1 (nI i) (nI j) = _
          unfold f_X11_stiff
          simp (disch := first | assumption | omega) only [Option.bind_some, Option.map_some, xw_gR, xw_gN, xw_al, xw_ck, xw_uI, xw_ur, xup_at, xur_at, if_true, if_false, reduceIte, and_true, true_and, and_false, false_and, not_true_eq_false, not_false_eq_true, Nat.reduceEqDiff, eq_self, Nat.reduceAdd, Nat.reduceMul, kC1, kG1, kP1, kR1_0, kR1_1, kR1_2, kR1_3, kR1_4, kR1_5, kR1_6, kR1_7, kR1_8, kR1_9, kR1_10, kR1_11, kR1_12, kR1_13, kC2, kG2, kP2, kR2_0, kR2_1, kC3, kG3, kP3, kR3_0, kR3_1, kR3_2, kR3_3, kL4, kA4, kS4, kL5, kA5, kS5, kL6, kA6, kS6, kL7, kA7, kS7, kC8, kG8, kP8, kR8_0, kR8_1, kL9, kA9, kS9, kL10, kA10, kS10, kC11, kG11, kP11, kR11_0, kR11_1, kR11_2, kR11_3, kL12, kA12, kS12, kL13, kA13, kS13, kL14, kA14, kS14, kL15, kA15, kS15, kC16, kG16, kP16, kR16_0, kR16_1, kL17, kA17, kS17, kL18, kA18, kS18, kC19, kG19, kP19, kR19_0, kL20, kL141, kL146, kA146, kS146, kL151, kA151, kS151, kL156, kA156, kS156, kC157, kG157, kP157, kR157_0, kR157_1, kL158, kA158, kS158, kL159, kA159, kS159, kC161, kG161, kP161, kR161_0, kR161_1, kL162, kA162, kS162, kL163, kA163, kS163, kC165, kG165, kP165, kR165_0, kR165_1, kR165_2, kR165_3, kL166, kA166, kS166, kL167, kA167, kS167, kL168, kA168, kS168, kL169, kA169, kS169, kC170, kG170, kP170, kR170_0, kR170_1, kR170_2, kL171, kA171, kS171, kL172, kA172, kS172, kL173, kA173, kS173, kC174, kG174, kP174, kR174_0, kR174_1, kR174_2, kR174_3, kR174_4, kL175, kA175, kS175, kL176, kA176, kS176, kL177, kA177, kS177, kL178, kA178, kS178, kL179, kC180, kG180, kP180, kL181, kL182, kA182, kS182, kC183, kG183, kP183, kR183_1, kR183_3, kR183_5, kR183_6, kR183_7, kR183_8, kR183_9, kR183_21, kR183_26, kR183_27, kR183_30, kR183_31, kR183_33, kR183_34, kR183_36, kR183_37, kR183_38, kR183_39, kR183_40, kR183_41, kR183_42, kR183_43, kR183_44, kL184, kA184, kS184, kL185, kA185, kS185, kL186, kA186, kS186, kL187, kA187, kS187, kL188, kA188, kS188, kL189, kL190, kL191, kA191, kS191, kL192, kA192, kS192, kL193, kA193, kS193, kL194, kA194, kS194, kL195, kA195, kS195, kL196, kA196, kS196, kL197, kA197, kS197, kL198, kA198, kS198, kL199, kA199, kS199, kL200, kA200, kS200, kL201, kL202, kA202, kS202, kL203, kA203, kS203, kL204, kA204, kS204, kL205, kL206, kA206, kS206, hasSite_ok hS0 hG0, hx1, hy1, one0, hxy, e1', xnz_ok]
          show f_X11_stiff_j34 (xw τ (xI τ)) 1 (nI i) (nI j) 157 = _
          unfold f_X11_stiff_j34
          simp (disch := first | assumption | omega) only [Option.bind_some, Option.map_some, xw_gR, xw_gN, xw_al, xw_ck, xw_uI, xw_ur, xup_at, xur_at, if_true, if_false, reduceIte, and_true, true_and, and_false, false_and, not_true_eq_false, not_false_eq_true, Nat.reduceEqDiff, eq_self, Nat.reduceAdd, Nat.reduceMul, kC1, kG1, kP1, kR1_0, kR1_1, kR1_2, kR1_3, kR1_4, kR1_5, kR1_6, kR1_7, kR1_8, kR1_9, kR1_10, kR1_11, kR1_12, kR1_13, kC2, kG2, kP2, kR2_0, kR2_1, kC3, kG3, kP3, kR3_0, kR3_1, kR3_2, kR3_3, kL4, kA4, kS4, kL5, kA5, kS5, kL6, kA6, kS6, kL7, kA7, kS7, kC8, kG8, kP8, kR8_0, kR8_1, kL9, kA9, kS9, kL10, kA10, kS10, kC11, kG11, kP11, kR11_0, kR11_1, kR11_2, kR11_3, kL12, kA12, kS12, kL13, kA13, kS13, kL14, kA14, kS14, kL15, kA15, kS15, kC16, kG16, kP16, kR16_0, kR16_1, kL17, kA17, kS17, kL18, kA18, kS18, kC19, kG19, kP19, kR19_0, kL20, kL141, kL146, kA146, kS146, kL151, kA151, kS151, kL156, kA156, kS156, kC157, kG157, kP157, kR157_0, kR157_1, kL158, kA158, kS158, kL159, kA159, kS159, kC161, kG161, kP161, kR161_0, kR161_1, kL162, kA162, kS162, kL163, kA163, kS163, kC165, kG165, kP165, kR165_0, kR165_1, kR165_2, kR165_3, kL166, kA166, kS166, kL167, kA167, kS167, kL168, kA168, kS168, kL169, kA169, kS169, kC170, kG170, kP170, kR170_0, kR170_1, kR170_2, kL171, kA171, kS171, kL172, kA172, kS172, kL173, kA173, kS173, kC174, kG174, kP174, kR174_0, kR174_1, kR174_2, kR174_3, kR174_4, kL175, kA175, kS175, kL176, kA176, kS176, kL177, kA177, kS177, kL178, kA178, kS178, kL179, kC180, kG180, kP180, kL181, kL182, kA182, kS182, kC183, kG183, kP183, kR183_1, kR183_3, kR183_5, kR183_6, kR183_7, kR183_8, kR183_9, kR183_21, kR183_26, kR183_27, kR183_30, kR183_31, kR183_33, kR183_34, kR183_36, kR183_37, kR183_38, kR183_39, kR183_40, kR183_41, kR183_42, kR183_43, kR183_44, kL184, kA184, kS184, kL185, kA185, kS185, kL186, kA186, kS186, kL187, kA187, kS187, kL188, kA188, kS188, kL189, kL190, kL191, kA191, kS191, kL192, kA192, kS192, kL193, kA193, kS193, kL194, kA194, kS194, kL195, kA195, kS195, kL196, kA196, kS196, kL197, kA197, kS197, kL198, kA198, kS198, kL199, kA199, kS199, kL200, kA200, kS200, kL201, kL202, kA202, kS202, kL203, kA203, kS203, kL204, kA204, kS204, kL205, kL206, kA206, kS206, states11_ok hS hG1]
          refine xforE (fun s : Nat => (enO 145 (mnE (eE g (zR F)) pU s), enO 145 (mnE (eE g (zR F)) pA s), nI s)) (gSt g) rfl (fun s hs => ?_) ?_
          · simp only [f_X11_stiff_b56]
            rw [if_neg (by rw [nn_le (by omega) (by omega)]; omega)]
            simp (disch := first | assumption | omega) only [Option.bind_some, Option.map_some, xw_gR, xw_gN, xw_al, xw_ck, xw_uI, xw_ur, xup_at, xur_at, if_true, if_false, reduceIte, and_true, true_and, and_false, false_and, not_true_eq_false, not_false_eq_true, Nat.reduceEqDiff, eq_self, Nat.reduceAdd, Nat.reduceMul, kC1, kG1, kP1, kR1_0, kR1_1, kR1_2, kR1_3, kR1_4, kR1_5, kR1_6, kR1_7, kR1_8, kR1_9, kR1_10, kR1_11, kR1_12, kR1_13, kC2, kG2, kP2, kR2_0, kR2_1, kC3, kG3, kP3, kR3_0, kR3_1, kR3_2, kR3_3, kL4, kA4, kS4, kL5, kA5, kS5, kL6, kA6, kS6, kL7, kA7, kS7, kC8, kG8, kP8, kR8_0, kR8_1, kL9, kA9, kS9, kL10, kA10, kS10, kC11, kG11, kP11, kR11_0, kR11_1, kR11_2, kR11_3, kL12, kA12, kS12, kL13, kA13, kS13, kL14, kA14, kS14, kL15, kA15, kS15, kC16, kG16, kP16, kR16_0, kR16_1, kL17, kA17, kS17, kL18, kA18, kS18, kC19, kG19, kP19, kR19_0, kL20, kL141, kL146, kA146, kS146, kL151, kA151, kS151, kL156, kA156, kS156, kC157, kG157, kP157, kR157_0, kR157_1, kL158, kA158, kS158, kL159, kA159, kS159, kC161, kG161, kP161, kR161_0, kR161_1, kL162, kA162, kS162, kL163, kA163, kS163, kC165, kG165, kP165, kR165_0, kR165_1, kR165_2, kR165_3, kL166, kA166, kS166, kL167, kA167, kS167, kL168, kA168, kS168, kL169, kA169, kS169, kC170, kG170, kP170, kR170_0, kR170_1, kR170_2, kL171, kA171, kS171, kL172, kA172, kS172, kL173, kA173, kS173, kC174, kG174, kP174, kR174_0, kR174_1, kR174_2, kR174_3, kR174_4, kL175, kA175, kS175, kL176, kA176, kS176, kL177, kA177, kS177, kL178, kA178, kS178, kL179, kC180, kG180, kP180, kL181, kL182, kA182, kS182, kC183, kG183, kP183, kR183_1, kR183_3, kR183_5, kR183_6, kR183_7, kR183_8, kR183_9, kR183_21, kR183_26, kR183_27, kR183_30, kR183_31, kR183_33, kR183_34, kR183_36, kR183_37, kR183_38, kR183_39, kR183_40, kR183_41, kR183_42, kR183_43, kR183_44, kL184, kA184, kS184, kL185, kA185, kS185, kL186, kA186, kS186, kL187, kA187, kS187, kL188, kA188, kS188, kL189, kL190, kL191, kA191, kS191, kL192, kA192, kS192, kL193, kA193, kS193, kL194, kA194, kS194, kL195, kA195, kS195, kL196, kA196, kS196, kL197, kA197, kS197, kL198, kA198, kS198, kL199, kA199, kS199, kL200, kA200, kS200, kL201, kL202, kA202, kS202, kL203, kA203, kS203, kL204, kA204, kS204, kL205, kL206, kA206, kS206, allows_ok hS hg suA_16 hSR, of_ok hS hEn K1 (gSt_pos hs).2, bitOf_ok (show s < 2147483648 by omega) (show i < 32 by omega), bitOf_ok (show s < 2147483648 by omega) (show j < 32 by omega), bI_eq]
            rw [← nI_succ]
            have hb := hEb s
            have xe : ∀ o, (∀ m, o = some m → -144 ≤ m ∧ m ≤ 144) → xmin (enO 145 o) (iI (eE g (zR F) s)) = enO 145 (match o with | none => some (eE g (zR F) s) | some m => some (min m (eE g (zR F) s))) := by
              intro o ho
              cases o with
              | none => simp only [enO]; rw [xmin_i (by omega) (by omega) (by omega) (by omega)]; congr 1; omega
              | some m => have := ho m rfl; simp only [enO]; rw [xmin_i (by omega) (by omega) (by omega) (by omega)]
            show _ = some (Sum.inl (enO 145 (mnE (eE g (zR F)) pU (s + 1)), enO 145 (mnE (eE g (zR F)) pA (s + 1)), nI (s + 1)))
            have vA : pA s = (lW g F s && decide (s.testBit i = s.testBit j)) := by rw [hpA]
            have vU : pU s = (lW g F s && !decide (s.testBit i = s.testBit j)) := by rw [hpU]
            have sA := xe _ (fun m h => mnE_b pA hEb s m h)
            have sU := xe _ (fun m h => mnE_b pU hEb s m h)
            rw [mnE, mnE, vA, vU]
            cases lW g F s with
            | false => simp
            | true =>
              by_cases hbb : s.testBit i = s.testBit j
              · simp only [hbb, decide_true, Bool.and_true, if_true, Bool.not_true, Bool.and_false, Bool.false_eq_true, if_false, one0]
                rw [sA]
              · simp only [hbb, decide_false, Bool.and_true, if_true, Bool.not_false, Bool.and_false, Bool.false_eq_true, if_false, one0]
                rw [sU]
          · simp only [f_X11_stiff_b56]
            rw [if_pos (by rw [nn_le (by omega) (by omega)]; exact Nat.le_refl _), ← hA, ← hU, hr]
            unfold f_X11_stiff_j151
            have nm : ∀ m, -144 ≤ m → m ≤ 144 → (iI m = (145 : Int32)) = False := fun m h1 h2 => by
              rw [show (145 : Int32) = iI 145 from rfl, iI_eq (by omega) (by omega) (by omega) (by omega)]; exact eq_false (by omega)
            have nM : (iI 145 = (145 : Int32)) = True := eq_true rfl
            cases A with
            | none => simp only [enO, nM, if_true]; rw [if_neg (by decide)]; rfl
            | some a =>
              have qa := hAb a rfl
              cases U with
              | none => simp only [enO, nM, nm a qa.1 qa.2, if_true, if_false]; rw [if_neg (by decide)]; rfl
              | some b =>
                have qb := hUb b rfl
                simp only [enO, nm a qa.1 qa.2, nm b qb.1 qb.2, if_false, if_true]; rfl
        · unfold f_X12_stiff
          have q1 : f_X12_isSite τ 183 (nI i) = some 1 := by
            have := isSite_ok (σ := τ) (I := xI τ) hS hG1 (nI i)
            rw [hx1, if_pos rfl] at this
            exact this
          have q2 : f_X12_isSite τ 183 (nI j) = some 1 := by
            have := isSite_ok (σ := τ) (I := xI τ) hS hG1 (nI j)
            rw [hy1, if_pos rfl] at this
            exact this
          rw [xck_ok (sT183 hS), Option.bind_some, q1, Option.bind_some, if_neg (by decide), Option.bind_some, q2, Option.bind_some, if_neg (by decide), if_neg hxy, Option.bind_some, e2, Option.bind_some]
          refine xforE (fun s : Nat => (enO 100000 (mnE (eE g (zR F)) pA s), enO 100000 (mnE (eE g (zR F)) pU s), nI s)) (gSt g) rfl (fun s hs => ?_) ?_
          · simp only [f_X12_stiff_b41]
            have hv := K2.1 s hs
            have hb := hEb s
            simp (disch := first | assumption | omega) only [Option.bind_some, Option.map_some, xw_gR, xw_gN, xw_al, xw_ck, xw_uI, xw_ur, xup_at, xur_at, if_true, if_false, reduceIte, and_true, true_and, and_false, false_and, not_true_eq_false, not_false_eq_true, Nat.reduceEqDiff, eq_self, Nat.reduceAdd, Nat.reduceMul, kC1, kG1, kP1, kR1_0, kR1_1, kR1_2, kR1_3, kR1_4, kR1_5, kR1_6, kR1_7, kR1_8, kR1_9, kR1_10, kR1_11, kR1_12, kR1_13, kC2, kG2, kP2, kR2_0, kR2_1, kC3, kG3, kP3, kR3_0, kR3_1, kR3_2, kR3_3, kL4, kA4, kS4, kL5, kA5, kS5, kL6, kA6, kS6, kL7, kA7, kS7, kC8, kG8, kP8, kR8_0, kR8_1, kL9, kA9, kS9, kL10, kA10, kS10, kC11, kG11, kP11, kR11_0, kR11_1, kR11_2, kR11_3, kL12, kA12, kS12, kL13, kA13, kS13, kL14, kA14, kS14, kL15, kA15, kS15, kC16, kG16, kP16, kR16_0, kR16_1, kL17, kA17, kS17, kL18, kA18, kS18, kC19, kG19, kP19, kR19_0, kL20, kL141, kL146, kA146, kS146, kL151, kA151, kS151, kL156, kA156, kS156, kC157, kG157, kP157, kR157_0, kR157_1, kL158, kA158, kS158, kL159, kA159, kS159, kC161, kG161, kP161, kR161_0, kR161_1, kL162, kA162, kS162, kL163, kA163, kS163, kC165, kG165, kP165, kR165_0, kR165_1, kR165_2, kR165_3, kL166, kA166, kS166, kL167, kA167, kS167, kL168, kA168, kS168, kL169, kA169, kS169, kC170, kG170, kP170, kR170_0, kR170_1, kR170_2, kL171, kA171, kS171, kL172, kA172, kS172, kL173, kA173, kS173, kC174, kG174, kP174, kR174_0, kR174_1, kR174_2, kR174_3, kR174_4, kL175, kA175, kS175, kL176, kA176, kS176, kL177, kA177, kS177, kL178, kA178, kS178, kL179, kC180, kG180, kP180, kL181, kL182, kA182, kS182, kC183, kG183, kP183, kR183_1, kR183_3, kR183_5, kR183_6, kR183_7, kR183_8, kR183_9, kR183_21, kR183_26, kR183_27, kR183_30, kR183_31, kR183_33, kR183_34, kR183_36, kR183_37, kR183_38, kR183_39, kR183_40, kR183_41, kR183_42, kR183_43, kR183_44, kL184, kA184, kS184, kL185, kA185, kS185, kL186, kA186, kS186, kL187, kA187, kS187, kL188, kA188, kS188, kL189, kL190, kL191, kA191, kS191, kL192, kA192, kS192, kL193, kA193, kS193, kL194, kA194, kS194, kL195, kA195, kS195, kL196, kA196, kS196, kL197, kA197, kS197, kL198, kA198, kS198, kL199, kA199, kS199, kL200, kA200, kS200, kL201, kL202, kA202, kS202, kL203, kA203, kS203, kL204, kA204, kS204, kL205, kL206, kA206, kS206, states12_ok hS hG2, nn_le, show ¬ (gSt g ≤ s) by omega, has_ok (show s < 2147483648 by omega) (show i < 32 by omega), has_ok (show s < 2147483648 by omega) (show j < 32 by omega), bI_eq, hv]
            rw [← nI_succ]
            have xu : ∀ o, (∀ m, o = some m → -144 ≤ m ∧ m ≤ 144) → (enO 100000 o ≤ nI 100000) = True := by
              intro o ho
              cases o with
              | none => exact eq_true (by decide)
              | some m => have := ho m rfl; simp only [enO]; rw [iI_n, iI_le (by omega) (by omega) (by omega) (by omega)]; exact eq_true (by omega)
            have xl : ∀ o, (∀ m, o = some m → -144 ≤ m ∧ m ≤ 144) → (if enO 100000 o ≤ iI (eE g (zR F) s) then enO 100000 o else iI (eE g (zR F) s)) = enO 100000 (match o with | none => some (eE g (zR F) s) | some m => some (min m (eE g (zR F) s))) := by
              intro o ho
              cases o with
              | none =>
                show (if iI 100000 ≤ iI (eE g (zR F) s) then iI 100000 else iI (eE g (zR F) s)) = iI (eE g (zR F) s)
                rw [if_neg (by rw [iI_le (by omega) (by omega) (by omega) (by omega)]; omega)]
              | some m =>
                have := ho m rfl
                show (if iI m ≤ iI (eE g (zR F) s) then iI m else iI (eE g (zR F) s)) = iI (min m (eE g (zR F) s))
                by_cases z : m ≤ eE g (zR F) s
                · rw [if_pos (by rw [iI_le (by omega) (by omega) (by omega) (by omega)]; exact z)]; congr 1; omega
                · rw [if_neg (by rw [iI_le (by omega) (by omega) (by omega) (by omega)]; exact z)]; congr 1; omega
            show _ = some (Sum.inl (enO 100000 (mnE (eE g (zR F)) pA (s + 1)), enO 100000 (mnE (eE g (zR F)) pU (s + 1)), nI (s + 1)))
            have bA := fun m h => mnE_b pA hEb s m h
            have bU := fun m h => mnE_b pU hEb s m h
            have sA := xl _ bA
            have sU := xl _ bU
            rw [mnE, mnE]
            have vA : pA s = (lW g F s && decide (s.testBit i = s.testBit j)) := by rw [hpA]
            have vU : pU s = (lW g F s && !decide (s.testBit i = s.testBit j)) := by rw [hpU]
            rw [vA, vU]
            cases lW g F s with
            | false => simp [xu _ bA, xu _ bU]
            | true =>
              by_cases hbb : s.testBit i = s.testBit j
              · simp only [hbb, decide_true, Bool.and_true, if_true, Bool.not_true, Bool.and_false, Bool.false_eq_true, if_false]
                rw [← sA]
                split <;> rfl
              · simp only [hbb, decide_false, Bool.and_true, if_true, Bool.not_false, Bool.and_false, Bool.false_eq_true, if_false]
                rw [← sU]
                split <;> rfl
          · simp only [f_X12_stiff_b41]
            rw [← hA, ← hU, hr]
            have nm : ∀ m, -144 ≤ m → m ≤ 144 → (iI m = (100000 : Int32)) = False := fun m h1 h2 => by
              rw [show (100000 : Int32) = iI 100000 from rfl, iI_eq (by omega) (by omega) (by omega) (by omega)]; exact eq_false (by omega)
            have nM : (iI 100000 = (100000 : Int32)) = True := eq_true rfl
            simp (disch := first | assumption | omega) only [Option.bind_some, Option.map_some, xw_gR, xw_gN, xw_al, xw_ck, xw_uI, xw_ur, xup_at, xur_at, if_true, if_false, reduceIte, and_true, true_and, and_false, false_and, not_true_eq_false, not_false_eq_true, Nat.reduceEqDiff, eq_self, Nat.reduceAdd, Nat.reduceMul, kC1, kG1, kP1, kR1_0, kR1_1, kR1_2, kR1_3, kR1_4, kR1_5, kR1_6, kR1_7, kR1_8, kR1_9, kR1_10, kR1_11, kR1_12, kR1_13, kC2, kG2, kP2, kR2_0, kR2_1, kC3, kG3, kP3, kR3_0, kR3_1, kR3_2, kR3_3, kL4, kA4, kS4, kL5, kA5, kS5, kL6, kA6, kS6, kL7, kA7, kS7, kC8, kG8, kP8, kR8_0, kR8_1, kL9, kA9, kS9, kL10, kA10, kS10, kC11, kG11, kP11, kR11_0, kR11_1, kR11_2, kR11_3, kL12, kA12, kS12, kL13, kA13, kS13, kL14, kA14, kS14, kL15, kA15, kS15, kC16, kG16, kP16, kR16_0, kR16_1, kL17, kA17, kS17, kL18, kA18, kS18, kC19, kG19, kP19, kR19_0, kL20, kL141, kL146, kA146, kS146, kL151, kA151, kS151, kL156, kA156, kS156, kC157, kG157, kP157, kR157_0, kR157_1, kL158, kA158, kS158, kL159, kA159, kS159, kC161, kG161, kP161, kR161_0, kR161_1, kL162, kA162, kS162, kL163, kA163, kS163, kC165, kG165, kP165, kR165_0, kR165_1, kR165_2, kR165_3, kL166, kA166, kS166, kL167, kA167, kS167, kL168, kA168, kS168, kL169, kA169, kS169, kC170, kG170, kP170, kR170_0, kR170_1, kR170_2, kL171, kA171, kS171, kL172, kA172, kS172, kL173, kA173, kS173, kC174, kG174, kP174, kR174_0, kR174_1, kR174_2, kR174_3, kR174_4, kL175, kA175, kS175, kL176, kA176, kS176, kL177, kA177, kS177, kL178, kA178, kS178, kL179, kC180, kG180, kP180, kL181, kL182, kA182, kS182, kC183, kG183, kP183, kR183_1, kR183_3, kR183_5, kR183_6, kR183_7, kR183_8, kR183_9, kR183_21, kR183_26, kR183_27, kR183_30, kR183_31, kR183_33, kR183_34, kR183_36, kR183_37, kR183_38, kR183_39, kR183_40, kR183_41, kR183_42, kR183_43, kR183_44, kL184, kA184, kS184, kL185, kA185, kS185, kL186, kA186, kS186, kL187, kA187, kS187, kL188, kA188, kS188, kL189, kL190, kL191, kA191, kS191, kL192, kA192, kS192, kL193, kA193, kS193, kL194, kA194, kS194, kL195, kA195, kS195, kL196, kA196, kS196, kL197, kA197, kS197, kL198, kA198, kS198, kL199, kA199, kS199, kL200, kA200, kS200, kL201, kL202, kA202, kS202, kL203, kA203, kS203, kL204, kA204, kS204, kL205, kL206, kA206, kS206, states12_ok hS hG2, nn_le, Nat.le_refl]
            cases A with
            | none => simp only [enO, nM, if_true]; rfl
            | some a =>
              have qa := hAb a rfl
              cases U with
              | none => simp only [enO, nM, nm a qa.1 qa.2, if_true, if_false]; rfl
              | some b =>
                have qb := hUb b rfl
                simp only [enO, nm a qa.1 qa.2, nm b qb.1 qb.2, if_false]; rfl
    · refine ⟨-100000, σ, σ, ?_, ?_, g, gT, gP, st, H.nop⟩
      · show f_X11_stiff (xw σ (xI σ)) 1 x y = _
        unfold f_X11_stiff
        simp (disch := first | assumption | omega) only [Option.bind_some, Option.map_some, xw_gR, xw_gN, xw_al, xw_ck, xw_uI, xw_ur, xup_at, xur_at, if_true, if_false, reduceIte, and_true, true_and, and_false, false_and, not_true_eq_false, not_false_eq_true, Nat.reduceEqDiff, eq_self, Nat.reduceAdd, Nat.reduceMul, kC1, kG1, kP1, kR1_0, kR1_1, kR1_2, kR1_3, kR1_4, kR1_5, kR1_6, kR1_7, kR1_8, kR1_9, kR1_10, kR1_11, kR1_12, kR1_13, kC2, kG2, kP2, kR2_0, kR2_1, kC3, kG3, kP3, kR3_0, kR3_1, kR3_2, kR3_3, kL4, kA4, kS4, kL5, kA5, kS5, kL6, kA6, kS6, kL7, kA7, kS7, kC8, kG8, kP8, kR8_0, kR8_1, kL9, kA9, kS9, kL10, kA10, kS10, kC11, kG11, kP11, kR11_0, kR11_1, kR11_2, kR11_3, kL12, kA12, kS12, kL13, kA13, kS13, kL14, kA14, kS14, kL15, kA15, kS15, kC16, kG16, kP16, kR16_0, kR16_1, kL17, kA17, kS17, kL18, kA18, kS18, kC19, kG19, kP19, kR19_0, kL20, kL141, kL146, kA146, kS146, kL151, kA151, kS151, kL156, kA156, kS156, kC157, kG157, kP157, kR157_0, kR157_1, kL158, kA158, kS158, kL159, kA159, kS159, kC161, kG161, kP161, kR161_0, kR161_1, kL162, kA162, kS162, kL163, kA163, kS163, kC165, kG165, kP165, kR165_0, kR165_1, kR165_2, kR165_3, kL166, kA166, kS166, kL167, kA167, kS167, kL168, kA168, kS168, kL169, kA169, kS169, kC170, kG170, kP170, kR170_0, kR170_1, kR170_2, kL171, kA171, kS171, kL172, kA172, kS172, kL173, kA173, kS173, kC174, kG174, kP174, kR174_0, kR174_1, kR174_2, kR174_3, kR174_4, kL175, kA175, kS175, kL176, kA176, kS176, kL177, kA177, kS177, kL178, kA178, kS178, kL179, kC180, kG180, kP180, kL181, kL182, kA182, kS182, kC183, kG183, kP183, kR183_1, kR183_3, kR183_5, kR183_6, kR183_7, kR183_8, kR183_9, kR183_21, kR183_26, kR183_27, kR183_30, kR183_31, kR183_33, kR183_34, kR183_36, kR183_37, kR183_38, kR183_39, kR183_40, kR183_41, kR183_42, kR183_43, kR183_44, kL184, kA184, kS184, kL185, kA185, kS185, kL186, kA186, kS186, kL187, kA187, kS187, kL188, kA188, kS188, kL189, kL190, kL191, kA191, kS191, kL192, kA192, kS192, kL193, kA193, kS193, kL194, kA194, kS194, kL195, kA195, kS195, kL196, kA196, kS196, kL197, kA197, kS197, kL198, kA198, kS198, kL199, kA199, kS199, kL200, kA200, kS200, kL201, kL202, kA202, kS202, kL203, kA203, kS203, kL204, kA204, kS204, kL205, kL206, kA206, kS206, hasSite_ok hS0 hG0, hx1, hy1, one0]
        rfl
      · show f_X12_stiff (xw σ (xI σ)) 183 x y = _
        unfold f_X12_stiff
        simp (disch := first | assumption | omega) only [Option.bind_some, Option.map_some, xw_gR, xw_gN, xw_al, xw_ck, xw_uI, xw_ur, xup_at, xur_at, if_true, if_false, reduceIte, and_true, true_and, and_false, false_and, not_true_eq_false, not_false_eq_true, Nat.reduceEqDiff, eq_self, Nat.reduceAdd, Nat.reduceMul, kC1, kG1, kP1, kR1_0, kR1_1, kR1_2, kR1_3, kR1_4, kR1_5, kR1_6, kR1_7, kR1_8, kR1_9, kR1_10, kR1_11, kR1_12, kR1_13, kC2, kG2, kP2, kR2_0, kR2_1, kC3, kG3, kP3, kR3_0, kR3_1, kR3_2, kR3_3, kL4, kA4, kS4, kL5, kA5, kS5, kL6, kA6, kS6, kL7, kA7, kS7, kC8, kG8, kP8, kR8_0, kR8_1, kL9, kA9, kS9, kL10, kA10, kS10, kC11, kG11, kP11, kR11_0, kR11_1, kR11_2, kR11_3, kL12, kA12, kS12, kL13, kA13, kS13, kL14, kA14, kS14, kL15, kA15, kS15, kC16, kG16, kP16, kR16_0, kR16_1, kL17, kA17, kS17, kL18, kA18, kS18, kC19, kG19, kP19, kR19_0, kL20, kL141, kL146, kA146, kS146, kL151, kA151, kS151, kL156, kA156, kS156, kC157, kG157, kP157, kR157_0, kR157_1, kL158, kA158, kS158, kL159, kA159, kS159, kC161, kG161, kP161, kR161_0, kR161_1, kL162, kA162, kS162, kL163, kA163, kS163, kC165, kG165, kP165, kR165_0, kR165_1, kR165_2, kR165_3, kL166, kA166, kS166, kL167, kA167, kS167, kL168, kA168, kS168, kL169, kA169, kS169, kC170, kG170, kP170, kR170_0, kR170_1, kR170_2, kL171, kA171, kS171, kL172, kA172, kS172, kL173, kA173, kS173, kC174, kG174, kP174, kR174_0, kR174_1, kR174_2, kR174_3, kR174_4, kL175, kA175, kS175, kL176, kA176, kS176, kL177, kA177, kS177, kL178, kA178, kS178, kL179, kC180, kG180, kP180, kL181, kL182, kA182, kS182, kC183, kG183, kP183, kR183_1, kR183_3, kR183_5, kR183_6, kR183_7, kR183_8, kR183_9, kR183_21, kR183_26, kR183_27, kR183_30, kR183_31, kR183_33, kR183_34, kR183_36, kR183_37, kR183_38, kR183_39, kR183_40, kR183_41, kR183_42, kR183_43, kR183_44, kL184, kA184, kS184, kL185, kA185, kS185, kL186, kA186, kS186, kL187, kA187, kS187, kL188, kA188, kS188, kL189, kL190, kL191, kA191, kS191, kL192, kA192, kS192, kL193, kA193, kS193, kL194, kA194, kS194, kL195, kA195, kS195, kL196, kA196, kS196, kL197, kA197, kS197, kL198, kA198, kS198, kL199, kA199, kS199, kL200, kA200, kS200, kL201, kL202, kA202, kS202, kL203, kA203, kS203, kL204, kA204, kS204, kL205, kL206, kA206, kS206, isSite_ok hS0 hG0, hx1, hy1, one0]
        rfl
  · refine ⟨-100000, σ, σ, ?_, ?_, g, gT, gP, st, H.nop⟩
    · show f_X11_stiff (xw σ (xI σ)) 1 x y = _
      unfold f_X11_stiff
      simp (disch := first | assumption | omega) only [Option.bind_some, Option.map_some, xw_gR, xw_gN, xw_al, xw_ck, xw_uI, xw_ur, xup_at, xur_at, if_true, if_false, reduceIte, and_true, true_and, and_false, false_and, not_true_eq_false, not_false_eq_true, Nat.reduceEqDiff, eq_self, Nat.reduceAdd, Nat.reduceMul, kC1, kG1, kP1, kR1_0, kR1_1, kR1_2, kR1_3, kR1_4, kR1_5, kR1_6, kR1_7, kR1_8, kR1_9, kR1_10, kR1_11, kR1_12, kR1_13, kC2, kG2, kP2, kR2_0, kR2_1, kC3, kG3, kP3, kR3_0, kR3_1, kR3_2, kR3_3, kL4, kA4, kS4, kL5, kA5, kS5, kL6, kA6, kS6, kL7, kA7, kS7, kC8, kG8, kP8, kR8_0, kR8_1, kL9, kA9, kS9, kL10, kA10, kS10, kC11, kG11, kP11, kR11_0, kR11_1, kR11_2, kR11_3, kL12, kA12, kS12, kL13, kA13, kS13, kL14, kA14, kS14, kL15, kA15, kS15, kC16, kG16, kP16, kR16_0, kR16_1, kL17, kA17, kS17, kL18, kA18, kS18, kC19, kG19, kP19, kR19_0, kL20, kL141, kL146, kA146, kS146, kL151, kA151, kS151, kL156, kA156, kS156, kC157, kG157, kP157, kR157_0, kR157_1, kL158, kA158, kS158, kL159, kA159, kS159, kC161, kG161, kP161, kR161_0, kR161_1, kL162, kA162, kS162, kL163, kA163, kS163, kC165, kG165, kP165, kR165_0, kR165_1, kR165_2, kR165_3, kL166, kA166, kS166, kL167, kA167, kS167, kL168, kA168, kS168, kL169, kA169, kS169, kC170, kG170, kP170, kR170_0, kR170_1, kR170_2, kL171, kA171, kS171, kL172, kA172, kS172, kL173, kA173, kS173, kC174, kG174, kP174, kR174_0, kR174_1, kR174_2, kR174_3, kR174_4, kL175, kA175, kS175, kL176, kA176, kS176, kL177, kA177, kS177, kL178, kA178, kS178, kL179, kC180, kG180, kP180, kL181, kL182, kA182, kS182, kC183, kG183, kP183, kR183_1, kR183_3, kR183_5, kR183_6, kR183_7, kR183_8, kR183_9, kR183_21, kR183_26, kR183_27, kR183_30, kR183_31, kR183_33, kR183_34, kR183_36, kR183_37, kR183_38, kR183_39, kR183_40, kR183_41, kR183_42, kR183_43, kR183_44, kL184, kA184, kS184, kL185, kA185, kS185, kL186, kA186, kS186, kL187, kA187, kS187, kL188, kA188, kS188, kL189, kL190, kL191, kA191, kS191, kL192, kA192, kS192, kL193, kA193, kS193, kL194, kA194, kS194, kL195, kA195, kS195, kL196, kA196, kS196, kL197, kA197, kS197, kL198, kA198, kS198, kL199, kA199, kS199, kL200, kA200, kS200, kL201, kL202, kA202, kS202, kL203, kA203, kS203, kL204, kA204, kS204, kL205, kL206, kA206, kS206, hasSite_ok hS0 hG0, hx1]
      rfl
    · show f_X12_stiff (xw σ (xI σ)) 183 x y = _
      unfold f_X12_stiff
      simp (disch := first | assumption | omega) only [Option.bind_some, Option.map_some, xw_gR, xw_gN, xw_al, xw_ck, xw_uI, xw_ur, xup_at, xur_at, if_true, if_false, reduceIte, and_true, true_and, and_false, false_and, not_true_eq_false, not_false_eq_true, Nat.reduceEqDiff, eq_self, Nat.reduceAdd, Nat.reduceMul, kC1, kG1, kP1, kR1_0, kR1_1, kR1_2, kR1_3, kR1_4, kR1_5, kR1_6, kR1_7, kR1_8, kR1_9, kR1_10, kR1_11, kR1_12, kR1_13, kC2, kG2, kP2, kR2_0, kR2_1, kC3, kG3, kP3, kR3_0, kR3_1, kR3_2, kR3_3, kL4, kA4, kS4, kL5, kA5, kS5, kL6, kA6, kS6, kL7, kA7, kS7, kC8, kG8, kP8, kR8_0, kR8_1, kL9, kA9, kS9, kL10, kA10, kS10, kC11, kG11, kP11, kR11_0, kR11_1, kR11_2, kR11_3, kL12, kA12, kS12, kL13, kA13, kS13, kL14, kA14, kS14, kL15, kA15, kS15, kC16, kG16, kP16, kR16_0, kR16_1, kL17, kA17, kS17, kL18, kA18, kS18, kC19, kG19, kP19, kR19_0, kL20, kL141, kL146, kA146, kS146, kL151, kA151, kS151, kL156, kA156, kS156, kC157, kG157, kP157, kR157_0, kR157_1, kL158, kA158, kS158, kL159, kA159, kS159, kC161, kG161, kP161, kR161_0, kR161_1, kL162, kA162, kS162, kL163, kA163, kS163, kC165, kG165, kP165, kR165_0, kR165_1, kR165_2, kR165_3, kL166, kA166, kS166, kL167, kA167, kS167, kL168, kA168, kS168, kL169, kA169, kS169, kC170, kG170, kP170, kR170_0, kR170_1, kR170_2, kL171, kA171, kS171, kL172, kA172, kS172, kL173, kA173, kS173, kC174, kG174, kP174, kR174_0, kR174_1, kR174_2, kR174_3, kR174_4, kL175, kA175, kS175, kL176, kA176, kS176, kL177, kA177, kS177, kL178, kA178, kS178, kL179, kC180, kG180, kP180, kL181, kL182, kA182, kS182, kC183, kG183, kP183, kR183_1, kR183_3, kR183_5, kR183_6, kR183_7, kR183_8, kR183_9, kR183_21, kR183_26, kR183_27, kR183_30, kR183_31, kR183_33, kR183_34, kR183_36, kR183_37, kR183_38, kR183_39, kR183_40, kR183_41, kR183_42, kR183_43, kR183_44, kL184, kA184, kS184, kL185, kA185, kS185, kL186, kA186, kS186, kL187, kA187, kS187, kL188, kA188, kS188, kL189, kL190, kL191, kA191, kS191, kL192, kA192, kS192, kL193, kA193, kS193, kL194, kA194, kS194, kL195, kA195, kS195, kL196, kA196, kS196, kL197, kA197, kS197, kL198, kA198, kS198, kL199, kA199, kS199, kL200, kA200, kS200, kL201, kL202, kA202, kS202, kL203, kA203, kS203, kL204, kA204, kS204, kL205, kL206, kA206, kS206, isSite_ok hS0 hG0, hx1]
      rfl
end
section
/-! nearest -/
def nb (p : Nat → Bool) (b s0 : Nat) : Nat → Nat
  | 0 => s0
  | s + 1 => if p s ∧ pC (s ^^^ b) < pC (nb p b s0 s ^^^ b) then s else nb p b s0 s
theorem nb_b {p : Nat → Bool} {b s0 N : Nat} (h : s0 < N) : ∀ s, s ≤ N → nb p b s0 s < N
  | 0, _ => h
  | s + 1, hs => by
    rw [nb]
    split
    · omega
    · exact nb_b h s (by omega)
theorem nb_lo {p : Nat → Bool} {b s0 : Nat} (h : ∀ s, s < s0 → p s = false) : ∀ s, s ≤ s0 + 1 → nb p b s0 s = s0
  | 0, _ => rfl
  | s + 1, hs => by
    have ih := nb_lo (b := b) h s (by omega)
    rw [nb, ih]
    split
    · next z =>
      by_cases q : s < s0
      · rw [h s q] at z; exact absurd z.1 (by decide)
      · have : s = s0 := by omega
        subst this
        exact absurd z.2 (Nat.lt_irrefl _)
    · rfl
theorem op_nearest : Op_nearest INV := by
  intro n σ hn ⟨g, gT, gP, st, H⟩ x v
  have hS0 := H.shp
  have hG0 := H.grd
  have hg := hG0.1
  have h16 := (gAll_b g hg).2.2.1
  have hSt := (gSt_b hg).1
  by_cases hb1 : isB g (xI σ 191) x = true
  · obtain ⟨b, hb, rfl, hbl⟩ := isB_t hb1
    by_cases hv : v = 0 ∨ v = 1
    · obtain ⟨τ, I', e1, e2, H1, H2, hS, hG1, hG2, ho, hSR, hE, hL, hK, r1, r2, u1, u2⟩ := both_ready (by omega) H
      obtain ⟨F, hF⟩ : ∃ F, F = xI σ 191 := ⟨_, rfl⟩
      rw [← hF] at ho hSR hE hL hK hbl
      have hlb := lvN_b g F
      obtain ⟨c, a, hEn, ha, hcn⟩ := H1.en157
      have hpos : 0 < lvN g F := by
        obtain ⟨e, he, h1, h2⟩ := lE_slot hg ho hb hbl
        have := lvl_lt he h2
        omega
      obtain ⟨k, hk, hp, hki⟩ := lv_first hpos
      obtain ⟨s0, hs0, hs1, hs2⟩ := lvP_least hp
      have q0 : I' 198 0 = iI ((k : Int) - 144) := by rw [← hki]; exact hK.2.2.2 k hk hp
      have hen := energyOf_ok (σ := τ) (J := xI τ) hS hL hk hp
      rw [hki, show nI 0 = (0 : Int32) from rfl] at hen
      obtain ⟨w, hw⟩ : ∃ w, w = nb (lE g F ((k : Int) - 144)) b s0 (gSt g) := ⟨_, rfl⟩
      have hwb : w < gSt g := by rw [hw]; exact nb_b hs0 _ (Nat.le_refl _)
      have x16 : ∀ s t, s < 65536 → t < 65536 → s ^^^ t < 65536 := fun s t h1 h2 => Nat.xor_lt_two_pow (n := 16) h1 h2
      have hng : f_X11_nearestGround σ 1 (nI b) = some (nI w, τ) := by
        unfold f_X11_nearestGround
        rw [xck_ok (sT1 H.shp), Option.bind_some, e1, Option.bind_some]
        dsimp only
        rw [xnz_ok (by decide), Option.bind_some]
        show f_X11_nearestGround_j4 (xw τ (xI τ)) 1 (nI b) 165 = _
        unfold f_X11_nearestGround_j4
        simp (disch := first | assumption | omega) only [Option.bind_some, Option.map_some, xw_gR, xw_gN, xw_al, xw_ck, xw_uI, xw_ur, xup_at, xur_at, if_true, if_false, reduceIte, and_true, true_and, and_false, false_and, not_true_eq_false, not_false_eq_true, Nat.reduceEqDiff, eq_self, Nat.reduceAdd, Nat.reduceMul, kC1, kG1, kP1, kR1_0, kR1_1, kR1_2, kR1_3, kR1_4, kR1_5, kR1_6, kR1_7, kR1_8, kR1_9, kR1_10, kR1_11, kR1_12, kR1_13, kC2, kG2, kP2, kR2_0, kR2_1, kC3, kG3, kP3, kR3_0, kR3_1, kR3_2, kR3_3, kL4, kA4, kS4, kL5, kA5, kS5, kL6, kA6, kS6, kL7, kA7, kS7, kC8, kG8, kP8, kR8_0, kR8_1, kL9, kA9, kS9, kL10, kA10, kS10, kC11, kG11, kP11, kR11_0, kR11_1, kR11_2, kR11_3, kL12, kA12, kS12, kL13, kA13, kS13, kL14, kA14, kS14, kL15, kA15, kS15, kC16, kG16, kP16, kR16_0, kR16_1, kL17, kA17, kS17, kL18, kA18, kS18, kC19, kG19, kP19, kR19_0, kL20, kL141, kL146, kA146, kS146, kL151, kA151, kS151, kL156, kA156, kS156, kC157, kG157, kP157, kR157_0, kR157_1, kL158, kA158, kS158, kL159, kA159, kS159, kC161, kG161, kP161, kR161_0, kR161_1, kL162, kA162, kS162, kL163, kA163, kS163, kC165, kG165, kP165, kR165_0, kR165_1, kR165_2, kR165_3, kL166, kA166, kS166, kL167, kA167, kS167, kL168, kA168, kS168, kL169, kA169, kS169, kC170, kG170, kP170, kR170_0, kR170_1, kR170_2, kL171, kA171, kS171, kL172, kA172, kS172, kL173, kA173, kS173, kC174, kG174, kP174, kR174_0, kR174_1, kR174_2, kR174_3, kR174_4, kL175, kA175, kS175, kL176, kA176, kS176, kL177, kA177, kS177, kL178, kA178, kS178, kL179, kC180, kG180, kP180, kL181, kL182, kA182, kS182, kC183, kG183, kP183, kR183_1, kR183_3, kR183_5, kR183_6, kR183_7, kR183_8, kR183_9, kR183_21, kR183_26, kR183_27, kR183_30, kR183_31, kR183_33, kR183_34, kR183_36, kR183_37, kR183_38, kR183_39, kR183_40, kR183_41, kR183_42, kR183_43, kR183_44, kL184, kA184, kS184, kL185, kA185, kS185, kL186, kA186, kS186, kL187, kA187, kS187, kL188, kA188, kS188, kL189, kL190, kL191, kA191, kS191, kL192, kA192, kS192, kL193, kA193, kS193, kL194, kA194, kS194, kL195, kA195, kS195, kL196, kA196, kS196, kL197, kA197, kS197, kL198, kA198, kS198, kL199, kA199, kS199, kL200, kA200, kS200, kL201, kL202, kA202, kS202, kL203, kA203, kS203, kL204, kA204, kS204, kL205, kL206, kA206, kS206, hen, states11_ok hS hG1, leastOf_ok hS hL hk hs0 hs1 hs2]
        rw [hw]
        refine xforE (fun s : Nat => (nI (nb (lE g F ((k : Int) - 144)) b s0 s), nI s)) (gSt g) rfl (fun s hs => ?_) ?_
        · simp only [f_X11_nearestGround_b30]
          have hbE := eE_b hg ho s
          have hq : (iI (eE g (zR F) s) = iI ((k : Int) - 144)) = (eE g (zR F) s = (k : Int) - 144) := iI_eq (by omega) (by omega) (by omega) (by omega)
          have hnb : nb (lE g F ((k : Int) - 144)) b s0 s < gSt g := nb_b hs0 s (by omega)
          have p1 := pC_16 (s ^^^ b)
          have p2 := pC_16 (nb (lE g F ((k : Int) - 144)) b s0 s ^^^ b)
          rw [if_neg (by rw [nn_le (by omega) (by omega)]; omega)]
          simp (disch := first | assumption | omega) only [Option.bind_some, Option.map_some, xw_gR, xw_gN, xw_al, xw_ck, xw_uI, xw_ur, xup_at, xur_at, if_true, if_false, reduceIte, and_true, true_and, and_false, false_and, not_true_eq_false, not_false_eq_true, Nat.reduceEqDiff, eq_self, Nat.reduceAdd, Nat.reduceMul, kC1, kG1, kP1, kR1_0, kR1_1, kR1_2, kR1_3, kR1_4, kR1_5, kR1_6, kR1_7, kR1_8, kR1_9, kR1_10, kR1_11, kR1_12, kR1_13, kC2, kG2, kP2, kR2_0, kR2_1, kC3, kG3, kP3, kR3_0, kR3_1, kR3_2, kR3_3, kL4, kA4, kS4, kL5, kA5, kS5, kL6, kA6, kS6, kL7, kA7, kS7, kC8, kG8, kP8, kR8_0, kR8_1, kL9, kA9, kS9, kL10, kA10, kS10, kC11, kG11, kP11, kR11_0, kR11_1, kR11_2, kR11_3, kL12, kA12, kS12, kL13, kA13, kS13, kL14, kA14, kS14, kL15, kA15, kS15, kC16, kG16, kP16, kR16_0, kR16_1, kL17, kA17, kS17, kL18, kA18, kS18, kC19, kG19, kP19, kR19_0, kL20, kL141, kL146, kA146, kS146, kL151, kA151, kS151, kL156, kA156, kS156, kC157, kG157, kP157, kR157_0, kR157_1, kL158, kA158, kS158, kL159, kA159, kS159, kC161, kG161, kP161, kR161_0, kR161_1, kL162, kA162, kS162, kL163, kA163, kS163, kC165, kG165, kP165, kR165_0, kR165_1, kR165_2, kR165_3, kL166, kA166, kS166, kL167, kA167, kS167, kL168, kA168, kS168, kL169, kA169, kS169, kC170, kG170, kP170, kR170_0, kR170_1, kR170_2, kL171, kA171, kS171, kL172, kA172, kS172, kL173, kA173, kS173, kC174, kG174, kP174, kR174_0, kR174_1, kR174_2, kR174_3, kR174_4, kL175, kA175, kS175, kL176, kA176, kS176, kL177, kA177, kS177, kL178, kA178, kS178, kL179, kC180, kG180, kP180, kL181, kL182, kA182, kS182, kC183, kG183, kP183, kR183_1, kR183_3, kR183_5, kR183_6, kR183_7, kR183_8, kR183_9, kR183_21, kR183_26, kR183_27, kR183_30, kR183_31, kR183_33, kR183_34, kR183_36, kR183_37, kR183_38, kR183_39, kR183_40, kR183_41, kR183_42, kR183_43, kR183_44, kL184, kA184, kS184, kL185, kA185, kS185, kL186, kA186, kS186, kL187, kA187, kS187, kL188, kA188, kS188, kL189, kL190, kL191, kA191, kS191, kL192, kA192, kS192, kL193, kA193, kS193, kL194, kA194, kS194, kL195, kA195, kS195, kL196, kA196, kS196, kL197, kA197, kS197, kL198, kA198, kS198, kL199, kA199, kS199, kL200, kA200, kS200, kL201, kL202, kA202, kS202, kL203, kA203, kS203, kL204, kA204, kS204, kL205, kL206, kA206, kS206, allows_ok hS hg suA_16 hSR, of_ok hS hEn hE (gSt_pos hs).2, hq, nn_xor, bitCount_ok (x16 s b (by omega) (by omega)), bitCount_ok (x16 (nb (lE g F ((k : Int) - 144)) b s0 s) b (by omega) (by omega)), nn_le]
          rw [← nI_succ]
          show _ = some (Sum.inl (nI (nb (lE g F ((k : Int) - 144)) b s0 (s + 1)), nI (s + 1)))
          rw [nb]
          have hlE : lE g F ((k : Int) - 144) s = (lW g F s && decide (eE g (zR F) s = (k : Int) - 144)) := rfl
          rw [hlE]
          cases lW g F s with
          | false => simp
          | true =>
            rw [if_neg (by decide)]
            by_cases he : eE g (zR F) s = (k : Int) - 144
            · rw [if_pos he]
              by_cases hc : pC (s ^^^ b) < pC (nb (lE g F ((k : Int) - 144)) b s0 s ^^^ b)
              · rw [if_neg (by omega), if_pos (by simp [he, hc])]
              · rw [if_pos (by omega), if_neg (by simp [he]; omega)]
            · rw [if_neg he, if_neg (by simp [he])]
        · simp only [f_X11_nearestGround_b30]
          rw [if_pos (by rw [nn_le (by omega) (by omega)]; exact Nat.le_refl _)]
          rfl
      have p3 := pC_16 (w ^^^ b)
      obtain ⟨r, hr⟩ : ∃ r, r = if v = 0 then nI w else nI (pC (w ^^^ b)) := ⟨_, rfl⟩
      have hx2 := x16 w b (by omega) (by omega)
      refine ⟨r, τ, xw τ I', ?_, ?_, INV_i H2.nop⟩
      · show f_X11_nearest (xw σ (xI σ)) 1 (nI b) v = _
        unfold f_X11_nearest
        have hng' : f_X11_nearestGround (xw σ (xI σ)) 1 (nI b) = some (nI w, τ) := hng
        have v1 : ¬ v < 0 := by rcases hv with z | z <;> rw [z] <;> decide
        have v2 : v ≤ 1 := by rcases hv with z | z <;> rw [z] <;> decide
        simp (disch := first | assumption | omega) only [Option.bind_some, Option.map_some, xw_gR, xw_gN, xw_al, xw_ck, xw_uI, xw_ur, xup_at, xur_at, if_true, if_false, reduceIte, and_true, true_and, and_false, false_and, not_true_eq_false, not_false_eq_true, Nat.reduceEqDiff, eq_self, Nat.reduceAdd, Nat.reduceMul, kC1, kG1, kP1, kR1_0, kR1_1, kR1_2, kR1_3, kR1_4, kR1_5, kR1_6, kR1_7, kR1_8, kR1_9, kR1_10, kR1_11, kR1_12, kR1_13, kC2, kG2, kP2, kR2_0, kR2_1, kC3, kG3, kP3, kR3_0, kR3_1, kR3_2, kR3_3, kL4, kA4, kS4, kL5, kA5, kS5, kL6, kA6, kS6, kL7, kA7, kS7, kC8, kG8, kP8, kR8_0, kR8_1, kL9, kA9, kS9, kL10, kA10, kS10, kC11, kG11, kP11, kR11_0, kR11_1, kR11_2, kR11_3, kL12, kA12, kS12, kL13, kA13, kS13, kL14, kA14, kS14, kL15, kA15, kS15, kC16, kG16, kP16, kR16_0, kR16_1, kL17, kA17, kS17, kL18, kA18, kS18, kC19, kG19, kP19, kR19_0, kL20, kL141, kL146, kA146, kS146, kL151, kA151, kS151, kL156, kA156, kS156, kC157, kG157, kP157, kR157_0, kR157_1, kL158, kA158, kS158, kL159, kA159, kS159, kC161, kG161, kP161, kR161_0, kR161_1, kL162, kA162, kS162, kL163, kA163, kS163, kC165, kG165, kP165, kR165_0, kR165_1, kR165_2, kR165_3, kL166, kA166, kS166, kL167, kA167, kS167, kL168, kA168, kS168, kL169, kA169, kS169, kC170, kG170, kP170, kR170_0, kR170_1, kR170_2, kL171, kA171, kS171, kL172, kA172, kS172, kL173, kA173, kS173, kC174, kG174, kP174, kR174_0, kR174_1, kR174_2, kR174_3, kR174_4, kL175, kA175, kS175, kL176, kA176, kS176, kL177, kA177, kS177, kL178, kA178, kS178, kL179, kC180, kG180, kP180, kL181, kL182, kA182, kS182, kC183, kG183, kP183, kR183_1, kR183_3, kR183_5, kR183_6, kR183_7, kR183_8, kR183_9, kR183_21, kR183_26, kR183_27, kR183_30, kR183_31, kR183_33, kR183_34, kR183_36, kR183_37, kR183_38, kR183_39, kR183_40, kR183_41, kR183_42, kR183_43, kR183_44, kL184, kA184, kS184, kL185, kA185, kS185, kL186, kA186, kS186, kL187, kA187, kS187, kL188, kA188, kS188, kL189, kL190, kL191, kA191, kS191, kL192, kA192, kS192, kL193, kA193, kS193, kL194, kA194, kS194, kL195, kA195, kS195, kL196, kA196, kS196, kL197, kA197, kS197, kL198, kA198, kS198, kL199, kA199, kS199, kL200, kA200, kS200, kL201, kL202, kA202, kS202, kL203, kA203, kS203, kL204, kA204, kS204, kL205, kL206, kA206, kS206, isLawful11_ok hS0 hG0 H.now.1, hb1, one0, v1, v2, hng']
        unfold f_X11_nearest_j25
        rw [nn_xor, bitCount_ok hx2, Option.bind_some, hr]
        split <;> rfl
      · unfold f_X12_nearest
        have ql : f_X12_isLawful τ 183 (nI b) = some 1 := by
          have := isLawful12_ok (σ := τ) (I := xI τ) hS hG1 (by rw [r1, ← hF]; exact ho) (nI b)
          rw [r1, hb1, if_pos rfl] at this
          exact this
        rw [xck_ok (sT183 hS), Option.bind_some, ql, Option.bind_some, if_neg (by decide), in_01, if_pos hv, Option.bind_some, if_neg (by decide), Option.bind_some, e2, Option.bind_some]
        refine xforE (fun s : Nat => (if s ≤ s0 then (-1 : Int32) else nI (nb (lE g F ((k : Int) - 144)) b s0 s), nI s)) (gSt g) rfl (fun s hs => ?_) ?_
        · simp only [f_X12_nearest_b30]
          have hvv := hK.1 s hs
          have hq := knE hg ho (e := (k : Int) - 144) (by omega) (by omega) s
          have z0 : xaI (xw τ I') 20 198 (0 : Int32) = some (I' 198 0) := kA198 hS (i := 0) (by decide)
          have hnb : nb (lE g F ((k : Int) - 144)) b s0 s < gSt g := nb_b hs0 s (by omega)
          have p1 := pC_16 (s ^^^ b)
          have p2 := pC_16 (nb (lE g F ((k : Int) - 144)) b s0 s ^^^ b)
          simp (disch := first | assumption | omega) only [Option.bind_some, Option.map_some, xw_gR, xw_gN, xw_al, xw_ck, xw_uI, xw_ur, xup_at, xur_at, if_true, if_false, reduceIte, and_true, true_and, and_false, false_and, not_true_eq_false, not_false_eq_true, Nat.reduceEqDiff, eq_self, Nat.reduceAdd, Nat.reduceMul, kC1, kG1, kP1, kR1_0, kR1_1, kR1_2, kR1_3, kR1_4, kR1_5, kR1_6, kR1_7, kR1_8, kR1_9, kR1_10, kR1_11, kR1_12, kR1_13, kC2, kG2, kP2, kR2_0, kR2_1, kC3, kG3, kP3, kR3_0, kR3_1, kR3_2, kR3_3, kL4, kA4, kS4, kL5, kA5, kS5, kL6, kA6, kS6, kL7, kA7, kS7, kC8, kG8, kP8, kR8_0, kR8_1, kL9, kA9, kS9, kL10, kA10, kS10, kC11, kG11, kP11, kR11_0, kR11_1, kR11_2, kR11_3, kL12, kA12, kS12, kL13, kA13, kS13, kL14, kA14, kS14, kL15, kA15, kS15, kC16, kG16, kP16, kR16_0, kR16_1, kL17, kA17, kS17, kL18, kA18, kS18, kC19, kG19, kP19, kR19_0, kL20, kL141, kL146, kA146, kS146, kL151, kA151, kS151, kL156, kA156, kS156, kC157, kG157, kP157, kR157_0, kR157_1, kL158, kA158, kS158, kL159, kA159, kS159, kC161, kG161, kP161, kR161_0, kR161_1, kL162, kA162, kS162, kL163, kA163, kS163, kC165, kG165, kP165, kR165_0, kR165_1, kR165_2, kR165_3, kL166, kA166, kS166, kL167, kA167, kS167, kL168, kA168, kS168, kL169, kA169, kS169, kC170, kG170, kP170, kR170_0, kR170_1, kR170_2, kL171, kA171, kS171, kL172, kA172, kS172, kL173, kA173, kS173, kC174, kG174, kP174, kR174_0, kR174_1, kR174_2, kR174_3, kR174_4, kL175, kA175, kS175, kL176, kA176, kS176, kL177, kA177, kS177, kL178, kA178, kS178, kL179, kC180, kG180, kP180, kL181, kL182, kA182, kS182, kC183, kG183, kP183, kR183_1, kR183_3, kR183_5, kR183_6, kR183_7, kR183_8, kR183_9, kR183_21, kR183_26, kR183_27, kR183_30, kR183_31, kR183_33, kR183_34, kR183_36, kR183_37, kR183_38, kR183_39, kR183_40, kR183_41, kR183_42, kR183_43, kR183_44, kL184, kA184, kS184, kL185, kA185, kS185, kL186, kA186, kS186, kL187, kA187, kS187, kL188, kA188, kS188, kL189, kL190, kL191, kA191, kS191, kL192, kA192, kS192, kL193, kA193, kS193, kL194, kA194, kS194, kL195, kA195, kS195, kL196, kA196, kS196, kL197, kA197, kS197, kL198, kA198, kS198, kL199, kA199, kS199, kL200, kA200, kS200, kL201, kL202, kA202, kS202, kL203, kA203, kS203, kL204, kA204, kS204, kL205, kL206, kA206, kS206, states12_ok hS hG2, nn_le, show ¬ (gSt g ≤ s) by omega, hvv, z0, q0, hq]
          rw [← nI_succ]
          by_cases h1 : s ≤ s0
          · rw [if_pos h1, if_pos (show (-1 : Int32) < 0 by decide)]
            by_cases h2 : s = s0
            · subst h2
              rw [if_pos hs1, if_neg (by omega), nb_lo hs2 _ (Nat.le_refl _)]
            · rw [if_neg (by rw [hs2 s (by omega)]; decide), if_pos (by omega)]
          · rw [if_neg h1, if_neg (show ¬ (s + 1 ≤ s0) by omega), if_neg (nI_pos (by omega)), nn_xor, nn_xor, bitsOf_ok (x16 s b (by omega) (by omega)), bitsOf_ok (x16 (nb (lE g F ((k : Int) - 144)) b s0 s) b (by omega) (by omega)), Option.bind_some, Option.bind_some]
            show _ = some (Sum.inl (nI (nb (lE g F ((k : Int) - 144)) b s0 (s + 1)), nI (s + 1)))
            rw [nb]
            by_cases he : lE g F ((k : Int) - 144) s = true
            · rw [if_pos he]
              by_cases hc : pC (s ^^^ b) < pC (nb (lE g F ((k : Int) - 144)) b s0 s ^^^ b)
              · rw [if_neg (by rw [nn_le (by omega) (by omega)]; omega), if_pos ⟨he, hc⟩]
              · rw [if_pos (by rw [nn_le (by omega) (by omega)]; omega), if_neg (fun z => hc z.2)]
            · rw [if_neg he, if_neg (fun z => he z.1)]
        · simp only [f_X12_nearest_b30]
          rw [if_neg (show ¬ (gSt g ≤ s0) by omega), ← hw]
          simp (disch := first | assumption | omega) only [Option.bind_some, Option.map_some, xw_gR, xw_gN, xw_al, xw_ck, xw_uI, xw_ur, xup_at, xur_at, if_true, if_false, reduceIte, and_true, true_and, and_false, false_and, not_true_eq_false, not_false_eq_true, Nat.reduceEqDiff, eq_self, Nat.reduceAdd, Nat.reduceMul, kC1, kG1, kP1, kR1_0, kR1_1, kR1_2, kR1_3, kR1_4, kR1_5, kR1_6, kR1_7, kR1_8, kR1_9, kR1_10, kR1_11, kR1_12, kR1_13, kC2, kG2, kP2, kR2_0, kR2_1, kC3, kG3, kP3, kR3_0, kR3_1, kR3_2, kR3_3, kL4, kA4, kS4, kL5, kA5, kS5, kL6, kA6, kS6, kL7, kA7, kS7, kC8, kG8, kP8, kR8_0, kR8_1, kL9, kA9, kS9, kL10, kA10, kS10, kC11, kG11, kP11, kR11_0, kR11_1, kR11_2, kR11_3, kL12, kA12, kS12, kL13, kA13, kS13, kL14, kA14, kS14, kL15, kA15, kS15, kC16, kG16, kP16, kR16_0, kR16_1, kL17, kA17, kS17, kL18, kA18, kS18, kC19, kG19, kP19, kR19_0, kL20, kL141, kL146, kA146, kS146, kL151, kA151, kS151, kL156, kA156, kS156, kC157, kG157, kP157, kR157_0, kR157_1, kL158, kA158, kS158, kL159, kA159, kS159, kC161, kG161, kP161, kR161_0, kR161_1, kL162, kA162, kS162, kL163, kA163, kS163, kC165, kG165, kP165, kR165_0, kR165_1, kR165_2, kR165_3, kL166, kA166, kS166, kL167, kA167, kS167, kL168, kA168, kS168, kL169, kA169, kS169, kC170, kG170, kP170, kR170_0, kR170_1, kR170_2, kL171, kA171, kS171, kL172, kA172, kS172, kL173, kA173, kS173, kC174, kG174, kP174, kR174_0, kR174_1, kR174_2, kR174_3, kR174_4, kL175, kA175, kS175, kL176, kA176, kS176, kL177, kA177, kS177, kL178, kA178, kS178, kL179, kC180, kG180, kP180, kL181, kL182, kA182, kS182, kC183, kG183, kP183, kR183_1, kR183_3, kR183_5, kR183_6, kR183_7, kR183_8, kR183_9, kR183_21, kR183_26, kR183_27, kR183_30, kR183_31, kR183_33, kR183_34, kR183_36, kR183_37, kR183_38, kR183_39, kR183_40, kR183_41, kR183_42, kR183_43, kR183_44, kL184, kA184, kS184, kL185, kA185, kS185, kL186, kA186, kS186, kL187, kA187, kS187, kL188, kA188, kS188, kL189, kL190, kL191, kA191, kS191, kL192, kA192, kS192, kL193, kA193, kS193, kL194, kA194, kS194, kL195, kA195, kS195, kL196, kA196, kS196, kL197, kA197, kS197, kL198, kA198, kS198, kL199, kA199, kS199, kL200, kA200, kS200, kL201, kL202, kA202, kS202, kL203, kA203, kS203, kL204, kA204, kS204, kL205, kL206, kA206, kS206, states12_ok hS hG2, nn_le, Nat.le_refl, nn_xor, bitsOf_ok hx2]
          rw [hr]
          split <;> rfl
    · refine ⟨-100000, σ, σ, ?_, ?_, g, gT, gP, st, H.nop⟩
      · show f_X11_nearest (xw σ (xI σ)) 1 (nI b) v = _
        unfold f_X11_nearest
        simp (disch := first | assumption | omega) only [Option.bind_some, Option.map_some, xw_gR, xw_gN, xw_al, xw_ck, xw_uI, xw_ur, xup_at, xur_at, if_true, if_false, reduceIte, and_true, true_and, and_false, false_and, not_true_eq_false, not_false_eq_true, Nat.reduceEqDiff, eq_self, Nat.reduceAdd, Nat.reduceMul, kC1, kG1, kP1, kR1_0, kR1_1, kR1_2, kR1_3, kR1_4, kR1_5, kR1_6, kR1_7, kR1_8, kR1_9, kR1_10, kR1_11, kR1_12, kR1_13, kC2, kG2, kP2, kR2_0, kR2_1, kC3, kG3, kP3, kR3_0, kR3_1, kR3_2, kR3_3, kL4, kA4, kS4, kL5, kA5, kS5, kL6, kA6, kS6, kL7, kA7, kS7, kC8, kG8, kP8, kR8_0, kR8_1, kL9, kA9, kS9, kL10, kA10, kS10, kC11, kG11, kP11, kR11_0, kR11_1, kR11_2, kR11_3, kL12, kA12, kS12, kL13, kA13, kS13, kL14, kA14, kS14, kL15, kA15, kS15, kC16, kG16, kP16, kR16_0, kR16_1, kL17, kA17, kS17, kL18, kA18, kS18, kC19, kG19, kP19, kR19_0, kL20, kL141, kL146, kA146, kS146, kL151, kA151, kS151, kL156, kA156, kS156, kC157, kG157, kP157, kR157_0, kR157_1, kL158, kA158, kS158, kL159, kA159, kS159, kC161, kG161, kP161, kR161_0, kR161_1, kL162, kA162, kS162, kL163, kA163, kS163, kC165, kG165, kP165, kR165_0, kR165_1, kR165_2, kR165_3, kL166, kA166, kS166, kL167, kA167, kS167, kL168, kA168, kS168, kL169, kA169, kS169, kC170, kG170, kP170, kR170_0, kR170_1, kR170_2, kL171, kA171, kS171, kL172, kA172, kS172, kL173, kA173, kS173, kC174, kG174, kP174, kR174_0, kR174_1, kR174_2, kR174_3, kR174_4, kL175, kA175, kS175, kL176, kA176, kS176, kL177, kA177, kS177, kL178, kA178, kS178, kL179, kC180, kG180, kP180, kL181, kL182, kA182, kS182, kC183, kG183, kP183, kR183_1, kR183_3, kR183_5, kR183_6, kR183_7, kR183_8, kR183_9, kR183_21, kR183_26, kR183_27, kR183_30, kR183_31, kR183_33, kR183_34, kR183_36, kR183_37, kR183_38, kR183_39, kR183_40, kR183_41, kR183_42, kR183_43, kR183_44, kL184, kA184, kS184, kL185, kA185, kS185, kL186, kA186, kS186, kL187, kA187, kS187, kL188, kA188, kS188, kL189, kL190, kL191, kA191, kS191, kL192, kA192, kS192, kL193, kA193, kS193, kL194, kA194, kS194, kL195, kA195, kS195, kL196, kA196, kS196, kL197, kA197, kS197, kL198, kA198, kS198, kL199, kA199, kS199, kL200, kA200, kS200, kL201, kL202, kA202, kS202, kL203, kA203, kS203, kL204, kA204, kS204, kL205, kL206, kA206, kS206, isLawful11_ok hS0 hG0 H.now.1, hb1, one0]
        by_cases v1 : v < 0
        · rw [if_pos v1]; rfl
        · have v2 : ¬ v ≤ 1 := by
            intro z
            obtain ⟨j, hj, rfl⟩ := nn_of v1
            rw [show (1 : Int32) = nI 1 from rfl, nn_le hj (by decide)] at z
            apply hv
            rcases (show j = 0 ∨ j = 1 by omega) with q | q
            · left; rw [q]; rfl
            · right; rw [q]; rfl
          rw [if_neg v1, if_neg v2]; rfl
      · show f_X12_nearest (xw σ (xI σ)) 183 (nI b) v = _
        unfold f_X12_nearest
        simp (disch := first | assumption | omega) only [Option.bind_some, Option.map_some, xw_gR, xw_gN, xw_al, xw_ck, xw_uI, xw_ur, xup_at, xur_at, if_true, if_false, reduceIte, and_true, true_and, and_false, false_and, not_true_eq_false, not_false_eq_true, Nat.reduceEqDiff, eq_self, Nat.reduceAdd, Nat.reduceMul, kC1, kG1, kP1, kR1_0, kR1_1, kR1_2, kR1_3, kR1_4, kR1_5, kR1_6, kR1_7, kR1_8, kR1_9, kR1_10, kR1_11, kR1_12, kR1_13, kC2, kG2, kP2, kR2_0, kR2_1, kC3, kG3, kP3, kR3_0, kR3_1, kR3_2, kR3_3, kL4, kA4, kS4, kL5, kA5, kS5, kL6, kA6, kS6, kL7, kA7, kS7, kC8, kG8, kP8, kR8_0, kR8_1, kL9, kA9, kS9, kL10, kA10, kS10, kC11, kG11, kP11, kR11_0, kR11_1, kR11_2, kR11_3, kL12, kA12, kS12, kL13, kA13, kS13, kL14, kA14, kS14, kL15, kA15, kS15, kC16, kG16, kP16, kR16_0, kR16_1, kL17, kA17, kS17, kL18, kA18, kS18, kC19, kG19, kP19, kR19_0, kL20, kL141, kL146, kA146, kS146, kL151, kA151, kS151, kL156, kA156, kS156, kC157, kG157, kP157, kR157_0, kR157_1, kL158, kA158, kS158, kL159, kA159, kS159, kC161, kG161, kP161, kR161_0, kR161_1, kL162, kA162, kS162, kL163, kA163, kS163, kC165, kG165, kP165, kR165_0, kR165_1, kR165_2, kR165_3, kL166, kA166, kS166, kL167, kA167, kS167, kL168, kA168, kS168, kL169, kA169, kS169, kC170, kG170, kP170, kR170_0, kR170_1, kR170_2, kL171, kA171, kS171, kL172, kA172, kS172, kL173, kA173, kS173, kC174, kG174, kP174, kR174_0, kR174_1, kR174_2, kR174_3, kR174_4, kL175, kA175, kS175, kL176, kA176, kS176, kL177, kA177, kS177, kL178, kA178, kS178, kL179, kC180, kG180, kP180, kL181, kL182, kA182, kS182, kC183, kG183, kP183, kR183_1, kR183_3, kR183_5, kR183_6, kR183_7, kR183_8, kR183_9, kR183_21, kR183_26, kR183_27, kR183_30, kR183_31, kR183_33, kR183_34, kR183_36, kR183_37, kR183_38, kR183_39, kR183_40, kR183_41, kR183_42, kR183_43, kR183_44, kL184, kA184, kS184, kL185, kA185, kS185, kL186, kA186, kS186, kL187, kA187, kS187, kL188, kA188, kS188, kL189, kL190, kL191, kA191, kS191, kL192, kA192, kS192, kL193, kA193, kS193, kL194, kA194, kS194, kL195, kA195, kS195, kL196, kA196, kS196, kL197, kA197, kS197, kL198, kA198, kS198, kL199, kA199, kS199, kL200, kA200, kS200, kL201, kL202, kA202, kS202, kL203, kA203, kS203, kL204, kA204, kS204, kL205, kL206, kA206, kS206, isLawful12_ok hS0 hG0 H.now.2.1, hb1, one0, in_01, hv]
        rfl
  · refine ⟨-100000, σ, σ, ?_, ?_, g, gT, gP, st, H.nop⟩
    · show f_X11_nearest (xw σ (xI σ)) 1 x v = _
      unfold f_X11_nearest
      simp (disch := first | assumption | omega) only [Option.bind_some, Option.map_some, xw_gR, xw_gN, xw_al, xw_ck, xw_uI, xw_ur, xup_at, xur_at, if_true, if_false, reduceIte, and_true, true_and, and_false, false_and, not_true_eq_false, not_false_eq_true, Nat.reduceEqDiff, eq_self, Nat.reduceAdd, Nat.reduceMul, kC1, kG1, kP1, kR1_0, kR1_1, kR1_2, kR1_3, kR1_4, kR1_5, kR1_6, kR1_7, kR1_8, kR1_9, kR1_10, kR1_11, kR1_12, kR1_13, kC2, kG2, kP2, kR2_0, kR2_1, kC3, kG3, kP3, kR3_0, kR3_1, kR3_2, kR3_3, kL4, kA4, kS4, kL5, kA5, kS5, kL6, kA6, kS6, kL7, kA7, kS7, kC8, kG8, kP8, kR8_0, kR8_1, kL9, kA9, kS9, kL10, kA10, kS10, kC11, kG11, kP11, kR11_0, kR11_1, kR11_2, kR11_3, kL12, kA12, kS12, kL13, kA13, kS13, kL14, kA14, kS14, kL15, kA15, kS15, kC16, kG16, kP16, kR16_0, kR16_1, kL17, kA17, kS17, kL18, kA18, kS18, kC19, kG19, kP19, kR19_0, kL20, kL141, kL146, kA146, kS146, kL151, kA151, kS151, kL156, kA156, kS156, kC157, kG157, kP157, kR157_0, kR157_1, kL158, kA158, kS158, kL159, kA159, kS159, kC161, kG161, kP161, kR161_0, kR161_1, kL162, kA162, kS162, kL163, kA163, kS163, kC165, kG165, kP165, kR165_0, kR165_1, kR165_2, kR165_3, kL166, kA166, kS166, kL167, kA167, kS167, kL168, kA168, kS168, kL169, kA169, kS169, kC170, kG170, kP170, kR170_0, kR170_1, kR170_2, kL171, kA171, kS171, kL172, kA172, kS172, kL173, kA173, kS173, kC174, kG174, kP174, kR174_0, kR174_1, kR174_2, kR174_3, kR174_4, kL175, kA175, kS175, kL176, kA176, kS176, kL177, kA177, kS177, kL178, kA178, kS178, kL179, kC180, kG180, kP180, kL181, kL182, kA182, kS182, kC183, kG183, kP183, kR183_1, kR183_3, kR183_5, kR183_6, kR183_7, kR183_8, kR183_9, kR183_21, kR183_26, kR183_27, kR183_30, kR183_31, kR183_33, kR183_34, kR183_36, kR183_37, kR183_38, kR183_39, kR183_40, kR183_41, kR183_42, kR183_43, kR183_44, kL184, kA184, kS184, kL185, kA185, kS185, kL186, kA186, kS186, kL187, kA187, kS187, kL188, kA188, kS188, kL189, kL190, kL191, kA191, kS191, kL192, kA192, kS192, kL193, kA193, kS193, kL194, kA194, kS194, kL195, kA195, kS195, kL196, kA196, kS196, kL197, kA197, kS197, kL198, kA198, kS198, kL199, kA199, kS199, kL200, kA200, kS200, kL201, kL202, kA202, kS202, kL203, kA203, kS203, kL204, kA204, kS204, kL205, kL206, kA206, kS206, isLawful11_ok hS0 hG0 H.now.1, hb1]
      rfl
    · show f_X12_nearest (xw σ (xI σ)) 183 x v = _
      unfold f_X12_nearest
      simp (disch := first | assumption | omega) only [Option.bind_some, Option.map_some, xw_gR, xw_gN, xw_al, xw_ck, xw_uI, xw_ur, xup_at, xur_at, if_true, if_false, reduceIte, and_true, true_and, and_false, false_and, not_true_eq_false, not_false_eq_true, Nat.reduceEqDiff, eq_self, Nat.reduceAdd, Nat.reduceMul, kC1, kG1, kP1, kR1_0, kR1_1, kR1_2, kR1_3, kR1_4, kR1_5, kR1_6, kR1_7, kR1_8, kR1_9, kR1_10, kR1_11, kR1_12, kR1_13, kC2, kG2, kP2, kR2_0, kR2_1, kC3, kG3, kP3, kR3_0, kR3_1, kR3_2, kR3_3, kL4, kA4, kS4, kL5, kA5, kS5, kL6, kA6, kS6, kL7, kA7, kS7, kC8, kG8, kP8, kR8_0, kR8_1, kL9, kA9, kS9, kL10, kA10, kS10, kC11, kG11, kP11, kR11_0, kR11_1, kR11_2, kR11_3, kL12, kA12, kS12, kL13, kA13, kS13, kL14, kA14, kS14, kL15, kA15, kS15, kC16, kG16, kP16, kR16_0, kR16_1, kL17, kA17, kS17, kL18, kA18, kS18, kC19, kG19, kP19, kR19_0, kL20, kL141, kL146, kA146, kS146, kL151, kA151, kS151, kL156, kA156, kS156, kC157, kG157, kP157, kR157_0, kR157_1, kL158, kA158, kS158, kL159, kA159, kS159, kC161, kG161, kP161, kR161_0, kR161_1, kL162, kA162, kS162, kL163, kA163, kS163, kC165, kG165, kP165, kR165_0, kR165_1, kR165_2, kR165_3, kL166, kA166, kS166, kL167, kA167, kS167, kL168, kA168, kS168, kL169, kA169, kS169, kC170, kG170, kP170, kR170_0, kR170_1, kR170_2, kL171, kA171, kS171, kL172, kA172, kS172, kL173, kA173, kS173, kC174, kG174, kP174, kR174_0, kR174_1, kR174_2, kR174_3, kR174_4, kL175, kA175, kS175, kL176, kA176, kS176, kL177, kA177, kS177, kL178, kA178, kS178, kL179, kC180, kG180, kP180, kL181, kL182, kA182, kS182, kC183, kG183, kP183, kR183_1, kR183_3, kR183_5, kR183_6, kR183_7, kR183_8, kR183_9, kR183_21, kR183_26, kR183_27, kR183_30, kR183_31, kR183_33, kR183_34, kR183_36, kR183_37, kR183_38, kR183_39, kR183_40, kR183_41, kR183_42, kR183_43, kR183_44, kL184, kA184, kS184, kL185, kA185, kS185, kL186, kA186, kS186, kL187, kA187, kS187, kL188, kA188, kS188, kL189, kL190, kL191, kA191, kS191, kL192, kA192, kS192, kL193, kA193, kS193, kL194, kA194, kS194, kL195, kA195, kS195, kL196, kA196, kS196, kL197, kA197, kS197, kL198, kA198, kS198, kL199, kA199, kS199, kL200, kA200, kS200, kL201, kL202, kA202, kS202, kL203, kA203, kS203, kL204, kA204, kS204, kL205, kL206, kA206, kS206, isLawful12_ok hS0 hG0 H.now.2.1, hb1]
      rfl
end
section
/-! the start, the room -/
set_option maxRecDepth 100000 in
theorem z0_a : xI hI0 1 15 = 0 ∧ xI hI0 3 4 = 0 ∧ xI hI0 183 2 = 0 ∧ xI hI0 1 14 = -1 ∧ xI hI0 183 16 = -1 ∧ xI hI0 11 4 = 0 ∧ xI hI0 11 5 = 0 ∧ xI hI0 11 6 = 0 ∧ xI hI0 11 7 = 0 ∧ xI hI0 183 17 = 0 ∧ xI hI0 183 18 = 0 ∧ xI hI0 183 19 = 0 ∧ xI hI0 183 20 = 0 ∧ xI hI0 19 1 = 0 ∧ xI hI0 19 2 = 0 ∧ xI hI0 183 28 = 0 ∧ xI hI0 183 29 = 0 ∧ xI hI0 157 5 = -1 ∧ xI hI0 165 5 = -1 ∧ xI hI0 170 3 = -1 ∧ xI hI0 174 10 = -1 ∧ xI hI0 183 32 = 0 := by decide +kernel
set_option maxRecDepth 100000 in
theorem z0_b : (∀ t, t < 32 → xI hI0 12 t = -1) ∧ (∀ t, t < 16 → xI hI0 15 t = 0) ∧ (∀ t, t < 32 → xI hI0 17 t = 0) ∧ (∀ t, t < 16 → xI hI0 18 t = 0) ∧ (∀ t, t < 8 → xI hI0 16 t = 0) ∧ (∀ t, t < 66 → xI hI0 191 t = 0) ∧ (∀ t, t < 16 → xI hI0 173 t = 0) ∧ ∀ i, i < 3 → xI hI0 (142 + 5 * i) 2 = 0 ∧ xI hI0 (142 + 5 * i) 3 = 0 ∧ xI hI0 195 i = 0 := by decide +kernel
set_option maxRecDepth 100000 in
theorem z0_c : xR hI0 157 4 = 160 ∧ xR hI0 161 4 = 164 ∧ hI0.1 160 = (20, 1) ∧ hI0.1 164 = (20, 1) := by decide +kernel
set_option maxRecDepth 100000 in
theorem z0_k : KY (xL hI0) := by unfold KY; decide +kernel
theorem g0_a : ((0, 0, 0) : GD) ∈ gAll ∧ (∀ t, t < 32 → gTo (0, 0, 0) t = none) ∧ ∀ i, i < 16 → (gMt (0, 0, 0) i).length = 0 := by decide +kernel
theorem IV_0 : IV 0 hI0 (0, 0, 0) (fun _ => ((0, 0, 0), fun _ => 0)) (fun _ => ((0, 0, 0), fun _ => 0)) 0 := by
  obtain ⟨a1, a2, a3, a4, a5, a6, a7, a8, a9, a10, a11, a12, a13, a14, a15, a16, a17, a18, a19, a20, a21, a22⟩ := z0_a
  obtain ⟨b1, b2, b3, b4, b5, b6, b8, b7⟩ := z0_b
  obtain ⟨c1, c2, c3, c4⟩ := z0_c
  obtain ⟨g1, g2, g3⟩ := g0_a
  have e0 : gSz (0, 0, 0) = 0 := rfl
  refine ⟨hI0_Shp, Nat.le_refl _, a1, ⟨0, by omega, a2, a3, fun k hk => by omega⟩, a4.trans a5.symm, ⟨g1, a6, a7, a8, a9, fun t ht => by rw [b1 t ht, g2 t ht]; rfl, fun i hi => by rw [b2 i hi, g3 i hi]; rfl, fun i j hi hj => by rw [g3 i hi] at hj; omega, a10, a11, a12, a13, b8⟩, ⟨⟨fun t ht => ?_, fun i hi => ?_, ⟨0, 0, b5 2 (by omega), b5 3 (by omega), fun i => ?_, fun i => ?_⟩, ?_, ?_⟩, ⟨fun k hk => ?_, fun i hi => ⟨.inl ?_, fun _ => ?_⟩, ⟨0, by decide, b6 64 (by omega), fun i hi => by rw [e0] at hi; omega⟩, ⟨0, by decide, b6 65 (by omega)⟩⟩, 0, 0, Nat.le_refl _, Nat.le_refl _, b5 6 (by omega), b5 7 (by omega), rfl, fun k hk => b6 k (by omega), rfl, fun k hk => b6 k (by omega)⟩, ⟨0, 0, 0, by omega, by omega, by omega, a14, a15, a16, a17, fun i hi => by omega⟩, fun i hi => ⟨0, 0, by decide, by decide, (b7 i hi).1, (b7 i hi).2.2, (b7 i hi).2.1, fun h => absurd h (by decide), fun h => absurd h (by decide)⟩, ⟨.inl a18, .inl a19, .inl a20, .inl a21⟩, .inl a22, ⟨0, 0, by omega, by omega, by rw [c1, c3], by rw [c2, c4], .inl c1, .inl c2, by rw [c1, c2]; decide, by rw [c1, hI0_n]; decide, by rw [c2, hI0_n]; decide, by rw [hI0_n]; omega, by rw [hI0_z]; omega, z0_k⟩⟩
  · show xI hI0 17 t = _
    rw [b3 t ht, g2 t ht]; rfl
  · show xI hI0 18 i = _
    rw [b4 i hi, e0]; rfl
  · rw [Nat.zero_testBit, e0]; simp
  · rw [Nat.zero_testBit, e0]; simp
  · rw [b5 4 (by omega), b6 64 (by omega)]
  · rw [b5 5 (by omega), b6 65 (by omega)]
  · rw [b6 k (by omega)]; decide
  · exact b6 (48 + i) (by omega)
  · exact b6 (48 + i) (by omega)
theorem INV_0 : ∃ σ, INV 0 σ ∧ ∀ L xs, f_L_law L xs xs0 = xloop (f_L_law_b18 L xs 1 183) (0, σ) := ⟨hI0, INV_i IV_0, fun L xs => law_init L xs⟩
theorem INV_room : ∀ n σ, INV n σ → xn σ ≤ 600000 ∧ xz σ ≤ 7302250 := by
  rintro n σ ⟨g, gT, gP, st, H⟩
  obtain ⟨a, b, h1, h2, -, -, -, -, -, -, -, h10, h11⟩ := H.cel
  omega
theorem INV_T : ∀ n σ, INV n σ → xT σ 1 = 11 ∧ xT σ 183 = 12 := fun n σ ⟨g, gT, gP, st, H⟩ => ⟨sT1 H.shp, sT183 H.shp⟩
theorem INV_n : ∀ n σ, INV n σ → 183 ≤ xn σ := fun n σ ⟨g, gT, gP, st, H⟩ => Nat.le_trans (by decide) H.shp.1
end
section
/-! the fall -/
def fs (g : GD) (F : Nat → Int32) (s : Nat) : Nat → Nat
  | 0 => s
  | j + 1 => match (sp g F (fs g F s j) (gSz g)).2 with
    | none => fs g F s j
    | some i => fs g F s j ^^^ 2 ^ i
theorem fs_s {g : GD} {F : Nat → Int32} {s j i : Nat} (h : (sp g F (fs g F s j) (gSz g)).2 = some i) : fs g F s (j + 1) = fs g F s j ^^^ 2 ^ i := by
  rw [fs, h]
theorem fs_l {g : GD} {F : Nat → Int32} {s : Nat} (hs : s < gSt g) (hl : lW g F s = true) : ∀ j, fs g F s j < gSt g ∧ lW g F (fs g F s j) = true
  | 0 => ⟨hs, hl⟩
  | j + 1 => by
    have ih := fs_l hs hl j
    rw [fs]
    cases h : (sp g F (fs g F s j) (gSz g)).2 with
    | none => exact ih
    | some i =>
      have q := (sp_some g F (fs g F s j) (gSz g)).2 i h
      refine ⟨gSt_flip ih.1 q.1, ?_⟩
      show lW g F (fs g F s j ^^^ 2 ^ i) = true
      rw [lW_flip q.1 ih.2]
      exact decide_eq_true q.2.1
/-- where the fall ends, how many turns it takes -/
theorem fs_end {g : GD} (hg : g ∈ gAll) {F : Nat → Int32} (ho : RO g F) {s : Nat} : ∃ M, M ≤ 288 ∧ (sp g F (fs g F s M) (gSz g)).2 = none ∧ ∀ j, j < M → (sp g F (fs g F s j) (gSz g)).2 ≠ none := by
  have dec : ∀ m, (∀ j, j < m → (sp g F (fs g F s j) (gSz g)).2 ≠ none) → eE g (zR F) (fs g F s m) ≤ eE g (zR F) s - (m : Int) := by
    intro m
    induction m with
    | zero => intro _; show eE g (zR F) s ≤ _; omega
    | succ m ih =>
      intro h
      have h1 := ih (fun j hj => h j (by omega))
      obtain ⟨i, hi⟩ := Option.ne_none_iff_exists'.mp (h m (by omega))
      have q := (sp_some g F (fs g F s m) (gSz g)).2 i hi
      rw [fs_s hi, eE_flip hg _ q.1]
      omega
  have ex : ∃ j, j < 289 ∧ (sp g F (fs g F s j) (gSz g)).2 = none := by
    apply Classical.byContradiction
    intro hn
    have h : ∀ j, j < 289 → (sp g F (fs g F s j) (gSz g)).2 ≠ none := fun j hj hz => hn ⟨j, hj, hz⟩
    have h1 := dec 289 h
    have h2 := eE_b hg ho s
    have h3 := eE_b hg ho (fs g F s 289)
    omega
  obtain ⟨M, h1, h2, h3⟩ := fb_first (p := fun j => (sp g F (fs g F s j) (gSz g)).2 = none) ex
  exact ⟨M, by omega, h2, h3⟩
section FALL
variable {σ : XS} {J : Nat → Nat → Int32} {g : GD} {F : Nat → Int32}
theorem steep11_ok (hS : Shp σ) (hG : GRD J g) (ho : RO g F) (hSR : SR g J 16 F) {s : Nat} (hs : s < 2147483648) : f_X3_steepest (xw σ J) 11 16 (nI s) = some (oI (sp g F s (gSz g)).2) := by
  have hg := hG.1
  have h16 := (gAll_b g hg).2.2.1
  obtain ⟨-, -, ⟨p, u, e3, e4, e5, e6⟩, -, -⟩ := id hSR
  have hp : p < 65536 := Nat.lt_pow_two_of_testBit (n := 16) p (fun j hj => by rw [e5]; simp; omega)
  unfold f_X3_steepest
  refine xforE (fun i : Nat => (oI (sp g F s i).2, iI (sp g F s i).1, nI i)) (gSz g) rfl (fun i hi => ?_) ?_
  · simp only [f_X3_steepest_b8]
    have hlb := sp_lb hg ho s i (by omega)
    have hle := (sp_le g F s i).1
    have hcb := sp_b hg ho s hi
    have hq : (iI (sp g F s i).1 ≤ iI (eC g (zR F) s i)) = ((sp g F s i).1 ≤ eC g (zR F) s i) := iI_le (by omega) (by omega) (by omega) (by omega)
    simp (disch := first | assumption | omega) only [Option.bind_some, Option.map_some, xw_gR, xw_gN, xw_al, xw_ck, xw_uI, xw_ur, xup_at, xur_at, if_true, if_false, reduceIte, and_true, true_and, and_false, false_and, not_true_eq_false, not_false_eq_true, Nat.reduceEqDiff, eq_self, Nat.reduceAdd, Nat.reduceMul, kC1, kG1, kP1, kR1_0, kR1_1, kR1_2, kR1_3, kR1_4, kR1_5, kR1_6, kR1_7, kR1_8, kR1_9, kR1_10, kR1_11, kR1_12, kR1_13, kC2, kG2, kP2, kR2_0, kR2_1, kC3, kG3, kP3, kR3_0, kR3_1, kR3_2, kR3_3, kL4, kA4, kS4, kL5, kA5, kS5, kL6, kA6, kS6, kL7, kA7, kS7, kC8, kG8, kP8, kR8_0, kR8_1, kL9, kA9, kS9, kL10, kA10, kS10, kC11, kG11, kP11, kR11_0, kR11_1, kR11_2, kR11_3, kL12, kA12, kS12, kL13, kA13, kS13, kL14, kA14, kS14, kL15, kA15, kS15, kC16, kG16, kP16, kR16_0, kR16_1, kL17, kA17, kS17, kL18, kA18, kS18, kC19, kG19, kP19, kR19_0, kL20, kL141, kL146, kA146, kS146, kL151, kA151, kS151, kL156, kA156, kS156, kC157, kG157, kP157, kR157_0, kR157_1, kL158, kA158, kS158, kL159, kA159, kS159, kC161, kG161, kP161, kR161_0, kR161_1, kL162, kA162, kS162, kL163, kA163, kS163, kC165, kG165, kP165, kR165_0, kR165_1, kR165_2, kR165_3, kL166, kA166, kS166, kL167, kA167, kS167, kL168, kA168, kS168, kL169, kA169, kS169, kC170, kG170, kP170, kR170_0, kR170_1, kR170_2, kL171, kA171, kS171, kL172, kA172, kS172, kL173, kA173, kS173, kC174, kG174, kP174, kR174_0, kR174_1, kR174_2, kR174_3, kR174_4, kL175, kA175, kS175, kL176, kA176, kS176, kL177, kA177, kS177, kL178, kA178, kS178, kL179, kC180, kG180, kP180, kL181, kL182, kA182, kS182, kC183, kG183, kP183, kR183_1, kR183_3, kR183_5, kR183_6, kR183_7, kR183_8, kR183_9, kR183_21, kR183_26, kR183_27, kR183_30, kR183_31, kR183_33, kR183_34, kR183_36, kR183_37, kR183_38, kR183_39, kR183_40, kR183_41, kR183_42, kR183_43, kR183_44, kL184, kA184, kS184, kL185, kA185, kS185, kL186, kA186, kS186, kL187, kA187, kS187, kL188, kA188, kS188, kL189, kL190, kL191, kA191, kS191, kL192, kA192, kS192, kL193, kA193, kS193, kL194, kA194, kS194, kL195, kA195, kS195, kL196, kA196, kS196, kL197, kA197, kS197, kL198, kA198, kS198, kL199, kA199, kS199, kL200, kA200, kS200, kL201, kL202, kA202, kS202, kL203, kA203, kS203, kL204, kA204, kS204, kL205, kL206, kA206, kS206, hG.2.2.2.2.1, nn_le, show ¬ (gSz g ≤ i) by omega, cost_ok hS hG suA_16 hSR hs hi, hq, isPinned_ok hS suA_16 e3 hp (show i < 32 by omega), bI_0]
    rw [← nI_succ]
    show _ = some (Sum.inl (oI (sp g F s (i + 1)).2, iI (sp g F s (i + 1)).1, nI (i + 1)))
    rw [sp]
    have hpb : (p.testBit i = false) = (F (48 + i) = 0) := by rw [e5]; simp [hi]
    simp only [hpb]
    by_cases h1 : (sp g F s i).1 ≤ eC g (zR F) s i
    · rw [if_pos h1, if_neg (fun z => by omega)]
    · rw [if_neg h1]
      by_cases h2 : F (48 + i) = 0
      · rw [if_pos h2, if_pos ⟨h2, by omega⟩]; rfl
      · rw [if_neg h2, if_neg (fun z => h2 z.1)]
  · simp only [f_X3_steepest_b8]
    simp (disch := first | assumption | omega) only [Option.bind_some, Option.map_some, xw_gR, xw_gN, xw_al, xw_ck, xw_uI, xw_ur, xup_at, xur_at, if_true, if_false, reduceIte, and_true, true_and, and_false, false_and, not_true_eq_false, not_false_eq_true, Nat.reduceEqDiff, eq_self, Nat.reduceAdd, Nat.reduceMul, kC1, kG1, kP1, kR1_0, kR1_1, kR1_2, kR1_3, kR1_4, kR1_5, kR1_6, kR1_7, kR1_8, kR1_9, kR1_10, kR1_11, kR1_12, kR1_13, kC2, kG2, kP2, kR2_0, kR2_1, kC3, kG3, kP3, kR3_0, kR3_1, kR3_2, kR3_3, kL4, kA4, kS4, kL5, kA5, kS5, kL6, kA6, kS6, kL7, kA7, kS7, kC8, kG8, kP8, kR8_0, kR8_1, kL9, kA9, kS9, kL10, kA10, kS10, kC11, kG11, kP11, kR11_0, kR11_1, kR11_2, kR11_3, kL12, kA12, kS12, kL13, kA13, kS13, kL14, kA14, kS14, kL15, kA15, kS15, kC16, kG16, kP16, kR16_0, kR16_1, kL17, kA17, kS17, kL18, kA18, kS18, kC19, kG19, kP19, kR19_0, kL20, kL141, kL146, kA146, kS146, kL151, kA151, kS151, kL156, kA156, kS156, kC157, kG157, kP157, kR157_0, kR157_1, kL158, kA158, kS158, kL159, kA159, kS159, kC161, kG161, kP161, kR161_0, kR161_1, kL162, kA162, kS162, kL163, kA163, kS163, kC165, kG165, kP165, kR165_0, kR165_1, kR165_2, kR165_3, kL166, kA166, kS166, kL167, kA167, kS167, kL168, kA168, kS168, kL169, kA169, kS169, kC170, kG170, kP170, kR170_0, kR170_1, kR170_2, kL171, kA171, kS171, kL172, kA172, kS172, kL173, kA173, kS173, kC174, kG174, kP174, kR174_0, kR174_1, kR174_2, kR174_3, kR174_4, kL175, kA175, kS175, kL176, kA176, kS176, kL177, kA177, kS177, kL178, kA178, kS178, kL179, kC180, kG180, kP180, kL181, kL182, kA182, kS182, kC183, kG183, kP183, kR183_1, kR183_3, kR183_5, kR183_6, kR183_7, kR183_8, kR183_9, kR183_21, kR183_26, kR183_27, kR183_30, kR183_31, kR183_33, kR183_34, kR183_36, kR183_37, kR183_38, kR183_39, kR183_40, kR183_41, kR183_42, kR183_43, kR183_44, kL184, kA184, kS184, kL185, kA185, kS185, kL186, kA186, kS186, kL187, kA187, kS187, kL188, kA188, kS188, kL189, kL190, kL191, kA191, kS191, kL192, kA192, kS192, kL193, kA193, kS193, kL194, kA194, kS194, kL195, kA195, kS195, kL196, kA196, kS196, kL197, kA197, kS197, kL198, kA198, kS198, kL199, kA199, kS199, kL200, kA200, kS200, kL201, kL202, kA202, kS202, kL203, kA203, kS203, kL204, kA204, kS204, kL205, kL206, kA206, kS206, hG.2.2.2.2.1, nn_le, Nat.le_refl]
theorem spS {s i : Nat} (hg : g ∈ gAll) (h : (sp g F s (gSz g)).2 = some i) : i < 16 := by
  have h16 := (gAll_b g hg).2.2.1
  have := ((sp_some g F s (gSz g)).2 i h).1
  omega
def flI (I : Nat → Nat → Int32) (b t : Nat) : Nat → Nat → Int32 := xup (xup I 180 0 (nI b)) 180 1 (nI t)
theorem flI_out {I : Nat → Nat → Int32} {b t a k : Nat} (h : a ≠ 180) : flI I b t a k = I a k := by
  unfold flI
  rw [xup_at, if_neg (by omega), xup_at, if_neg (by omega)]
theorem flI_s {I : Nat → Nat → Int32} {b t b' t' : Nat} : xup (xup (flI I b t) 180 0 (nI b')) 180 1 (nI t') = flI I b' t' := by
  funext a k
  unfold flI
  simp only [xup_at]
  by_cases h : a = 180
  · subst h
    by_cases h0 : k = 0
    · simp [h0]
    · by_cases h1 : k = 1
      · simp [h1]
      · simp [h0, h1]
  · simp [h]
theorem fall11_ok (hS : Shp σ) (hG : GRD J g) (ho : RO g F) (hSR : SR g J 16 F) {s M : Nat} (hs : s < gSt g) (hl : lW g F s = true) (hM : M ≤ 288) (h1 : (sp g F (fs g F s M) (gSz g)).2 = none) (h2 : ∀ j, j < M → (sp g F (fs g F s j) (gSz g)).2 ≠ none) :
    f_X10_fallFrom (xw σ J) 180 11 16 (nI s) = some (xw σ (flI J (fs g F s M) M)) := by
  have hg := hG.1
  have hSt := (gSt_b hg).1
  have hf := fs_l (g := g) (F := F) hs hl
  have hGf : ∀ b t, GRD (flI J b t) g := fun b t => GRD_c (fun a k z => flI_out (by unfold sGRD at z; omega)) hG
  have hSf : ∀ b t, SR g (flI J b t) 16 F := fun b t => SR_m hg (fun k _ _ => flI_out (by omega)) (fun k _ => flI_out (by omega)) (fun k _ => flI_out (by omega)) (fun k _ => rfl) hSR
  have st : ∀ j b t, f_X3_steepest (xw σ (flI J b t)) 11 16 (nI (fs g F s j)) = some (oI (sp g F (fs g F s j) (gSz g)).2) := fun j b t => steep11_ok hS (hGf b t) ho (hSf b t) (by have := (hf j).1; omega)
  unfold f_X10_fallFrom
  have e0 : xup (xup J 180 0 (nI s)) 180 1 0 = flI J s 0 := rfl
  have e00 : flI J s 0 180 0 = nI (fs g F s 0) := by unfold flI; simp [xup_at]; rfl
  simp (disch := first | assumption | omega) only [Option.bind_some, Option.map_some, xw_gR, xw_gN, xw_al, xw_ck, xw_uI, xw_ur, xup_at, xur_at, if_true, if_false, reduceIte, and_true, true_and, and_false, false_and, not_true_eq_false, not_false_eq_true, Nat.reduceEqDiff, eq_self, Nat.reduceAdd, Nat.reduceMul, kC1, kG1, kP1, kR1_0, kR1_1, kR1_2, kR1_3, kR1_4, kR1_5, kR1_6, kR1_7, kR1_8, kR1_9, kR1_10, kR1_11, kR1_12, kR1_13, kC2, kG2, kP2, kR2_0, kR2_1, kC3, kG3, kP3, kR3_0, kR3_1, kR3_2, kR3_3, kL4, kA4, kS4, kL5, kA5, kS5, kL6, kA6, kS6, kL7, kA7, kS7, kC8, kG8, kP8, kR8_0, kR8_1, kL9, kA9, kS9, kL10, kA10, kS10, kC11, kG11, kP11, kR11_0, kR11_1, kR11_2, kR11_3, kL12, kA12, kS12, kL13, kA13, kS13, kL14, kA14, kS14, kL15, kA15, kS15, kC16, kG16, kP16, kR16_0, kR16_1, kL17, kA17, kS17, kL18, kA18, kS18, kC19, kG19, kP19, kR19_0, kL20, kL141, kL146, kA146, kS146, kL151, kA151, kS151, kL156, kA156, kS156, kC157, kG157, kP157, kR157_0, kR157_1, kL158, kA158, kS158, kL159, kA159, kS159, kC161, kG161, kP161, kR161_0, kR161_1, kL162, kA162, kS162, kL163, kA163, kS163, kC165, kG165, kP165, kR165_0, kR165_1, kR165_2, kR165_3, kL166, kA166, kS166, kL167, kA167, kS167, kL168, kA168, kS168, kL169, kA169, kS169, kC170, kG170, kP170, kR170_0, kR170_1, kR170_2, kL171, kA171, kS171, kL172, kA172, kS172, kL173, kA173, kS173, kC174, kG174, kP174, kR174_0, kR174_1, kR174_2, kR174_3, kR174_4, kL175, kA175, kS175, kL176, kA176, kS176, kL177, kA177, kS177, kL178, kA178, kS178, kL179, kC180, kG180, kP180, kL181, kL182, kA182, kS182, kC183, kG183, kP183, kR183_1, kR183_3, kR183_5, kR183_6, kR183_7, kR183_8, kR183_9, kR183_21, kR183_26, kR183_27, kR183_30, kR183_31, kR183_33, kR183_34, kR183_36, kR183_37, kR183_38, kR183_39, kR183_40, kR183_41, kR183_42, kR183_43, kR183_44, kL184, kA184, kS184, kL185, kA185, kS185, kL186, kA186, kS186, kL187, kA187, kS187, kL188, kA188, kS188, kL189, kL190, kL191, kA191, kS191, kL192, kA192, kS192, kL193, kA193, kS193, kL194, kA194, kS194, kL195, kA195, kS195, kL196, kA196, kS196, kL197, kA197, kS197, kL198, kA198, kS198, kL199, kA199, kS199, kL200, kA200, kS200, kL201, kL202, kA202, kS202, kL203, kA203, kS203, kL204, kA204, kS204, kL205, kL206, kA206, kS206, e0, e00]
  rw [st 0 s 0, Option.bind_some]
  refine xforE (fun j : Nat => (oI (sp g F (fs g F s j) (gSz g)).2, nI j, xw σ (flI J (fs g F s j) j))) M rfl (fun j hj => ?_) ?_
  · obtain ⟨i, hi⟩ := Option.ne_none_iff_exists'.mp (h2 j hj)
    have hi16 := spS hg hi
    simp only [f_X10_fallFrom_b24, hi, oI]
    rw [if_neg (by rw [show (289 : Int32) = nI 289 from rfl, nn_le (by omega) (by omega)]; omega), if_neg (by rw [nn_m1 (by omega)]; exact id)]
    have v0 : flI J (fs g F s j) j 180 0 = nI (fs g F s j) := by unfold flI; simp [xup_at]
    have v1 : flI J (fs g F s j) j 180 1 = nI j := by unfold flI; simp [xup_at]
    simp (disch := first | assumption | omega) only [Option.bind_some, Option.map_some, xw_gR, xw_gN, xw_al, xw_ck, xw_uI, xw_ur, xup_at, xur_at, if_true, if_false, reduceIte, and_true, true_and, and_false, false_and, not_true_eq_false, not_false_eq_true, Nat.reduceEqDiff, eq_self, Nat.reduceAdd, Nat.reduceMul, kC1, kG1, kP1, kR1_0, kR1_1, kR1_2, kR1_3, kR1_4, kR1_5, kR1_6, kR1_7, kR1_8, kR1_9, kR1_10, kR1_11, kR1_12, kR1_13, kC2, kG2, kP2, kR2_0, kR2_1, kC3, kG3, kP3, kR3_0, kR3_1, kR3_2, kR3_3, kL4, kA4, kS4, kL5, kA5, kS5, kL6, kA6, kS6, kL7, kA7, kS7, kC8, kG8, kP8, kR8_0, kR8_1, kL9, kA9, kS9, kL10, kA10, kS10, kC11, kG11, kP11, kR11_0, kR11_1, kR11_2, kR11_3, kL12, kA12, kS12, kL13, kA13, kS13, kL14, kA14, kS14, kL15, kA15, kS15, kC16, kG16, kP16, kR16_0, kR16_1, kL17, kA17, kS17, kL18, kA18, kS18, kC19, kG19, kP19, kR19_0, kL20, kL141, kL146, kA146, kS146, kL151, kA151, kS151, kL156, kA156, kS156, kC157, kG157, kP157, kR157_0, kR157_1, kL158, kA158, kS158, kL159, kA159, kS159, kC161, kG161, kP161, kR161_0, kR161_1, kL162, kA162, kS162, kL163, kA163, kS163, kC165, kG165, kP165, kR165_0, kR165_1, kR165_2, kR165_3, kL166, kA166, kS166, kL167, kA167, kS167, kL168, kA168, kS168, kL169, kA169, kS169, kC170, kG170, kP170, kR170_0, kR170_1, kR170_2, kL171, kA171, kS171, kL172, kA172, kS172, kL173, kA173, kS173, kC174, kG174, kP174, kR174_0, kR174_1, kR174_2, kR174_3, kR174_4, kL175, kA175, kS175, kL176, kA176, kS176, kL177, kA177, kS177, kL178, kA178, kS178, kL179, kC180, kG180, kP180, kL181, kL182, kA182, kS182, kC183, kG183, kP183, kR183_1, kR183_3, kR183_5, kR183_6, kR183_7, kR183_8, kR183_9, kR183_21, kR183_26, kR183_27, kR183_30, kR183_31, kR183_33, kR183_34, kR183_36, kR183_37, kR183_38, kR183_39, kR183_40, kR183_41, kR183_42, kR183_43, kR183_44, kL184, kA184, kS184, kL185, kA185, kS185, kL186, kA186, kS186, kL187, kA187, kS187, kL188, kA188, kS188, kL189, kL190, kL191, kA191, kS191, kL192, kA192, kS192, kL193, kA193, kS193, kL194, kA194, kS194, kL195, kA195, kS195, kL196, kA196, kS196, kL197, kA197, kS197, kL198, kA198, kS198, kL199, kA199, kS199, kL200, kA200, kS200, kL201, kL202, kA202, kS202, kL203, kA203, kS203, kL204, kA204, kS204, kL205, kL206, kA206, kS206, v0, v1, nn_one, nn_xor, ← nI_succ, flI_s]
    have := st (j + 1) (fs g F s (j + 1)) (j + 1)
    rw [fs_s hi] at this
    rw [this, Option.bind_some, ← fs_s hi]
    rfl
  · simp only [f_X10_fallFrom_b24, h1, oI]
    rw [if_neg (by rw [show (289 : Int32) = nI 289 from rfl, nn_le (by omega) (by omega)]; omega), if_pos trivial]
    rfl
theorem fallEnd_ok (hS : Shp σ) (hG : GRD J g) (ho : RO g F) (hK : KNK J g F) {s M : Nat} (hs : s < gSt g) (hl : lW g F s = true) (h1 : (sp g F (fs g F s M) (gSz g)).2 = none) (h2 : ∀ j, j < M → (sp g F (fs g F s j) (gSz g)).2 ≠ none) : f_X12_fallEnd (xw σ J) 183 (nI s) = some (nI (fs g F s M)) := by
  have hg := hG.1
  have hSt := (gSt_b hg).1
  have hf := fs_l (g := g) (F := F) hs hl
  have st : ∀ j, f_X12_steepest (xw σ J) 183 (nI (fs g F s j)) = some (oI (sp g F (fs g F s j) (gSz g)).2) := fun j => steep12_ok hS hG ho hK (hf j).1 (hf j).2
  unfold f_X12_fallEnd
  rw [show nI s = nI (fs g F s 0) from rfl]
  simp (disch := first | assumption | omega) only [Option.bind_some, Option.map_some, xw_gR, xw_gN, xw_al, xw_ck, xw_uI, xw_ur, xup_at, xur_at, if_true, if_false, reduceIte, and_true, true_and, and_false, false_and, not_true_eq_false, not_false_eq_true, Nat.reduceEqDiff, eq_self, Nat.reduceAdd, Nat.reduceMul, kC1, kG1, kP1, kR1_0, kR1_1, kR1_2, kR1_3, kR1_4, kR1_5, kR1_6, kR1_7, kR1_8, kR1_9, kR1_10, kR1_11, kR1_12, kR1_13, kC2, kG2, kP2, kR2_0, kR2_1, kC3, kG3, kP3, kR3_0, kR3_1, kR3_2, kR3_3, kL4, kA4, kS4, kL5, kA5, kS5, kL6, kA6, kS6, kL7, kA7, kS7, kC8, kG8, kP8, kR8_0, kR8_1, kL9, kA9, kS9, kL10, kA10, kS10, kC11, kG11, kP11, kR11_0, kR11_1, kR11_2, kR11_3, kL12, kA12, kS12, kL13, kA13, kS13, kL14, kA14, kS14, kL15, kA15, kS15, kC16, kG16, kP16, kR16_0, kR16_1, kL17, kA17, kS17, kL18, kA18, kS18, kC19, kG19, kP19, kR19_0, kL20, kL141, kL146, kA146, kS146, kL151, kA151, kS151, kL156, kA156, kS156, kC157, kG157, kP157, kR157_0, kR157_1, kL158, kA158, kS158, kL159, kA159, kS159, kC161, kG161, kP161, kR161_0, kR161_1, kL162, kA162, kS162, kL163, kA163, kS163, kC165, kG165, kP165, kR165_0, kR165_1, kR165_2, kR165_3, kL166, kA166, kS166, kL167, kA167, kS167, kL168, kA168, kS168, kL169, kA169, kS169, kC170, kG170, kP170, kR170_0, kR170_1, kR170_2, kL171, kA171, kS171, kL172, kA172, kS172, kL173, kA173, kS173, kC174, kG174, kP174, kR174_0, kR174_1, kR174_2, kR174_3, kR174_4, kL175, kA175, kS175, kL176, kA176, kS176, kL177, kA177, kS177, kL178, kA178, kS178, kL179, kC180, kG180, kP180, kL181, kL182, kA182, kS182, kC183, kG183, kP183, kR183_1, kR183_3, kR183_5, kR183_6, kR183_7, kR183_8, kR183_9, kR183_21, kR183_26, kR183_27, kR183_30, kR183_31, kR183_33, kR183_34, kR183_36, kR183_37, kR183_38, kR183_39, kR183_40, kR183_41, kR183_42, kR183_43, kR183_44, kL184, kA184, kS184, kL185, kA185, kS185, kL186, kA186, kS186, kL187, kA187, kS187, kL188, kA188, kS188, kL189, kL190, kL191, kA191, kS191, kL192, kA192, kS192, kL193, kA193, kS193, kL194, kA194, kS194, kL195, kA195, kS195, kL196, kA196, kS196, kL197, kA197, kS197, kL198, kA198, kS198, kL199, kA199, kS199, kL200, kA200, kS200, kL201, kL202, kA202, kS202, kL203, kA203, kS203, kL204, kA204, kS204, kL205, kL206, kA206, kS206, st 0]
  refine xforE (fun j : Nat => (nI (fs g F s j), oI (sp g F (fs g F s j) (gSz g)).2)) M rfl (fun j hj => ?_) ?_
  · obtain ⟨i, hi⟩ := Option.ne_none_iff_exists'.mp (h2 j hj)
    have hi16 := spS hg hi
    simp only [f_X12_fallEnd_b8, hi, oI]
    rw [if_neg (nI_pos (by omega)), nn_one (by omega), nn_xor, ← fs_s hi]
    simp (disch := first | assumption | omega) only [Option.bind_some, Option.map_some, xw_gR, xw_gN, xw_al, xw_ck, xw_uI, xw_ur, xup_at, xur_at, if_true, if_false, reduceIte, and_true, true_and, and_false, false_and, not_true_eq_false, not_false_eq_true, Nat.reduceEqDiff, eq_self, Nat.reduceAdd, Nat.reduceMul, kC1, kG1, kP1, kR1_0, kR1_1, kR1_2, kR1_3, kR1_4, kR1_5, kR1_6, kR1_7, kR1_8, kR1_9, kR1_10, kR1_11, kR1_12, kR1_13, kC2, kG2, kP2, kR2_0, kR2_1, kC3, kG3, kP3, kR3_0, kR3_1, kR3_2, kR3_3, kL4, kA4, kS4, kL5, kA5, kS5, kL6, kA6, kS6, kL7, kA7, kS7, kC8, kG8, kP8, kR8_0, kR8_1, kL9, kA9, kS9, kL10, kA10, kS10, kC11, kG11, kP11, kR11_0, kR11_1, kR11_2, kR11_3, kL12, kA12, kS12, kL13, kA13, kS13, kL14, kA14, kS14, kL15, kA15, kS15, kC16, kG16, kP16, kR16_0, kR16_1, kL17, kA17, kS17, kL18, kA18, kS18, kC19, kG19, kP19, kR19_0, kL20, kL141, kL146, kA146, kS146, kL151, kA151, kS151, kL156, kA156, kS156, kC157, kG157, kP157, kR157_0, kR157_1, kL158, kA158, kS158, kL159, kA159, kS159, kC161, kG161, kP161, kR161_0, kR161_1, kL162, kA162, kS162, kL163, kA163, kS163, kC165, kG165, kP165, kR165_0, kR165_1, kR165_2, kR165_3, kL166, kA166, kS166, kL167, kA167, kS167, kL168, kA168, kS168, kL169, kA169, kS169, kC170, kG170, kP170, kR170_0, kR170_1, kR170_2, kL171, kA171, kS171, kL172, kA172, kS172, kL173, kA173, kS173, kC174, kG174, kP174, kR174_0, kR174_1, kR174_2, kR174_3, kR174_4, kL175, kA175, kS175, kL176, kA176, kS176, kL177, kA177, kS177, kL178, kA178, kS178, kL179, kC180, kG180, kP180, kL181, kL182, kA182, kS182, kC183, kG183, kP183, kR183_1, kR183_3, kR183_5, kR183_6, kR183_7, kR183_8, kR183_9, kR183_21, kR183_26, kR183_27, kR183_30, kR183_31, kR183_33, kR183_34, kR183_36, kR183_37, kR183_38, kR183_39, kR183_40, kR183_41, kR183_42, kR183_43, kR183_44, kL184, kA184, kS184, kL185, kA185, kS185, kL186, kA186, kS186, kL187, kA187, kS187, kL188, kA188, kS188, kL189, kL190, kL191, kA191, kS191, kL192, kA192, kS192, kL193, kA193, kS193, kL194, kA194, kS194, kL195, kA195, kS195, kL196, kA196, kS196, kL197, kA197, kS197, kL198, kA198, kS198, kL199, kA199, kS199, kL200, kA200, kS200, kL201, kL202, kA202, kS202, kL203, kA203, kS203, kL204, kA204, kS204, kL205, kL206, kA206, kS206, st (j + 1)]
    rfl
  · simp only [f_X12_fallEnd_b8, h1, oI]
    rw [if_pos (by decide)]
    rfl
theorem fallTurns_ok (hS : Shp σ) (hG : GRD J g) (ho : RO g F) (hK : KNK J g F) {s M : Nat} (hs : s < gSt g) (hl : lW g F s = true) (h1 : (sp g F (fs g F s M) (gSz g)).2 = none) (h2 : ∀ j, j < M → (sp g F (fs g F s j) (gSz g)).2 ≠ none) : f_X12_fallTurns (xw σ J) 183 (nI s) = some (nI M) := by
  have hg := hG.1
  have hSt := (gSt_b hg).1
  have hf := fs_l (g := g) (F := F) hs hl
  have st : ∀ j, f_X12_steepest (xw σ J) 183 (nI (fs g F s j)) = some (oI (sp g F (fs g F s j) (gSz g)).2) := fun j => steep12_ok hS hG ho hK (hf j).1 (hf j).2
  unfold f_X12_fallTurns
  rw [show nI s = nI (fs g F s 0) from rfl]
  simp (disch := first | assumption | omega) only [Option.bind_some, Option.map_some, xw_gR, xw_gN, xw_al, xw_ck, xw_uI, xw_ur, xup_at, xur_at, if_true, if_false, reduceIte, and_true, true_and, and_false, false_and, not_true_eq_false, not_false_eq_true, Nat.reduceEqDiff, eq_self, Nat.reduceAdd, Nat.reduceMul, kC1, kG1, kP1, kR1_0, kR1_1, kR1_2, kR1_3, kR1_4, kR1_5, kR1_6, kR1_7, kR1_8, kR1_9, kR1_10, kR1_11, kR1_12, kR1_13, kC2, kG2, kP2, kR2_0, kR2_1, kC3, kG3, kP3, kR3_0, kR3_1, kR3_2, kR3_3, kL4, kA4, kS4, kL5, kA5, kS5, kL6, kA6, kS6, kL7, kA7, kS7, kC8, kG8, kP8, kR8_0, kR8_1, kL9, kA9, kS9, kL10, kA10, kS10, kC11, kG11, kP11, kR11_0, kR11_1, kR11_2, kR11_3, kL12, kA12, kS12, kL13, kA13, kS13, kL14, kA14, kS14, kL15, kA15, kS15, kC16, kG16, kP16, kR16_0, kR16_1, kL17, kA17, kS17, kL18, kA18, kS18, kC19, kG19, kP19, kR19_0, kL20, kL141, kL146, kA146, kS146, kL151, kA151, kS151, kL156, kA156, kS156, kC157, kG157, kP157, kR157_0, kR157_1, kL158, kA158, kS158, kL159, kA159, kS159, kC161, kG161, kP161, kR161_0, kR161_1, kL162, kA162, kS162, kL163, kA163, kS163, kC165, kG165, kP165, kR165_0, kR165_1, kR165_2, kR165_3, kL166, kA166, kS166, kL167, kA167, kS167, kL168, kA168, kS168, kL169, kA169, kS169, kC170, kG170, kP170, kR170_0, kR170_1, kR170_2, kL171, kA171, kS171, kL172, kA172, kS172, kL173, kA173, kS173, kC174, kG174, kP174, kR174_0, kR174_1, kR174_2, kR174_3, kR174_4, kL175, kA175, kS175, kL176, kA176, kS176, kL177, kA177, kS177, kL178, kA178, kS178, kL179, kC180, kG180, kP180, kL181, kL182, kA182, kS182, kC183, kG183, kP183, kR183_1, kR183_3, kR183_5, kR183_6, kR183_7, kR183_8, kR183_9, kR183_21, kR183_26, kR183_27, kR183_30, kR183_31, kR183_33, kR183_34, kR183_36, kR183_37, kR183_38, kR183_39, kR183_40, kR183_41, kR183_42, kR183_43, kR183_44, kL184, kA184, kS184, kL185, kA185, kS185, kL186, kA186, kS186, kL187, kA187, kS187, kL188, kA188, kS188, kL189, kL190, kL191, kA191, kS191, kL192, kA192, kS192, kL193, kA193, kS193, kL194, kA194, kS194, kL195, kA195, kS195, kL196, kA196, kS196, kL197, kA197, kS197, kL198, kA198, kS198, kL199, kA199, kS199, kL200, kA200, kS200, kL201, kL202, kA202, kS202, kL203, kA203, kS203, kL204, kA204, kS204, kL205, kL206, kA206, kS206, st 0]
  refine xforE (fun j : Nat => (nI (fs g F s j), nI j, oI (sp g F (fs g F s j) (gSz g)).2)) M rfl (fun j hj => ?_) ?_
  · obtain ⟨i, hi⟩ := Option.ne_none_iff_exists'.mp (h2 j hj)
    have hi16 := spS hg hi
    simp only [f_X12_fallTurns_b11, hi, oI]
    rw [if_neg (nI_pos (by omega)), nn_one (by omega), nn_xor, ← fs_s hi]
    simp (disch := first | assumption | omega) only [Option.bind_some, Option.map_some, xw_gR, xw_gN, xw_al, xw_ck, xw_uI, xw_ur, xup_at, xur_at, if_true, if_false, reduceIte, and_true, true_and, and_false, false_and, not_true_eq_false, not_false_eq_true, Nat.reduceEqDiff, eq_self, Nat.reduceAdd, Nat.reduceMul, kC1, kG1, kP1, kR1_0, kR1_1, kR1_2, kR1_3, kR1_4, kR1_5, kR1_6, kR1_7, kR1_8, kR1_9, kR1_10, kR1_11, kR1_12, kR1_13, kC2, kG2, kP2, kR2_0, kR2_1, kC3, kG3, kP3, kR3_0, kR3_1, kR3_2, kR3_3, kL4, kA4, kS4, kL5, kA5, kS5, kL6, kA6, kS6, kL7, kA7, kS7, kC8, kG8, kP8, kR8_0, kR8_1, kL9, kA9, kS9, kL10, kA10, kS10, kC11, kG11, kP11, kR11_0, kR11_1, kR11_2, kR11_3, kL12, kA12, kS12, kL13, kA13, kS13, kL14, kA14, kS14, kL15, kA15, kS15, kC16, kG16, kP16, kR16_0, kR16_1, kL17, kA17, kS17, kL18, kA18, kS18, kC19, kG19, kP19, kR19_0, kL20, kL141, kL146, kA146, kS146, kL151, kA151, kS151, kL156, kA156, kS156, kC157, kG157, kP157, kR157_0, kR157_1, kL158, kA158, kS158, kL159, kA159, kS159, kC161, kG161, kP161, kR161_0, kR161_1, kL162, kA162, kS162, kL163, kA163, kS163, kC165, kG165, kP165, kR165_0, kR165_1, kR165_2, kR165_3, kL166, kA166, kS166, kL167, kA167, kS167, kL168, kA168, kS168, kL169, kA169, kS169, kC170, kG170, kP170, kR170_0, kR170_1, kR170_2, kL171, kA171, kS171, kL172, kA172, kS172, kL173, kA173, kS173, kC174, kG174, kP174, kR174_0, kR174_1, kR174_2, kR174_3, kR174_4, kL175, kA175, kS175, kL176, kA176, kS176, kL177, kA177, kS177, kL178, kA178, kS178, kL179, kC180, kG180, kP180, kL181, kL182, kA182, kS182, kC183, kG183, kP183, kR183_1, kR183_3, kR183_5, kR183_6, kR183_7, kR183_8, kR183_9, kR183_21, kR183_26, kR183_27, kR183_30, kR183_31, kR183_33, kR183_34, kR183_36, kR183_37, kR183_38, kR183_39, kR183_40, kR183_41, kR183_42, kR183_43, kR183_44, kL184, kA184, kS184, kL185, kA185, kS185, kL186, kA186, kS186, kL187, kA187, kS187, kL188, kA188, kS188, kL189, kL190, kL191, kA191, kS191, kL192, kA192, kS192, kL193, kA193, kS193, kL194, kA194, kS194, kL195, kA195, kS195, kL196, kA196, kS196, kL197, kA197, kS197, kL198, kA198, kS198, kL199, kA199, kS199, kL200, kA200, kS200, kL201, kL202, kA202, kS202, kL203, kA203, kS203, kL204, kA204, kS204, kL205, kL206, kA206, kS206, st (j + 1)]
    rw [← nI_succ]
    rfl
  · simp only [f_X12_fallTurns_b11, h1, oI]
    rw [if_pos (by decide)]
    rfl
end FALL
end
section
/-! fall -/
theorem knows_g {σ : XS} {I : Nat → Nat → Int32} {g : GD} (hS : Shp σ) (hG : GRD I g) (ho : RO g (I 191)) (hk : KNW I g) : ∃ J, f_X12_knows (xw σ I) 183 = some (xw σ J) ∧ KNK J g (J 191) ∧ J 183 32 = 1 ∧ (∀ b j, ¬ (196 ≤ b ∧ b ≤ 198) → ¬ (b = 183 ∧ (j = 32 ∨ j = 35)) → J b j = I b j) := by
  rcases hk with h0 | ⟨h1, hk⟩
  · obtain ⟨z, hz⟩ : ∃ z, z = xup I 183 32 1 := ⟨_, rfl⟩
    have uz : ∀ a k, ¬ (a = 183 ∧ k = 32) → z a k = I a k := fun a k h => by rw [hz, xup_at, if_neg h]
    have hGz : GRD z g := GRD_c (fun a k q => uz a k (by unfold sGRD at q; omega)) hG
    have hrow : z 191 = I 191 := by funext k; exact uz 191 k (by omega)
    obtain ⟨J, e1, j1, j2⟩ := knows_l2 (I := z) hS hGz rfl (by rw [hrow]; exact ho)
    have rJ : J 191 = I 191 := by funext k; rw [j2 191 k (by omega) (by omega), hrow]
    have uJ : ∀ b j, ¬ (196 ≤ b ∧ b ≤ 198) → ¬ (b = 183 ∧ (j = 32 ∨ j = 35)) → J b j = I b j := fun b j h1 h2 => by rw [j2 b j h1 (by omega), uz b j (by omega)]
    have kJ : KNK J g (J 191) := by rw [rJ, ← hrow]; exact j1
    refine ⟨J, ?_, kJ, ?_, uJ⟩
    · unfold f_X12_knows
      simp (disch := first | assumption | omega) only [Option.bind_some, Option.map_some, xw_gR, xw_gN, xw_al, xw_ck, xw_uI, xw_ur, xup_at, xur_at, if_true, if_false, reduceIte, and_true, true_and, and_false, false_and, not_true_eq_false, not_false_eq_true, Nat.reduceEqDiff, eq_self, Nat.reduceAdd, Nat.reduceMul, kC1, kG1, kP1, kR1_0, kR1_1, kR1_2, kR1_3, kR1_4, kR1_5, kR1_6, kR1_7, kR1_8, kR1_9, kR1_10, kR1_11, kR1_12, kR1_13, kC2, kG2, kP2, kR2_0, kR2_1, kC3, kG3, kP3, kR3_0, kR3_1, kR3_2, kR3_3, kL4, kA4, kS4, kL5, kA5, kS5, kL6, kA6, kS6, kL7, kA7, kS7, kC8, kG8, kP8, kR8_0, kR8_1, kL9, kA9, kS9, kL10, kA10, kS10, kC11, kG11, kP11, kR11_0, kR11_1, kR11_2, kR11_3, kL12, kA12, kS12, kL13, kA13, kS13, kL14, kA14, kS14, kL15, kA15, kS15, kC16, kG16, kP16, kR16_0, kR16_1, kL17, kA17, kS17, kL18, kA18, kS18, kC19, kG19, kP19, kR19_0, kL20, kL141, kL146, kA146, kS146, kL151, kA151, kS151, kL156, kA156, kS156, kC157, kG157, kP157, kR157_0, kR157_1, kL158, kA158, kS158, kL159, kA159, kS159, kC161, kG161, kP161, kR161_0, kR161_1, kL162, kA162, kS162, kL163, kA163, kS163, kC165, kG165, kP165, kR165_0, kR165_1, kR165_2, kR165_3, kL166, kA166, kS166, kL167, kA167, kS167, kL168, kA168, kS168, kL169, kA169, kS169, kC170, kG170, kP170, kR170_0, kR170_1, kR170_2, kL171, kA171, kS171, kL172, kA172, kS172, kL173, kA173, kS173, kC174, kG174, kP174, kR174_0, kR174_1, kR174_2, kR174_3, kR174_4, kL175, kA175, kS175, kL176, kA176, kS176, kL177, kA177, kS177, kL178, kA178, kS178, kL179, kC180, kG180, kP180, kL181, kL182, kA182, kS182, kC183, kG183, kP183, kR183_1, kR183_3, kR183_5, kR183_6, kR183_7, kR183_8, kR183_9, kR183_21, kR183_26, kR183_27, kR183_30, kR183_31, kR183_33, kR183_34, kR183_36, kR183_37, kR183_38, kR183_39, kR183_40, kR183_41, kR183_42, kR183_43, kR183_44, kL184, kA184, kS184, kL185, kA185, kS185, kL186, kA186, kS186, kL187, kA187, kS187, kL188, kA188, kS188, kL189, kL190, kL191, kA191, kS191, kL192, kA192, kS192, kL193, kA193, kS193, kL194, kA194, kS194, kL195, kA195, kS195, kL196, kA196, kS196, kL197, kA197, kS197, kL198, kA198, kS198, kL199, kA199, kS199, kL200, kA200, kS200, kL201, kL202, kA202, kS202, kL203, kA203, kS203, kL204, kA204, kS204, kL205, kL206, kA206, kS206, h0]
      rw [← hz]
      refine xforE (fun j : Nat => (nI j, xw σ (fun c k => if c = 197 ∧ k < j then nI 0 else z c k))) 301 ?_ (fun j hj => ?_) ?_
      · congr 2
        funext c k
        rw [if_neg (by omega)]
      · simp only [f_X12_knows_b15]
        rw [if_neg (by rw [show (301 : Int32) = nI 301 from rfl, nn_le (by omega) (by omega)]; omega)]
        simp (disch := first | assumption | omega) only [Option.bind_some, Option.map_some, xw_gR, xw_gN, xw_al, xw_ck, xw_uI, xw_ur, xup_at, xur_at, if_true, if_false, reduceIte, and_true, true_and, and_false, false_and, not_true_eq_false, not_false_eq_true, Nat.reduceEqDiff, eq_self, Nat.reduceAdd, Nat.reduceMul, kC1, kG1, kP1, kR1_0, kR1_1, kR1_2, kR1_3, kR1_4, kR1_5, kR1_6, kR1_7, kR1_8, kR1_9, kR1_10, kR1_11, kR1_12, kR1_13, kC2, kG2, kP2, kR2_0, kR2_1, kC3, kG3, kP3, kR3_0, kR3_1, kR3_2, kR3_3, kL4, kA4, kS4, kL5, kA5, kS5, kL6, kA6, kS6, kL7, kA7, kS7, kC8, kG8, kP8, kR8_0, kR8_1, kL9, kA9, kS9, kL10, kA10, kS10, kC11, kG11, kP11, kR11_0, kR11_1, kR11_2, kR11_3, kL12, kA12, kS12, kL13, kA13, kS13, kL14, kA14, kS14, kL15, kA15, kS15, kC16, kG16, kP16, kR16_0, kR16_1, kL17, kA17, kS17, kL18, kA18, kS18, kC19, kG19, kP19, kR19_0, kL20, kL141, kL146, kA146, kS146, kL151, kA151, kS151, kL156, kA156, kS156, kC157, kG157, kP157, kR157_0, kR157_1, kL158, kA158, kS158, kL159, kA159, kS159, kC161, kG161, kP161, kR161_0, kR161_1, kL162, kA162, kS162, kL163, kA163, kS163, kC165, kG165, kP165, kR165_0, kR165_1, kR165_2, kR165_3, kL166, kA166, kS166, kL167, kA167, kS167, kL168, kA168, kS168, kL169, kA169, kS169, kC170, kG170, kP170, kR170_0, kR170_1, kR170_2, kL171, kA171, kS171, kL172, kA172, kS172, kL173, kA173, kS173, kC174, kG174, kP174, kR174_0, kR174_1, kR174_2, kR174_3, kR174_4, kL175, kA175, kS175, kL176, kA176, kS176, kL177, kA177, kS177, kL178, kA178, kS178, kL179, kC180, kG180, kP180, kL181, kL182, kA182, kS182, kC183, kG183, kP183, kR183_1, kR183_3, kR183_5, kR183_6, kR183_7, kR183_8, kR183_9, kR183_21, kR183_26, kR183_27, kR183_30, kR183_31, kR183_33, kR183_34, kR183_36, kR183_37, kR183_38, kR183_39, kR183_40, kR183_41, kR183_42, kR183_43, kR183_44, kL184, kA184, kS184, kL185, kA185, kS185, kL186, kA186, kS186, kL187, kA187, kS187, kL188, kA188, kS188, kL189, kL190, kL191, kA191, kS191, kL192, kA192, kS192, kL193, kA193, kS193, kL194, kA194, kS194, kL195, kA195, kS195, kL196, kA196, kS196, kL197, kA197, kS197, kL198, kA198, kS198, kL199, kA199, kS199, kL200, kA200, kS200, kL201, kL202, kA202, kS202, kL203, kA203, kS203, kL204, kA204, kS204, kL205, kL206, kA206, kS206]
        rw [nI_succ]
        congr 4
        funext c k
        simp only [xup_at]
        by_cases q : c = 197
        · subst q
          by_cases q2 : k = j
          · subst q2; simp; rfl
          · have : (k < j + 1) ↔ (k < j) := by omega
            simp [q2, this]
        · simp [q]
      · simp only [f_X12_knows_b15]
        rw [if_pos (by decide)]
        have e : (fun c k => if c = 197 ∧ k < 301 then nI 0 else z c k) = knI z g (z 191) 0 := by
          funext c k
          unfold knI
          rw [if_neg (show ¬ (c = 196 ∧ k < 0) by omega)]
          rfl
        rw [e, e1]
        rfl
    · rw [j2 183 32 (by omega) (by omega), hz, xup_at, if_pos ⟨rfl, rfl⟩]
  · refine ⟨I, ?_, hk, h1, fun _ _ _ _ => rfl⟩
    unfold f_X12_knows
    simp (disch := first | assumption | omega) only [Option.bind_some, Option.map_some, xw_gR, xw_gN, xw_al, xw_ck, xw_uI, xw_ur, xup_at, xur_at, if_true, if_false, reduceIte, and_true, true_and, and_false, false_and, not_true_eq_false, not_false_eq_true, Nat.reduceEqDiff, eq_self, Nat.reduceAdd, Nat.reduceMul, kC1, kG1, kP1, kR1_0, kR1_1, kR1_2, kR1_3, kR1_4, kR1_5, kR1_6, kR1_7, kR1_8, kR1_9, kR1_10, kR1_11, kR1_12, kR1_13, kC2, kG2, kP2, kR2_0, kR2_1, kC3, kG3, kP3, kR3_0, kR3_1, kR3_2, kR3_3, kL4, kA4, kS4, kL5, kA5, kS5, kL6, kA6, kS6, kL7, kA7, kS7, kC8, kG8, kP8, kR8_0, kR8_1, kL9, kA9, kS9, kL10, kA10, kS10, kC11, kG11, kP11, kR11_0, kR11_1, kR11_2, kR11_3, kL12, kA12, kS12, kL13, kA13, kS13, kL14, kA14, kS14, kL15, kA15, kS15, kC16, kG16, kP16, kR16_0, kR16_1, kL17, kA17, kS17, kL18, kA18, kS18, kC19, kG19, kP19, kR19_0, kL20, kL141, kL146, kA146, kS146, kL151, kA151, kS151, kL156, kA156, kS156, kC157, kG157, kP157, kR157_0, kR157_1, kL158, kA158, kS158, kL159, kA159, kS159, kC161, kG161, kP161, kR161_0, kR161_1, kL162, kA162, kS162, kL163, kA163, kS163, kC165, kG165, kP165, kR165_0, kR165_1, kR165_2, kR165_3, kL166, kA166, kS166, kL167, kA167, kS167, kL168, kA168, kS168, kL169, kA169, kS169, kC170, kG170, kP170, kR170_0, kR170_1, kR170_2, kL171, kA171, kS171, kL172, kA172, kS172, kL173, kA173, kS173, kC174, kG174, kP174, kR174_0, kR174_1, kR174_2, kR174_3, kR174_4, kL175, kA175, kS175, kL176, kA176, kS176, kL177, kA177, kS177, kL178, kA178, kS178, kL179, kC180, kG180, kP180, kL181, kL182, kA182, kS182, kC183, kG183, kP183, kR183_1, kR183_3, kR183_5, kR183_6, kR183_7, kR183_8, kR183_9, kR183_21, kR183_26, kR183_27, kR183_30, kR183_31, kR183_33, kR183_34, kR183_36, kR183_37, kR183_38, kR183_39, kR183_40, kR183_41, kR183_42, kR183_43, kR183_44, kL184, kA184, kS184, kL185, kA185, kS185, kL186, kA186, kS186, kL187, kA187, kS187, kL188, kA188, kS188, kL189, kL190, kL191, kA191, kS191, kL192, kA192, kS192, kL193, kA193, kS193, kL194, kA194, kS194, kL195, kA195, kS195, kL196, kA196, kS196, kL197, kA197, kS197, kL198, kA198, kS198, kL199, kA199, kS199, kL200, kA200, kS200, kL201, kL202, kA202, kS202, kL203, kA203, kS203, kL204, kA204, kS204, kL205, kL206, kA206, kS206, h1, one0]
theorem IV.walk {n : Nat} {σ : XS} {g : GD} {gT gP : GH} {st : Nat} (H : IV n σ g gT gP st) {I' : Nat → Nat → Int32} (u : ∀ a k, ¬ (176 ≤ a ∧ a ≤ 182) → I' a k = xI σ a k) : IV n (xw σ I') g gT gP st := by
  have hc := H.cells
  exact H.cache H.shp (fun a k h => u a k (by omega)) (CCH_c (fun a k q => u a k (by unfold sCCH at q; rw [xw_R] at q; omega)) (Nat.le_refl _) (fun _ _ => rfl) (fun _ _ => rfl) H.cch) H.cel
theorem op_fall : Op_fall INV := by
  intro n σ hn ⟨g, gT, gP, st, H⟩ _
  have hS := H.shp
  have hG := H.grd
  have hg := hG.1
  have h16 := (gAll_b g hg).2.2.1
  have hSt := (gSt_b hg).1
  by_cases h0 : gSz g = 0
  · refine ⟨-1, σ, σ, ?_, ?_, g, gT, gP, st, H.nop⟩
    · show f_X11_fall (xw σ (xI σ)) 1 = _
      unfold f_X11_fall
      simp (disch := first | assumption | omega) only [Option.bind_some, Option.map_some, xw_gR, xw_gN, xw_al, xw_ck, xw_uI, xw_ur, xup_at, xur_at, if_true, if_false, reduceIte, and_true, true_and, and_false, false_and, not_true_eq_false, not_false_eq_true, Nat.reduceEqDiff, eq_self, Nat.reduceAdd, Nat.reduceMul, kC1, kG1, kP1, kR1_0, kR1_1, kR1_2, kR1_3, kR1_4, kR1_5, kR1_6, kR1_7, kR1_8, kR1_9, kR1_10, kR1_11, kR1_12, kR1_13, kC2, kG2, kP2, kR2_0, kR2_1, kC3, kG3, kP3, kR3_0, kR3_1, kR3_2, kR3_3, kL4, kA4, kS4, kL5, kA5, kS5, kL6, kA6, kS6, kL7, kA7, kS7, kC8, kG8, kP8, kR8_0, kR8_1, kL9, kA9, kS9, kL10, kA10, kS10, kC11, kG11, kP11, kR11_0, kR11_1, kR11_2, kR11_3, kL12, kA12, kS12, kL13, kA13, kS13, kL14, kA14, kS14, kL15, kA15, kS15, kC16, kG16, kP16, kR16_0, kR16_1, kL17, kA17, kS17, kL18, kA18, kS18, kC19, kG19, kP19, kR19_0, kL20, kL141, kL146, kA146, kS146, kL151, kA151, kS151, kL156, kA156, kS156, kC157, kG157, kP157, kR157_0, kR157_1, kL158, kA158, kS158, kL159, kA159, kS159, kC161, kG161, kP161, kR161_0, kR161_1, kL162, kA162, kS162, kL163, kA163, kS163, kC165, kG165, kP165, kR165_0, kR165_1, kR165_2, kR165_3, kL166, kA166, kS166, kL167, kA167, kS167, kL168, kA168, kS168, kL169, kA169, kS169, kC170, kG170, kP170, kR170_0, kR170_1, kR170_2, kL171, kA171, kS171, kL172, kA172, kS172, kL173, kA173, kS173, kC174, kG174, kP174, kR174_0, kR174_1, kR174_2, kR174_3, kR174_4, kL175, kA175, kS175, kL176, kA176, kS176, kL177, kA177, kS177, kL178, kA178, kS178, kL179, kC180, kG180, kP180, kL181, kL182, kA182, kS182, kC183, kG183, kP183, kR183_1, kR183_3, kR183_5, kR183_6, kR183_7, kR183_8, kR183_9, kR183_21, kR183_26, kR183_27, kR183_30, kR183_31, kR183_33, kR183_34, kR183_36, kR183_37, kR183_38, kR183_39, kR183_40, kR183_41, kR183_42, kR183_43, kR183_44, kL184, kA184, kS184, kL185, kA185, kS185, kL186, kA186, kS186, kL187, kA187, kS187, kL188, kA188, kS188, kL189, kL190, kL191, kA191, kS191, kL192, kA192, kS192, kL193, kA193, kS193, kL194, kA194, kS194, kL195, kA195, kS195, kL196, kA196, kS196, kL197, kA197, kS197, kL198, kA198, kS198, kL199, kA199, kS199, kL200, kA200, kS200, kL201, kL202, kA202, kS202, kL203, kA203, kS203, kL204, kA204, kS204, kL205, kL206, kA206, kS206, hG.2.2.2.2.1, h0, show (nI 0 = 0) = True from eq_true rfl]
      rfl
    · show f_X12_fall (xw σ (xI σ)) 183 = _
      unfold f_X12_fall
      simp (disch := first | assumption | omega) only [Option.bind_some, Option.map_some, xw_gR, xw_gN, xw_al, xw_ck, xw_uI, xw_ur, xup_at, xur_at, if_true, if_false, reduceIte, and_true, true_and, and_false, false_and, not_true_eq_false, not_false_eq_true, Nat.reduceEqDiff, eq_self, Nat.reduceAdd, Nat.reduceMul, kC1, kG1, kP1, kR1_0, kR1_1, kR1_2, kR1_3, kR1_4, kR1_5, kR1_6, kR1_7, kR1_8, kR1_9, kR1_10, kR1_11, kR1_12, kR1_13, kC2, kG2, kP2, kR2_0, kR2_1, kC3, kG3, kP3, kR3_0, kR3_1, kR3_2, kR3_3, kL4, kA4, kS4, kL5, kA5, kS5, kL6, kA6, kS6, kL7, kA7, kS7, kC8, kG8, kP8, kR8_0, kR8_1, kL9, kA9, kS9, kL10, kA10, kS10, kC11, kG11, kP11, kR11_0, kR11_1, kR11_2, kR11_3, kL12, kA12, kS12, kL13, kA13, kS13, kL14, kA14, kS14, kL15, kA15, kS15, kC16, kG16, kP16, kR16_0, kR16_1, kL17, kA17, kS17, kL18, kA18, kS18, kC19, kG19, kP19, kR19_0, kL20, kL141, kL146, kA146, kS146, kL151, kA151, kS151, kL156, kA156, kS156, kC157, kG157, kP157, kR157_0, kR157_1, kL158, kA158, kS158, kL159, kA159, kS159, kC161, kG161, kP161, kR161_0, kR161_1, kL162, kA162, kS162, kL163, kA163, kS163, kC165, kG165, kP165, kR165_0, kR165_1, kR165_2, kR165_3, kL166, kA166, kS166, kL167, kA167, kS167, kL168, kA168, kS168, kL169, kA169, kS169, kC170, kG170, kP170, kR170_0, kR170_1, kR170_2, kL171, kA171, kS171, kL172, kA172, kS172, kL173, kA173, kS173, kC174, kG174, kP174, kR174_0, kR174_1, kR174_2, kR174_3, kR174_4, kL175, kA175, kS175, kL176, kA176, kS176, kL177, kA177, kS177, kL178, kA178, kS178, kL179, kC180, kG180, kP180, kL181, kL182, kA182, kS182, kC183, kG183, kP183, kR183_1, kR183_3, kR183_5, kR183_6, kR183_7, kR183_8, kR183_9, kR183_21, kR183_26, kR183_27, kR183_30, kR183_31, kR183_33, kR183_34, kR183_36, kR183_37, kR183_38, kR183_39, kR183_40, kR183_41, kR183_42, kR183_43, kR183_44, kL184, kA184, kS184, kL185, kA185, kS185, kL186, kA186, kS186, kL187, kA187, kS187, kL188, kA188, kS188, kL189, kL190, kL191, kA191, kS191, kL192, kA192, kS192, kL193, kA193, kS193, kL194, kA194, kS194, kL195, kA195, kS195, kL196, kA196, kS196, kL197, kA197, kS197, kL198, kA198, kS198, kL199, kA199, kS199, kL200, kA200, kS200, kL201, kL202, kA202, kS202, kL203, kA203, kS203, kL204, kA204, kS204, kL205, kL206, kA206, kS206, sites_ok hS hG, h0, show (nI 0 = 0) = True from eq_true rfl]
      rfl
  have hn0 : (nI (gSz g) = 0) = False := eq_false (nI_ne0 (by omega) (by omega))
  obtain ⟨F, hF⟩ : ∃ F, F = xI σ 191 := ⟨_, rfl⟩
  have hSR := H.now.1
  have ho := H.now.2.1
  rw [← hF] at hSR ho
  obtain ⟨b, o3, o4, o5⟩ := ho.2.2.1
  have hbN : b < gSt g := by unfold gSt; rw [if_neg h0]; exact o3
  have hbl : lW g F b = true := lW_iff.mpr o5
  have hb4 : xI σ 16 4 = nI b := by rw [hSR.2.2.2.1]; exact o4
  obtain ⟨M, hM, m1, m2⟩ := fs_end (s := b) hg ho
  have hfl := fs_l (g := g) (F := F) hbN hbl M
  obtain ⟨w, hw⟩ : ∃ w, w = fs g F b M := ⟨_, rfl⟩
  rw [← hw] at hfl
  have hfall := fall11_ok (σ := σ) (J := xI σ) hS hG ho hSR hbN hbl hM m1 m2
  rw [← hw] at hfall
  have v0 : flI (xI σ) w M 180 0 = nI w := by unfold flI; simp [xup_at]
  have v1 : flI (xI σ) w M 180 1 = nI M := by unfold flI; simp [xup_at]
  by_cases hM0 : M = 0
  · -- nothing falls
    have HW : IV n (xw σ (flI (xI σ) w M)) g gT gP st := H.walk (fun a k h => flI_out (by omega))
    obtain ⟨J, e2, K2, k32, u2⟩ := knows_g (I := flI (xI σ) w M) hS HW.grd HW.now.2.1 HW.knw
    have rJ : J 191 = F := by rw [hF]; funext k; rw [u2 191 k (by omega) (by omega), flI_out (by omega)]
    have H2 : IV n (xw σ J) g gT gP st := HW.model (fun a k h => u2 a k (by omega) (by omega)) (.inr ⟨k32, K2⟩)
    rw [rJ] at K2
    have hG2 : GRD J g := H2.grd
    refine ⟨0, xw σ (flI (xI σ) w M), xw σ J, ?_, ?_, INV_i H2.nop⟩
    · show f_X11_fall (xw σ (xI σ)) 1 = _
      unfold f_X11_fall
      simp (disch := first | assumption | omega) only [Option.bind_some, Option.map_some, xw_gR, xw_gN, xw_al, xw_ck, xw_uI, xw_ur, xup_at, xur_at, if_true, if_false, reduceIte, and_true, true_and, and_false, false_and, not_true_eq_false, not_false_eq_true, Nat.reduceEqDiff, eq_self, Nat.reduceAdd, Nat.reduceMul, kC1, kG1, kP1, kR1_0, kR1_1, kR1_2, kR1_3, kR1_4, kR1_5, kR1_6, kR1_7, kR1_8, kR1_9, kR1_10, kR1_11, kR1_12, kR1_13, kC2, kG2, kP2, kR2_0, kR2_1, kC3, kG3, kP3, kR3_0, kR3_1, kR3_2, kR3_3, kL4, kA4, kS4, kL5, kA5, kS5, kL6, kA6, kS6, kL7, kA7, kS7, kC8, kG8, kP8, kR8_0, kR8_1, kL9, kA9, kS9, kL10, kA10, kS10, kC11, kG11, kP11, kR11_0, kR11_1, kR11_2, kR11_3, kL12, kA12, kS12, kL13, kA13, kS13, kL14, kA14, kS14, kL15, kA15, kS15, kC16, kG16, kP16, kR16_0, kR16_1, kL17, kA17, kS17, kL18, kA18, kS18, kC19, kG19, kP19, kR19_0, kL20, kL141, kL146, kA146, kS146, kL151, kA151, kS151, kL156, kA156, kS156, kC157, kG157, kP157, kR157_0, kR157_1, kL158, kA158, kS158, kL159, kA159, kS159, kC161, kG161, kP161, kR161_0, kR161_1, kL162, kA162, kS162, kL163, kA163, kS163, kC165, kG165, kP165, kR165_0, kR165_1, kR165_2, kR165_3, kL166, kA166, kS166, kL167, kA167, kS167, kL168, kA168, kS168, kL169, kA169, kS169, kC170, kG170, kP170, kR170_0, kR170_1, kR170_2, kL171, kA171, kS171, kL172, kA172, kS172, kL173, kA173, kS173, kC174, kG174, kP174, kR174_0, kR174_1, kR174_2, kR174_3, kR174_4, kL175, kA175, kS175, kL176, kA176, kS176, kL177, kA177, kS177, kL178, kA178, kS178, kL179, kC180, kG180, kP180, kL181, kL182, kA182, kS182, kC183, kG183, kP183, kR183_1, kR183_3, kR183_5, kR183_6, kR183_7, kR183_8, kR183_9, kR183_21, kR183_26, kR183_27, kR183_30, kR183_31, kR183_33, kR183_34, kR183_36, kR183_37, kR183_38, kR183_39, kR183_40, kR183_41, kR183_42, kR183_43, kR183_44, kL184, kA184, kS184, kL185, kA185, kS185, kL186, kA186, kS186, kL187, kA187, kS187, kL188, kA188, kS188, kL189, kL190, kL191, kA191, kS191, kL192, kA192, kS192, kL193, kA193, kS193, kL194, kA194, kS194, kL195, kA195, kS195, kL196, kA196, kS196, kL197, kA197, kS197, kL198, kA198, kS198, kL199, kA199, kS199, kL200, kA200, kS200, kL201, kL202, kA202, kS202, kL203, kA203, kS203, kL204, kA204, kS204, kL205, kL206, kA206, kS206, hG.2.2.2.2.1, hn0, hb4, hfall, v1, hM0, show (nI 0 ≤ 0) = True from eq_true (by decide)]
      rfl
    · unfold f_X12_fall
      have e64 : J 191 64 = nI b := by rw [rJ]; exact o4
      have ft := fallTurns_ok (σ := σ) (J := J) hS hG2 ho K2 hbN hbl m1 m2
      rw [hM0] at ft
      simp (disch := first | assumption | omega) only [Option.bind_some, Option.map_some, xw_gR, xw_gN, xw_al, xw_ck, xw_uI, xw_ur, xup_at, xur_at, if_true, if_false, reduceIte, and_true, true_and, and_false, false_and, not_true_eq_false, not_false_eq_true, Nat.reduceEqDiff, eq_self, Nat.reduceAdd, Nat.reduceMul, kC1, kG1, kP1, kR1_0, kR1_1, kR1_2, kR1_3, kR1_4, kR1_5, kR1_6, kR1_7, kR1_8, kR1_9, kR1_10, kR1_11, kR1_12, kR1_13, kC2, kG2, kP2, kR2_0, kR2_1, kC3, kG3, kP3, kR3_0, kR3_1, kR3_2, kR3_3, kL4, kA4, kS4, kL5, kA5, kS5, kL6, kA6, kS6, kL7, kA7, kS7, kC8, kG8, kP8, kR8_0, kR8_1, kL9, kA9, kS9, kL10, kA10, kS10, kC11, kG11, kP11, kR11_0, kR11_1, kR11_2, kR11_3, kL12, kA12, kS12, kL13, kA13, kS13, kL14, kA14, kS14, kL15, kA15, kS15, kC16, kG16, kP16, kR16_0, kR16_1, kL17, kA17, kS17, kL18, kA18, kS18, kC19, kG19, kP19, kR19_0, kL20, kL141, kL146, kA146, kS146, kL151, kA151, kS151, kL156, kA156, kS156, kC157, kG157, kP157, kR157_0, kR157_1, kL158, kA158, kS158, kL159, kA159, kS159, kC161, kG161, kP161, kR161_0, kR161_1, kL162, kA162, kS162, kL163, kA163, kS163, kC165, kG165, kP165, kR165_0, kR165_1, kR165_2, kR165_3, kL166, kA166, kS166, kL167, kA167, kS167, kL168, kA168, kS168, kL169, kA169, kS169, kC170, kG170, kP170, kR170_0, kR170_1, kR170_2, kL171, kA171, kS171, kL172, kA172, kS172, kL173, kA173, kS173, kC174, kG174, kP174, kR174_0, kR174_1, kR174_2, kR174_3, kR174_4, kL175, kA175, kS175, kL176, kA176, kS176, kL177, kA177, kS177, kL178, kA178, kS178, kL179, kC180, kG180, kP180, kL181, kL182, kA182, kS182, kC183, kG183, kP183, kR183_1, kR183_3, kR183_5, kR183_6, kR183_7, kR183_8, kR183_9, kR183_21, kR183_26, kR183_27, kR183_30, kR183_31, kR183_33, kR183_34, kR183_36, kR183_37, kR183_38, kR183_39, kR183_40, kR183_41, kR183_42, kR183_43, kR183_44, kL184, kA184, kS184, kL185, kA185, kS185, kL186, kA186, kS186, kL187, kA187, kS187, kL188, kA188, kS188, kL189, kL190, kL191, kA191, kS191, kL192, kA192, kS192, kL193, kA193, kS193, kL194, kA194, kS194, kL195, kA195, kS195, kL196, kA196, kS196, kL197, kA197, kS197, kL198, kA198, kS198, kL199, kA199, kS199, kL200, kA200, kS200, kL201, kL202, kA202, kS202, kL203, kA203, kS203, kL204, kA204, kS204, kL205, kL206, kA206, kS206, sites_ok hS (show GRD (flI (xI σ) w M) g from HW.grd), hn0, e2, show (64 : Int32) = nI 64 from rfl, e64, ft, show (nI 0 = 0) = True from eq_true rfl]
  · have hMz : ¬ (nI M ≤ 0) := nI_nle (by omega) (by omega)
    have hMn : (nI M = 0) = False := eq_false (nI_ne0 (by omega) (by omega))
    obtain ⟨q, nx, ea, hq, hnx, hea, p1, p2, p3, p4, p8⟩ := H.pst
    obtain ⟨I1, hI1⟩ : ∃ I1, I1 = flI (xI σ) w M := ⟨_, rfl⟩
    have u1 : ∀ a k, a ≠ 180 → I1 a k = xI σ a k := fun a k h => by rw [hI1, flI_out h]
    obtain ⟨I2, hI2⟩ : ∃ I2, I2 = xup (kpI I1 nx q) 16 4 (nI w) := ⟨_, rfl⟩
    have ui2 : ∀ a k, ¬ (a = 16 ∧ k = 4) → a ≠ 19 → (a < 21 + 3 * nx ∨ 23 + 3 * nx < a) → I2 a k = I1 a k := fun a k h1 h2 h3 => by rw [hI2, xup_at, if_neg h1, kpI_out h2 h3]
    have r2 : I2 191 = F := by rw [hF]; funext k; rw [ui2 191 k (by omega) (by omega) (by omega), u1 _ _ (by omega)]
    have hG2 : GRD I2 g := GRD_c (fun a k z => by unfold sGRD at z; rw [ui2 a k (by omega) (by omega) (by omega), u1 _ _ (by omega)]) hG
    have kn2 : KNW I2 g := KNW_c hg (fun a k z => by unfold sKNW at z; rw [ui2 a k (by omega) (by omega) (by omega), u1 _ _ (by omega)]) H.knw
    obtain ⟨J, e2, K2, k32, uJ⟩ := knows_g (σ := σ) (I := I2) hS hG2 (by rw [r2]; exact ho) kn2
    have rJ : J 191 = F := by rw [← r2]; funext k; exact uJ 191 k (by omega) (by omega)
    rw [rJ] at K2
    have hGJ : GRD J g := GRD_c (fun a k z => uJ a k (by unfold sGRD at z; omega) (by unfold sGRD at z; omega)) hG2
    have e64 : J 191 64 = nI b := by rw [rJ]; exact o4
    -- the same, as a change by hand of a strip that differs in its notes alone
    obtain ⟨B, hB⟩ : ∃ B : Nat → Nat → Int32, B = fun a k => if (196 ≤ a ∧ a ≤ 198) ∨ (a = 183 ∧ (k = 32 ∨ k = 35)) then J a k else I1 a k := ⟨_, rfl⟩
    have uB : ∀ a k, ¬ ((196 ≤ a ∧ a ≤ 198) ∨ (a = 183 ∧ (k = 32 ∨ k = 35))) → B a k = I1 a k := fun a k h => by rw [hB]; exact if_neg h
    have vB : ∀ a k, ((196 ≤ a ∧ a ≤ 198) ∨ (a = 183 ∧ (k = 32 ∨ k = 35))) → B a k = J a k := fun a k h => by rw [hB]; exact if_pos h
    have rB : B 191 = F := by rw [hF]; funext k; rw [uB 191 k (by omega), u1 _ _ (by omega)]
    have HB : IV n (xw σ B) g gT gP st := by
      have HW : IV n (xw σ I1) g gT gP st := H.walk (fun a k h => u1 a k (by omega))
      refine HW.model (fun a k h => uB a k (by omega)) (.inr ⟨by rw [vB 183 32 (by omega)]; exact k32, ?_⟩)
      rw [rB]
      exact KNK_c (I := J) hg (fun a k h => vB a k (by omega)) (fun _ _ => rfl) K2
    have bk1 : ∀ a k, a ≠ 183 → ¬ (196 ≤ a ∧ a ≤ 198) → a ≠ 180 → B a k = xI σ a k := fun a k h1 h2 h3 => by rw [uB a k (by omega), u1 a k h3]
    have hJ : ∀ a k, ¬ (16 ≤ a ∧ a ≤ 18) → J a k = kpI B nx q a k := by
      intro a k h
      by_cases hc : (196 ≤ a ∧ a ≤ 198) ∨ (a = 183 ∧ (k = 32 ∨ k = 35))
      · rw [kpI_out (by omega) (by omega), vB a k hc]
      · rw [uJ a k (by omega) (by omega), hI2, xup_at, if_neg (by omega)]
        unfold kpI cpI
        simp only [xup_at]
        rw [uB 16 k (by omega), uB 17 k (by omega), uB 18 k (by omega), uB a k hc]
    have p3B : B 183 28 = nI ea := by rw [uB _ _ (by omega), u1 _ _ (by omega)]; exact p3
    have mk1 : f_X12_marks (xw σ J) 183 = some (xw σ (mkI J ea q)) := marks_ok hS hea hq (by rw [hJ _ _ (by omega), kpI_out (by omega) (by omega)]; exact p3B) (by rw [hJ _ _ (by omega), kpI_out (by omega) (by omega), uB _ _ (by omega), u1 _ _ (by omega)]; exact p4)
    have um : ∀ a k, a ≠ 193 → (a ≠ 183 ∨ (k ≠ 28 ∧ k ≠ 29)) → mkI J ea q a k = J a k := fun a k h1 h2 => mkI_out h1 h2
    have rM : mkI J ea q 191 = F := by rw [← rJ]; funext k; exact um 191 k (by omega) (by omega)
    have hGM : GRD (mkI J ea q) g := GRD_c (fun a k z => um a k (by unfold sGRD at z; omega) (by unfold sGRD at z; omega)) hGJ
    have KM : KNK (mkI J ea q) g F := KNK_c (I := J) hg (fun a k h => um a k (by omega) (by omega)) (fun _ _ => rfl) K2
    refine ⟨nI M, xw σ I2, xw σ (xup (mkI J ea q) 191 64 (nI w)), ?_, ?_, ?_⟩
    · show f_X11_fall (xw σ (xI σ)) 1 = _
      unfold f_X11_fall
      rw [← hI1] at hfall v0 v1
      have kp : f_X5_keep (xw σ I1) 19 16 = some (xw σ (kpI I1 nx q)) := keep_ok hS hnx hq (by rw [u1 _ _ (by omega)]; exact p1) (by rw [u1 _ _ (by omega)]; exact p2)
      have k0 : kpI I1 nx q 180 0 = nI w := by rw [kpI_out (by omega) (by omega)]; exact v0
      have k1 : kpI I1 nx q 180 1 = nI M := by rw [kpI_out (by omega) (by omega)]; exact v1
      have i1 : I2 180 1 = nI M := by rw [ui2 _ _ (by omega) (by omega) (by omega)]; exact v1
      simp (disch := first | assumption | omega) only [Option.bind_some, Option.map_some, xw_gR, xw_gN, xw_al, xw_ck, xw_uI, xw_ur, xup_at, xur_at, if_true, if_false, reduceIte, and_true, true_and, and_false, false_and, not_true_eq_false, not_false_eq_true, Nat.reduceEqDiff, eq_self, Nat.reduceAdd, Nat.reduceMul, kC1, kG1, kP1, kR1_0, kR1_1, kR1_2, kR1_3, kR1_4, kR1_5, kR1_6, kR1_7, kR1_8, kR1_9, kR1_10, kR1_11, kR1_12, kR1_13, kC2, kG2, kP2, kR2_0, kR2_1, kC3, kG3, kP3, kR3_0, kR3_1, kR3_2, kR3_3, kL4, kA4, kS4, kL5, kA5, kS5, kL6, kA6, kS6, kL7, kA7, kS7, kC8, kG8, kP8, kR8_0, kR8_1, kL9, kA9, kS9, kL10, kA10, kS10, kC11, kG11, kP11, kR11_0, kR11_1, kR11_2, kR11_3, kL12, kA12, kS12, kL13, kA13, kS13, kL14, kA14, kS14, kL15, kA15, kS15, kC16, kG16, kP16, kR16_0, kR16_1, kL17, kA17, kS17, kL18, kA18, kS18, kC19, kG19, kP19, kR19_0, kL20, kL141, kL146, kA146, kS146, kL151, kA151, kS151, kL156, kA156, kS156, kC157, kG157, kP157, kR157_0, kR157_1, kL158, kA158, kS158, kL159, kA159, kS159, kC161, kG161, kP161, kR161_0, kR161_1, kL162, kA162, kS162, kL163, kA163, kS163, kC165, kG165, kP165, kR165_0, kR165_1, kR165_2, kR165_3, kL166, kA166, kS166, kL167, kA167, kS167, kL168, kA168, kS168, kL169, kA169, kS169, kC170, kG170, kP170, kR170_0, kR170_1, kR170_2, kL171, kA171, kS171, kL172, kA172, kS172, kL173, kA173, kS173, kC174, kG174, kP174, kR174_0, kR174_1, kR174_2, kR174_3, kR174_4, kL175, kA175, kS175, kL176, kA176, kS176, kL177, kA177, kS177, kL178, kA178, kS178, kL179, kC180, kG180, kP180, kL181, kL182, kA182, kS182, kC183, kG183, kP183, kR183_1, kR183_3, kR183_5, kR183_6, kR183_7, kR183_8, kR183_9, kR183_21, kR183_26, kR183_27, kR183_30, kR183_31, kR183_33, kR183_34, kR183_36, kR183_37, kR183_38, kR183_39, kR183_40, kR183_41, kR183_42, kR183_43, kR183_44, kL184, kA184, kS184, kL185, kA185, kS185, kL186, kA186, kS186, kL187, kA187, kS187, kL188, kA188, kS188, kL189, kL190, kL191, kA191, kS191, kL192, kA192, kS192, kL193, kA193, kS193, kL194, kA194, kS194, kL195, kA195, kS195, kL196, kA196, kS196, kL197, kA197, kS197, kL198, kA198, kS198, kL199, kA199, kS199, kL200, kA200, kS200, kL201, kL202, kA202, kS202, kL203, kA203, kS203, kL204, kA204, kS204, kL205, kL206, kA206, kS206, hG.2.2.2.2.1, hn0, hb4, hfall, v1, hMz, kp, k0, k1, ← hI2, i1]
    · unfold f_X12_fall
      have ft := fallTurns_ok (σ := σ) (J := J) hS hGJ ho K2 hbN hbl m1 m2
      have fe := fallEnd_ok (σ := σ) (J := mkI J ea q) hS hGM ho KM hbN hbl m1 m2
      rw [← hw] at fe
      have e64M : mkI J ea q 191 64 = nI b := by rw [rM]; exact o4
      simp (disch := first | assumption | omega) only [Option.bind_some, Option.map_some, xw_gR, xw_gN, xw_al, xw_ck, xw_uI, xw_ur, xup_at, xur_at, if_true, if_false, reduceIte, and_true, true_and, and_false, false_and, not_true_eq_false, not_false_eq_true, Nat.reduceEqDiff, eq_self, Nat.reduceAdd, Nat.reduceMul, kC1, kG1, kP1, kR1_0, kR1_1, kR1_2, kR1_3, kR1_4, kR1_5, kR1_6, kR1_7, kR1_8, kR1_9, kR1_10, kR1_11, kR1_12, kR1_13, kC2, kG2, kP2, kR2_0, kR2_1, kC3, kG3, kP3, kR3_0, kR3_1, kR3_2, kR3_3, kL4, kA4, kS4, kL5, kA5, kS5, kL6, kA6, kS6, kL7, kA7, kS7, kC8, kG8, kP8, kR8_0, kR8_1, kL9, kA9, kS9, kL10, kA10, kS10, kC11, kG11, kP11, kR11_0, kR11_1, kR11_2, kR11_3, kL12, kA12, kS12, kL13, kA13, kS13, kL14, kA14, kS14, kL15, kA15, kS15, kC16, kG16, kP16, kR16_0, kR16_1, kL17, kA17, kS17, kL18, kA18, kS18, kC19, kG19, kP19, kR19_0, kL20, kL141, kL146, kA146, kS146, kL151, kA151, kS151, kL156, kA156, kS156, kC157, kG157, kP157, kR157_0, kR157_1, kL158, kA158, kS158, kL159, kA159, kS159, kC161, kG161, kP161, kR161_0, kR161_1, kL162, kA162, kS162, kL163, kA163, kS163, kC165, kG165, kP165, kR165_0, kR165_1, kR165_2, kR165_3, kL166, kA166, kS166, kL167, kA167, kS167, kL168, kA168, kS168, kL169, kA169, kS169, kC170, kG170, kP170, kR170_0, kR170_1, kR170_2, kL171, kA171, kS171, kL172, kA172, kS172, kL173, kA173, kS173, kC174, kG174, kP174, kR174_0, kR174_1, kR174_2, kR174_3, kR174_4, kL175, kA175, kS175, kL176, kA176, kS176, kL177, kA177, kS177, kL178, kA178, kS178, kL179, kC180, kG180, kP180, kL181, kL182, kA182, kS182, kC183, kG183, kP183, kR183_1, kR183_3, kR183_5, kR183_6, kR183_7, kR183_8, kR183_9, kR183_21, kR183_26, kR183_27, kR183_30, kR183_31, kR183_33, kR183_34, kR183_36, kR183_37, kR183_38, kR183_39, kR183_40, kR183_41, kR183_42, kR183_43, kR183_44, kL184, kA184, kS184, kL185, kA185, kS185, kL186, kA186, kS186, kL187, kA187, kS187, kL188, kA188, kS188, kL189, kL190, kL191, kA191, kS191, kL192, kA192, kS192, kL193, kA193, kS193, kL194, kA194, kS194, kL195, kA195, kS195, kL196, kA196, kS196, kL197, kA197, kS197, kL198, kA198, kS198, kL199, kA199, kS199, kL200, kA200, kS200, kL201, kL202, kA202, kS202, kL203, kA203, kS203, kL204, kA204, kS204, kL205, kL206, kA206, kS206, sites_ok hS hG2, hn0, e2, show (64 : Int32) = nI 64 from rfl, e64, ft, hMn, mk1, e64M, fe]
    · have hwb : w < 2 ^ gSz g := by have := (gSt_pos hfl.1).2; exact this
      have row : ∀ k, xI (xw σ B) 191 k = F k := fun k => by rw [xw_I, rB]
      refine INV_i (HB.hand (σ := xw σ B) hq hnx hea p3B ?_ (I2 := J) ?_ ?_ (Nat.le_refl _) (Nat.le_succ_of_le H.stn) (fun _ _ => rfl) (fun _ _ => rfl) ?_ ?_ ?_)
      · intro i hi
        exact LV_m (I := xI σ) hg (fun k _ _ => bk1 _ k (by omega) (by omega) (by omega)) (fun k _ => bk1 _ k (by omega) (by omega) (by omega)) (fun k _ => bk1 _ k (by omega) (by omega) (by omega)) (fun k _ => bk1 193 _ (by omega) (by omega) (by omega)) (Nat.le_refl _) (fun _ _ => rfl) (fun _ _ => rfl) (p8 i hi)
      · intro a k h
        exact hJ a k (by omega)
      · intro a k h; rw [xup_at, if_neg (by omega)]
      · rw [xup_at, if_neg (by omega), um _ _ (by omega) (by omega), hJ _ _ (by omega), kpI_out (by omega) (by omega), uB _ _ (by omega), u1 _ _ (by omega)]; exact H.sts
      · have j16 : ∀ a k, 16 ≤ a → a ≤ 18 → ¬ (a = 16 ∧ k = 4) → J a k = xI σ a k := fun a k h1 h2 h3 => by
          rw [uJ a k (by omega) (by omega), ui2 a k h3 (by omega) (by omega), u1 _ _ (by omega)]
        refine LV_state (I := xI σ) hg (b := w) H.now ?_ ?_ ?_ ?_ ?_ hwb ?_
        · intro k hk; rw [xup_at, if_neg (by omega), um _ _ (by omega) (by omega), j16 16 k (by omega) (by omega) (by omega)]
        · rw [xup_at, if_neg (by omega), um _ _ (by omega) (by omega), uJ _ _ (by omega) (by omega), hI2, xup_at, if_pos ⟨rfl, rfl⟩]
        · intro a k h1 h2; rw [xup_at, if_neg (by omega), um _ _ (by omega) (by omega), j16 a k (by omega) (by omega) (by omega)]
        · intro k hk; rw [xup_at, if_neg (by omega), rM, hF]
        · rw [xup_at, if_pos ⟨rfl, rfl⟩]
        · intro i hi hne
          rw [← hF] at hne ⊢
          exact lW_iff.mp hfl.2 i hi hne
      · refine .inr ⟨?_, ?_⟩
        · rw [xup_at, if_neg (by omega), um _ _ (by omega) (by omega)]; exact k32
        · refine KNK_c (I := mkI J ea q) (F := F) hg (fun a k h => by rw [xup_at, if_neg (by omega)]) (fun k hk => ?_) KM
          rw [xup_at, if_neg (by omega), rM]
end
section
/-! state -/
theorem n11 : (nI 1 = 1) = True := eq_true rfl
theorem n00 : (nI 0 = 0) = True := eq_true rfl
theorem n01 : (nI 0 = 1) = False := eq_false (by decide)
theorem n10 : (nI 1 = 0) = False := eq_false (by decide)
theorem ct_pairs (p : Nat → Bool) : ∀ n, fb_ct (fun k => p (k / 2 + 16 * (k % 2))) (2 * n) = fb_ct p n + fb_ct (fun i => p (16 + i)) n := by
  intro n
  induction n with
  | zero => rfl
  | succ n ih =>
    rw [show 2 * (n + 1) = 2 * n + 1 + 1 by omega, fb_ct_succ, fb_ct_succ, ih, fb_ct_succ, fb_ct_succ]
    rw [show 2 * n / 2 + 16 * (2 * n % 2) = n by omega, show (2 * n + 1) / 2 + 16 * ((2 * n + 1) % 2) = 16 + n by omega]
    omega
theorem ct_ties {g : GD} (hg : g ∈ gAll) (p : Nat → Bool) (h : ∀ t, t < 32 → gTo g t = none → p t = false) : fb_ct (fun k => p (k / 2 + 16 * (k % 2))) (2 * gSz g) = fb_ct p 32 := by
  have h16 := (gAll_b g hg).2.2.1
  rw [ct_pairs, show (32 : Nat) = 16 + 16 from rfl, fb_ct_split p 16 16]
  have z : ∀ (q : Nat → Bool), (∀ i, gSz g ≤ i → i < 16 → q i = false) → fb_ct q 16 = fb_ct q (gSz g) := by
    intro q hq
    have := fb_ct_split q (gSz g) (16 - gSz g)
    rw [show gSz g + (16 - gSz g) = 16 by omega] at this
    rw [this, fb_ct_zero.mpr (fun k hk => hq (gSz g + k) (by omega) (by omega))]
    rfl
  rw [z p (fun i h1 h2 => h i (by omega) (gap g hg i (by omega) (by unfold gFr; rw [if_pos h2]; exact h1))), z (fun i => p (16 + i)) (fun i h1 h2 => h (16 + i) (by omega) (gap g hg (16 + i) (by omega) (by unfold gFr; rw [if_neg (by omega)]; omega)))]
section BROKEN
variable {σ : XS} {J : Nat → Nat → Int32} {g : GD} {F : Nat → Int32}
theorem neg_F {x : Int32} : (0 ≤ x) = ¬ (x.toInt < 0) := by
  rw [fa_le]
  apply propext
  show 0 ≤ x.toInt ↔ _
  omega
theorem broken11_ok (hS : Shp σ) (hG : GRD J g) (hSR : SR g J 16 F) {s : Nat} (hs : s < 2147483648) : f_X3_brokenOf (xw σ J) 11 16 (nI s) = some (nI (bk g F s)) := by
  unfold f_X3_brokenOf bk
  refine xforE (fun t : Nat => (nI (fb_ct (bkP g F s) t), nI t)) 32 rfl (fun t ht => ?_) ?_
  · simp only [f_X3_brokenOf_b5]
    rw [if_neg (by rw [show (32 : Int32) = nI 32 from rfl, nn_le (by omega) (by omega)]; omega)]
    simp (disch := first | assumption | omega) only [Option.bind_some, Option.map_some, xw_gR, xw_gN, xw_al, xw_ck, xw_uI, xw_ur, xup_at, xur_at, if_true, if_false, reduceIte, and_true, true_and, and_false, false_and, not_true_eq_false, not_false_eq_true, Nat.reduceEqDiff, eq_self, Nat.reduceAdd, Nat.reduceMul, kC1, kG1, kP1, kR1_0, kR1_1, kR1_2, kR1_3, kR1_4, kR1_5, kR1_6, kR1_7, kR1_8, kR1_9, kR1_10, kR1_11, kR1_12, kR1_13, kC2, kG2, kP2, kR2_0, kR2_1, kC3, kG3, kP3, kR3_0, kR3_1, kR3_2, kR3_3, kL4, kA4, kS4, kL5, kA5, kS5, kL6, kA6, kS6, kL7, kA7, kS7, kC8, kG8, kP8, kR8_0, kR8_1, kL9, kA9, kS9, kL10, kA10, kS10, kC11, kG11, kP11, kR11_0, kR11_1, kR11_2, kR11_3, kL12, kA12, kS12, kL13, kA13, kS13, kL14, kA14, kS14, kL15, kA15, kS15, kC16, kG16, kP16, kR16_0, kR16_1, kL17, kA17, kS17, kL18, kA18, kS18, kC19, kG19, kP19, kR19_0, kL20, kL141, kL146, kA146, kS146, kL151, kA151, kS151, kL156, kA156, kS156, kC157, kG157, kP157, kR157_0, kR157_1, kL158, kA158, kS158, kL159, kA159, kS159, kC161, kG161, kP161, kR161_0, kR161_1, kL162, kA162, kS162, kL163, kA163, kS163, kC165, kG165, kP165, kR165_0, kR165_1, kR165_2, kR165_3, kL166, kA166, kS166, kL167, kA167, kS167, kL168, kA168, kS168, kL169, kA169, kS169, kC170, kG170, kP170, kR170_0, kR170_1, kR170_2, kL171, kA171, kS171, kL172, kA172, kS172, kL173, kA173, kS173, kC174, kG174, kP174, kR174_0, kR174_1, kR174_2, kR174_3, kR174_4, kL175, kA175, kS175, kL176, kA176, kS176, kL177, kA177, kS177, kL178, kA178, kS178, kL179, kC180, kG180, kP180, kL181, kL182, kA182, kS182, kC183, kG183, kP183, kR183_1, kR183_3, kR183_5, kR183_6, kR183_7, kR183_8, kR183_9, kR183_21, kR183_26, kR183_27, kR183_30, kR183_31, kR183_33, kR183_34, kR183_36, kR183_37, kR183_38, kR183_39, kR183_40, kR183_41, kR183_42, kR183_43, kR183_44, kL184, kA184, kS184, kL185, kA185, kS185, kL186, kA186, kS186, kL187, kA187, kS187, kL188, kA188, kS188, kL189, kL190, kL191, kA191, kS191, kL192, kA192, kS192, kL193, kA193, kS193, kL194, kA194, kS194, kL195, kA195, kS195, kL196, kA196, kS196, kL197, kA197, kS197, kL198, kA198, kS198, kL199, kA199, kS199, kL200, kA200, kS200, kL201, kL202, kA202, kS202, kL203, kA203, kS203, kL204, kA204, kS204, kL205, kL206, kA206, kS206, bondAt_ok hS suA_16 ht, endAt_ok hS hG ht, oI_none (gTo_s hG.1 ht)]
    have hv := hSR.1 t ht
    rw [fb_ct_succ, ← nI_succ]
    unfold bkP
    cases he : gTo g t with
    | none => simp
    | some e =>
      rw [he] at hv
      have hv2 : J 17 t = F t := hv
      rw [if_neg (by simp), hv2, isAlike_ok hS hG hs ht he]
      by_cases h0 : F t = 0
      · simp [h0]
      · rw [if_neg h0]
        simp (disch := first | assumption | omega) only [Option.bind_some, Option.map_some, xw_gR, xw_gN, xw_al, xw_ck, xw_uI, xw_ur, xup_at, xur_at, if_true, if_false, reduceIte, and_true, true_and, and_false, false_and, not_true_eq_false, not_false_eq_true, Nat.reduceEqDiff, eq_self, Nat.reduceAdd, Nat.reduceMul, kC1, kG1, kP1, kR1_0, kR1_1, kR1_2, kR1_3, kR1_4, kR1_5, kR1_6, kR1_7, kR1_8, kR1_9, kR1_10, kR1_11, kR1_12, kR1_13, kC2, kG2, kP2, kR2_0, kR2_1, kC3, kG3, kP3, kR3_0, kR3_1, kR3_2, kR3_3, kL4, kA4, kS4, kL5, kA5, kS5, kL6, kA6, kS6, kL7, kA7, kS7, kC8, kG8, kP8, kR8_0, kR8_1, kL9, kA9, kS9, kL10, kA10, kS10, kC11, kG11, kP11, kR11_0, kR11_1, kR11_2, kR11_3, kL12, kA12, kS12, kL13, kA13, kS13, kL14, kA14, kS14, kL15, kA15, kS15, kC16, kG16, kP16, kR16_0, kR16_1, kL17, kA17, kS17, kL18, kA18, kS18, kC19, kG19, kP19, kR19_0, kL20, kL141, kL146, kA146, kS146, kL151, kA151, kS151, kL156, kA156, kS156, kC157, kG157, kP157, kR157_0, kR157_1, kL158, kA158, kS158, kL159, kA159, kS159, kC161, kG161, kP161, kR161_0, kR161_1, kL162, kA162, kS162, kL163, kA163, kS163, kC165, kG165, kP165, kR165_0, kR165_1, kR165_2, kR165_3, kL166, kA166, kS166, kL167, kA167, kS167, kL168, kA168, kS168, kL169, kA169, kS169, kC170, kG170, kP170, kR170_0, kR170_1, kR170_2, kL171, kA171, kS171, kL172, kA172, kS172, kL173, kA173, kS173, kC174, kG174, kP174, kR174_0, kR174_1, kR174_2, kR174_3, kR174_4, kL175, kA175, kS175, kL176, kA176, kS176, kL177, kA177, kS177, kL178, kA178, kS178, kL179, kC180, kG180, kP180, kL181, kL182, kA182, kS182, kC183, kG183, kP183, kR183_1, kR183_3, kR183_5, kR183_6, kR183_7, kR183_8, kR183_9, kR183_21, kR183_26, kR183_27, kR183_30, kR183_31, kR183_33, kR183_34, kR183_36, kR183_37, kR183_38, kR183_39, kR183_40, kR183_41, kR183_42, kR183_43, kR183_44, kL184, kA184, kS184, kL185, kA185, kS185, kL186, kA186, kS186, kL187, kA187, kS187, kL188, kA188, kS188, kL189, kL190, kL191, kA191, kS191, kL192, kA192, kS192, kL193, kA193, kS193, kL194, kA194, kS194, kL195, kA195, kS195, kL196, kA196, kS196, kL197, kA197, kS197, kL198, kA198, kS198, kL199, kA199, kS199, kL200, kA200, kS200, kL201, kL202, kA202, kS202, kL203, kA203, kS203, kL204, kA204, kS204, kL205, kL206, kA206, kS206]
        unfold f_X3_brokenOf_j52
        simp only [neg_F, ← nI_succ]
        by_cases hn : (F t).toInt < 0
        · by_cases hb : s.testBit (gFr t) = s.testBit e
          · simp [hn, h0, hb, n11]
          · simp [hn, h0, hb, n01]
        · by_cases hb : s.testBit (gFr t) = s.testBit e
          · simp [hn, h0, hb, n10]
          · simp [hn, h0, hb, n00]
  · simp only [f_X3_brokenOf_b5]
    rw [if_pos (by decide)]
    rfl
theorem broken12_ok (hS : Shp σ) (hG : GRD J g) (hr : J 191 = F) {s : Nat} (hs : s < 2147483648) : f_X12_brokenOf (xw σ J) 183 (nI s) = some (nI (bk g F s)) := by
  have hg := hG.1
  have h16 := (gAll_b g hg).2.2.1
  unfold f_X12_brokenOf bk
  rw [← ct_ties hg (bkP g F s) (fun t ht h => by unfold bkP; rw [h])]
  refine xforE (fun k : Nat => (nI (fb_ct (fun k => bkP g F s (k / 2 + 16 * (k % 2))) k), nI k)) (2 * gSz g) rfl (fun k hk => ?_) ?_
  · simp only [f_X12_brokenOf_b4]
    obtain ⟨i, hi⟩ : ∃ i, i = k / 2 := ⟨_, rfl⟩
    obtain ⟨b, hb⟩ : ∃ b, b = k % 2 := ⟨_, rfl⟩
    have hi2 : i < gSz g := by omega
    have hb2 : b < 2 := by omega
    have ht : i + 16 * b < 32 := by omega
    have main : f_X12_brokenOf_j31 (xw σ J) 183 (nI s) (nI (fb_ct (fun k => bkP g F s (k / 2 + 16 * (k % 2))) k)) (nI k) (nI i) (nI b) = some (.inl (nI (fb_ct (fun k => bkP g F s (k / 2 + 16 * (k % 2))) (k + 1)), nI (k + 1))) := by
      have jo : f_X12_jOf (xw σ J) 191 (nI i) (nI b) = some (F (i + 16 * b)) := by
        rw [← hr]
        unfold f_X12_jOf
        rcases (show b = 0 ∨ b = 1 by omega) with rfl | rfl
        · simp (disch := first | assumption | omega) only [Option.bind_some, Option.map_some, xw_gR, xw_gN, xw_al, xw_ck, xw_uI, xw_ur, xup_at, xur_at, if_true, if_false, reduceIte, and_true, true_and, and_false, false_and, not_true_eq_false, not_false_eq_true, Nat.reduceEqDiff, eq_self, Nat.reduceAdd, Nat.reduceMul, kC1, kG1, kP1, kR1_0, kR1_1, kR1_2, kR1_3, kR1_4, kR1_5, kR1_6, kR1_7, kR1_8, kR1_9, kR1_10, kR1_11, kR1_12, kR1_13, kC2, kG2, kP2, kR2_0, kR2_1, kC3, kG3, kP3, kR3_0, kR3_1, kR3_2, kR3_3, kL4, kA4, kS4, kL5, kA5, kS5, kL6, kA6, kS6, kL7, kA7, kS7, kC8, kG8, kP8, kR8_0, kR8_1, kL9, kA9, kS9, kL10, kA10, kS10, kC11, kG11, kP11, kR11_0, kR11_1, kR11_2, kR11_3, kL12, kA12, kS12, kL13, kA13, kS13, kL14, kA14, kS14, kL15, kA15, kS15, kC16, kG16, kP16, kR16_0, kR16_1, kL17, kA17, kS17, kL18, kA18, kS18, kC19, kG19, kP19, kR19_0, kL20, kL141, kL146, kA146, kS146, kL151, kA151, kS151, kL156, kA156, kS156, kC157, kG157, kP157, kR157_0, kR157_1, kL158, kA158, kS158, kL159, kA159, kS159, kC161, kG161, kP161, kR161_0, kR161_1, kL162, kA162, kS162, kL163, kA163, kS163, kC165, kG165, kP165, kR165_0, kR165_1, kR165_2, kR165_3, kL166, kA166, kS166, kL167, kA167, kS167, kL168, kA168, kS168, kL169, kA169, kS169, kC170, kG170, kP170, kR170_0, kR170_1, kR170_2, kL171, kA171, kS171, kL172, kA172, kS172, kL173, kA173, kS173, kC174, kG174, kP174, kR174_0, kR174_1, kR174_2, kR174_3, kR174_4, kL175, kA175, kS175, kL176, kA176, kS176, kL177, kA177, kS177, kL178, kA178, kS178, kL179, kC180, kG180, kP180, kL181, kL182, kA182, kS182, kC183, kG183, kP183, kR183_1, kR183_3, kR183_5, kR183_6, kR183_7, kR183_8, kR183_9, kR183_21, kR183_26, kR183_27, kR183_30, kR183_31, kR183_33, kR183_34, kR183_36, kR183_37, kR183_38, kR183_39, kR183_40, kR183_41, kR183_42, kR183_43, kR183_44, kL184, kA184, kS184, kL185, kA185, kS185, kL186, kA186, kS186, kL187, kA187, kS187, kL188, kA188, kS188, kL189, kL190, kL191, kA191, kS191, kL192, kA192, kS192, kL193, kA193, kS193, kL194, kA194, kS194, kL195, kA195, kS195, kL196, kA196, kS196, kL197, kA197, kS197, kL198, kA198, kS198, kL199, kA199, kS199, kL200, kA200, kS200, kL201, kL202, kA202, kS202, kL203, kA203, kS203, kL204, kA204, kS204, kL205, kL206, kA206, kS206, show (nI 0 = 0) = True from eq_true rfl, show (0 : Int32) = nI 0 from rfl, nn_add, Nat.zero_add]
          rfl
        · simp (disch := first | assumption | omega) only [Option.bind_some, Option.map_some, xw_gR, xw_gN, xw_al, xw_ck, xw_uI, xw_ur, xup_at, xur_at, if_true, if_false, reduceIte, and_true, true_and, and_false, false_and, not_true_eq_false, not_false_eq_true, Nat.reduceEqDiff, eq_self, Nat.reduceAdd, Nat.reduceMul, kC1, kG1, kP1, kR1_0, kR1_1, kR1_2, kR1_3, kR1_4, kR1_5, kR1_6, kR1_7, kR1_8, kR1_9, kR1_10, kR1_11, kR1_12, kR1_13, kC2, kG2, kP2, kR2_0, kR2_1, kC3, kG3, kP3, kR3_0, kR3_1, kR3_2, kR3_3, kL4, kA4, kS4, kL5, kA5, kS5, kL6, kA6, kS6, kL7, kA7, kS7, kC8, kG8, kP8, kR8_0, kR8_1, kL9, kA9, kS9, kL10, kA10, kS10, kC11, kG11, kP11, kR11_0, kR11_1, kR11_2, kR11_3, kL12, kA12, kS12, kL13, kA13, kS13, kL14, kA14, kS14, kL15, kA15, kS15, kC16, kG16, kP16, kR16_0, kR16_1, kL17, kA17, kS17, kL18, kA18, kS18, kC19, kG19, kP19, kR19_0, kL20, kL141, kL146, kA146, kS146, kL151, kA151, kS151, kL156, kA156, kS156, kC157, kG157, kP157, kR157_0, kR157_1, kL158, kA158, kS158, kL159, kA159, kS159, kC161, kG161, kP161, kR161_0, kR161_1, kL162, kA162, kS162, kL163, kA163, kS163, kC165, kG165, kP165, kR165_0, kR165_1, kR165_2, kR165_3, kL166, kA166, kS166, kL167, kA167, kS167, kL168, kA168, kS168, kL169, kA169, kS169, kC170, kG170, kP170, kR170_0, kR170_1, kR170_2, kL171, kA171, kS171, kL172, kA172, kS172, kL173, kA173, kS173, kC174, kG174, kP174, kR174_0, kR174_1, kR174_2, kR174_3, kR174_4, kL175, kA175, kS175, kL176, kA176, kS176, kL177, kA177, kS177, kL178, kA178, kS178, kL179, kC180, kG180, kP180, kL181, kL182, kA182, kS182, kC183, kG183, kP183, kR183_1, kR183_3, kR183_5, kR183_6, kR183_7, kR183_8, kR183_9, kR183_21, kR183_26, kR183_27, kR183_30, kR183_31, kR183_33, kR183_34, kR183_36, kR183_37, kR183_38, kR183_39, kR183_40, kR183_41, kR183_42, kR183_43, kR183_44, kL184, kA184, kS184, kL185, kA185, kS185, kL186, kA186, kS186, kL187, kA187, kS187, kL188, kA188, kS188, kL189, kL190, kL191, kA191, kS191, kL192, kA192, kS192, kL193, kA193, kS193, kL194, kA194, kS194, kL195, kA195, kS195, kL196, kA196, kS196, kL197, kA197, kS197, kL198, kA198, kS198, kL199, kA199, kS199, kL200, kA200, kS200, kL201, kL202, kA202, kS202, kL203, kA203, kS203, kL204, kA204, kS204, kL205, kL206, kA206, kS206, show (nI 1 = 0) = False from eq_false (by decide), show (16 : Int32) = nI 16 from rfl, nn_add, Nat.add_comm 16 i]
      unfold f_X12_brokenOf_j31
      simp (disch := first | assumption | omega) only [Option.bind_some, Option.map_some, xw_gR, xw_gN, xw_al, xw_ck, xw_uI, xw_ur, xup_at, xur_at, if_true, if_false, reduceIte, and_true, true_and, and_false, false_and, not_true_eq_false, not_false_eq_true, Nat.reduceEqDiff, eq_self, Nat.reduceAdd, Nat.reduceMul, kC1, kG1, kP1, kR1_0, kR1_1, kR1_2, kR1_3, kR1_4, kR1_5, kR1_6, kR1_7, kR1_8, kR1_9, kR1_10, kR1_11, kR1_12, kR1_13, kC2, kG2, kP2, kR2_0, kR2_1, kC3, kG3, kP3, kR3_0, kR3_1, kR3_2, kR3_3, kL4, kA4, kS4, kL5, kA5, kS5, kL6, kA6, kS6, kL7, kA7, kS7, kC8, kG8, kP8, kR8_0, kR8_1, kL9, kA9, kS9, kL10, kA10, kS10, kC11, kG11, kP11, kR11_0, kR11_1, kR11_2, kR11_3, kL12, kA12, kS12, kL13, kA13, kS13, kL14, kA14, kS14, kL15, kA15, kS15, kC16, kG16, kP16, kR16_0, kR16_1, kL17, kA17, kS17, kL18, kA18, kS18, kC19, kG19, kP19, kR19_0, kL20, kL141, kL146, kA146, kS146, kL151, kA151, kS151, kL156, kA156, kS156, kC157, kG157, kP157, kR157_0, kR157_1, kL158, kA158, kS158, kL159, kA159, kS159, kC161, kG161, kP161, kR161_0, kR161_1, kL162, kA162, kS162, kL163, kA163, kS163, kC165, kG165, kP165, kR165_0, kR165_1, kR165_2, kR165_3, kL166, kA166, kS166, kL167, kA167, kS167, kL168, kA168, kS168, kL169, kA169, kS169, kC170, kG170, kP170, kR170_0, kR170_1, kR170_2, kL171, kA171, kS171, kL172, kA172, kS172, kL173, kA173, kS173, kC174, kG174, kP174, kR174_0, kR174_1, kR174_2, kR174_3, kR174_4, kL175, kA175, kS175, kL176, kA176, kS176, kL177, kA177, kS177, kL178, kA178, kS178, kL179, kC180, kG180, kP180, kL181, kL182, kA182, kS182, kC183, kG183, kP183, kR183_1, kR183_3, kR183_5, kR183_6, kR183_7, kR183_8, kR183_9, kR183_21, kR183_26, kR183_27, kR183_30, kR183_31, kR183_33, kR183_34, kR183_36, kR183_37, kR183_38, kR183_39, kR183_40, kR183_41, kR183_42, kR183_43, kR183_44, kL184, kA184, kS184, kL185, kA185, kS185, kL186, kA186, kS186, kL187, kA187, kS187, kL188, kA188, kS188, kL189, kL190, kL191, kA191, kS191, kL192, kA192, kS192, kL193, kA193, kS193, kL194, kA194, kS194, kL195, kA195, kS195, kL196, kA196, kS196, kL197, kA197, kS197, kL198, kA198, kS198, kL199, kA199, kS199, kL200, kA200, kS200, kL201, kL202, kA202, kS202, kL203, kA203, kS203, kL204, kA204, kS204, kL205, kL206, kA206, kS206, tieTo_ok hS hG hb2 hi2, jo, oI_neg (gTo_s hg ht)]
      rw [fb_ct_succ, ← hi, ← hb, ← nI_succ]
      have hf : gFr (i + 16 * b) = i := by
        unfold gFr
        rcases (show b = 0 ∨ b = 1 by omega) with rfl | rfl
        · rw [if_pos (by omega)]; omega
        · rw [if_neg (by omega)]; omega
      unfold bkP
      cases he : gTo g (i + 16 * b) with
      | none => simp
      | some e =>
        have heb := gTo_b g hg _ ht e he
        rw [if_neg (by simp)]
        by_cases h0 : F (i + 16 * b) = 0
        · simp [h0]
        · rw [if_neg h0, has_ok hs (by omega), Option.bind_some]
          show ((f_X12_has (nI s) (nI e)).bind _) = _
          rw [has_ok hs (by omega), Option.bind_some]
          unfold f_X12_brokenOf_j89 f_X12_brokenOf_j99
          simp only [neg_F, bI_eq, hf, ← nI_succ]
          by_cases hn : (F (i + 16 * b)).toInt < 0
          · by_cases hbb : s.testBit i = s.testBit e
            · simp [hn, h0, hbb]
            · simp [hn, h0, hbb]
          · by_cases hbb : s.testBit i = s.testBit e
            · simp [hn, h0, hbb]
            · simp [hn, h0, hbb]
    simp (disch := first | assumption | omega) only [Option.bind_some, Option.map_some, xw_gR, xw_gN, xw_al, xw_ck, xw_uI, xw_ur, xup_at, xur_at, if_true, if_false, reduceIte, and_true, true_and, and_false, false_and, not_true_eq_false, not_false_eq_true, Nat.reduceEqDiff, eq_self, Nat.reduceAdd, Nat.reduceMul, kC1, kG1, kP1, kR1_0, kR1_1, kR1_2, kR1_3, kR1_4, kR1_5, kR1_6, kR1_7, kR1_8, kR1_9, kR1_10, kR1_11, kR1_12, kR1_13, kC2, kG2, kP2, kR2_0, kR2_1, kC3, kG3, kP3, kR3_0, kR3_1, kR3_2, kR3_3, kL4, kA4, kS4, kL5, kA5, kS5, kL6, kA6, kS6, kL7, kA7, kS7, kC8, kG8, kP8, kR8_0, kR8_1, kL9, kA9, kS9, kL10, kA10, kS10, kC11, kG11, kP11, kR11_0, kR11_1, kR11_2, kR11_3, kL12, kA12, kS12, kL13, kA13, kS13, kL14, kA14, kS14, kL15, kA15, kS15, kC16, kG16, kP16, kR16_0, kR16_1, kL17, kA17, kS17, kL18, kA18, kS18, kC19, kG19, kP19, kR19_0, kL20, kL141, kL146, kA146, kS146, kL151, kA151, kS151, kL156, kA156, kS156, kC157, kG157, kP157, kR157_0, kR157_1, kL158, kA158, kS158, kL159, kA159, kS159, kC161, kG161, kP161, kR161_0, kR161_1, kL162, kA162, kS162, kL163, kA163, kS163, kC165, kG165, kP165, kR165_0, kR165_1, kR165_2, kR165_3, kL166, kA166, kS166, kL167, kA167, kS167, kL168, kA168, kS168, kL169, kA169, kS169, kC170, kG170, kP170, kR170_0, kR170_1, kR170_2, kL171, kA171, kS171, kL172, kA172, kS172, kL173, kA173, kS173, kC174, kG174, kP174, kR174_0, kR174_1, kR174_2, kR174_3, kR174_4, kL175, kA175, kS175, kL176, kA176, kS176, kL177, kA177, kS177, kL178, kA178, kS178, kL179, kC180, kG180, kP180, kL181, kL182, kA182, kS182, kC183, kG183, kP183, kR183_1, kR183_3, kR183_5, kR183_6, kR183_7, kR183_8, kR183_9, kR183_21, kR183_26, kR183_27, kR183_30, kR183_31, kR183_33, kR183_34, kR183_36, kR183_37, kR183_38, kR183_39, kR183_40, kR183_41, kR183_42, kR183_43, kR183_44, kL184, kA184, kS184, kL185, kA185, kS185, kL186, kA186, kS186, kL187, kA187, kS187, kL188, kA188, kS188, kL189, kL190, kL191, kA191, kS191, kL192, kA192, kS192, kL193, kA193, kS193, kL194, kA194, kS194, kL195, kA195, kS195, kL196, kA196, kS196, kL197, kA197, kS197, kL198, kA198, kS198, kL199, kA199, kS199, kL200, kA200, kS200, kL201, kL202, kA202, kS202, kL203, kA203, kS203, kL204, kA204, kS204, kL205, kL206, kA206, kS206, sites_ok hS hG, show (2 : Int32) = nI 2 from rfl, nn_mul, nn_le, show ¬ (2 * gSz g ≤ k) by omega, nn_rem]
    have e2 : nI k / nI 2 = nI i := by rw [nn_div (by omega) (by omega), hi]
    have er : (nI (k % 2) = 1) = (k % 2 = 1) := nn_eq (b := 1) (by omega) (by decide)
    have er' : nI k - nI k / nI 2 * nI 2 = nI (k % 2) := nn_rem (by omega) (by omega)
    first
      | rw [er']
      | skip
    simp only [e2, er]
    rcases (show b = 0 ∨ b = 1 by omega) with rfl | rfl
    · rw [if_neg (by omega)]
      exact main
    · rw [if_pos (by omega)]
      exact main
  · simp only [f_X12_brokenOf_b4]
    simp (disch := first | assumption | omega) only [Option.bind_some, Option.map_some, xw_gR, xw_gN, xw_al, xw_ck, xw_uI, xw_ur, xup_at, xur_at, if_true, if_false, reduceIte, and_true, true_and, and_false, false_and, not_true_eq_false, not_false_eq_true, Nat.reduceEqDiff, eq_self, Nat.reduceAdd, Nat.reduceMul, kC1, kG1, kP1, kR1_0, kR1_1, kR1_2, kR1_3, kR1_4, kR1_5, kR1_6, kR1_7, kR1_8, kR1_9, kR1_10, kR1_11, kR1_12, kR1_13, kC2, kG2, kP2, kR2_0, kR2_1, kC3, kG3, kP3, kR3_0, kR3_1, kR3_2, kR3_3, kL4, kA4, kS4, kL5, kA5, kS5, kL6, kA6, kS6, kL7, kA7, kS7, kC8, kG8, kP8, kR8_0, kR8_1, kL9, kA9, kS9, kL10, kA10, kS10, kC11, kG11, kP11, kR11_0, kR11_1, kR11_2, kR11_3, kL12, kA12, kS12, kL13, kA13, kS13, kL14, kA14, kS14, kL15, kA15, kS15, kC16, kG16, kP16, kR16_0, kR16_1, kL17, kA17, kS17, kL18, kA18, kS18, kC19, kG19, kP19, kR19_0, kL20, kL141, kL146, kA146, kS146, kL151, kA151, kS151, kL156, kA156, kS156, kC157, kG157, kP157, kR157_0, kR157_1, kL158, kA158, kS158, kL159, kA159, kS159, kC161, kG161, kP161, kR161_0, kR161_1, kL162, kA162, kS162, kL163, kA163, kS163, kC165, kG165, kP165, kR165_0, kR165_1, kR165_2, kR165_3, kL166, kA166, kS166, kL167, kA167, kS167, kL168, kA168, kS168, kL169, kA169, kS169, kC170, kG170, kP170, kR170_0, kR170_1, kR170_2, kL171, kA171, kS171, kL172, kA172, kS172, kL173, kA173, kS173, kC174, kG174, kP174, kR174_0, kR174_1, kR174_2, kR174_3, kR174_4, kL175, kA175, kS175, kL176, kA176, kS176, kL177, kA177, kS177, kL178, kA178, kS178, kL179, kC180, kG180, kP180, kL181, kL182, kA182, kS182, kC183, kG183, kP183, kR183_1, kR183_3, kR183_5, kR183_6, kR183_7, kR183_8, kR183_9, kR183_21, kR183_26, kR183_27, kR183_30, kR183_31, kR183_33, kR183_34, kR183_36, kR183_37, kR183_38, kR183_39, kR183_40, kR183_41, kR183_42, kR183_43, kR183_44, kL184, kA184, kS184, kL185, kA185, kS185, kL186, kA186, kS186, kL187, kA187, kS187, kL188, kA188, kS188, kL189, kL190, kL191, kA191, kS191, kL192, kA192, kS192, kL193, kA193, kS193, kL194, kA194, kS194, kL195, kA195, kS195, kL196, kA196, kS196, kL197, kA197, kS197, kL198, kA198, kS198, kL199, kA199, kS199, kL200, kA200, kS200, kL201, kL202, kA202, kS202, kL203, kA203, kS203, kL204, kA204, kS204, kL205, kL206, kA206, kS206, sites_ok hS hG, show (2 : Int32) = nI 2 from rfl, nn_mul, nn_le, Nat.le_refl]
end BROKEN
end
section
theorem numberOf_ok {σ : XS} {J : Nat → Nat → Int32} {g : GD} {F : Nat → Int32} (hS : Shp σ) (hL : LVK J g F) {e : Nat} (he : e < 289) (hp : lvP g F e = true) : f_X4_numberOf (xw σ J) 165 (iI ((e : Int) - 144)) = some (nI (fb_ct (lvP g F) e)) := by
  have hlt := lvl_lt he hp
  have hlb := lvN_b g F
  unfold f_X4_numberOf
  refine xforE (fun i : Nat => nI i) (fb_ct (lvP g F) e) rfl (fun i hi => ?_) ?_
  · obtain ⟨k, hk, hpk, hki⟩ := lvl_at (g := g) (F := F) (i := i) (by omega)
    have hv := hL.2.2.2.2 k hk hpk
    rw [hki] at hv
    have hne : (iI ((k : Int) - 144) = iI ((e : Int) - 144)) = False := by
      rw [iI_eq (by omega) (by omega) (by omega) (by omega)]
      apply eq_false
      intro z
      have : k = e := by omega
      rw [this] at hki; omega
    simp only [f_X4_numberOf_b2]
    simp (disch := first | assumption | omega) only [Option.bind_some, Option.map_some, xw_gR, xw_gN, xw_al, xw_ck, xw_uI, xw_ur, xup_at, xur_at, if_true, if_false, reduceIte, and_true, true_and, and_false, false_and, not_true_eq_false, not_false_eq_true, Nat.reduceEqDiff, eq_self, Nat.reduceAdd, Nat.reduceMul, kC1, kG1, kP1, kR1_0, kR1_1, kR1_2, kR1_3, kR1_4, kR1_5, kR1_6, kR1_7, kR1_8, kR1_9, kR1_10, kR1_11, kR1_12, kR1_13, kC2, kG2, kP2, kR2_0, kR2_1, kC3, kG3, kP3, kR3_0, kR3_1, kR3_2, kR3_3, kL4, kA4, kS4, kL5, kA5, kS5, kL6, kA6, kS6, kL7, kA7, kS7, kC8, kG8, kP8, kR8_0, kR8_1, kL9, kA9, kS9, kL10, kA10, kS10, kC11, kG11, kP11, kR11_0, kR11_1, kR11_2, kR11_3, kL12, kA12, kS12, kL13, kA13, kS13, kL14, kA14, kS14, kL15, kA15, kS15, kC16, kG16, kP16, kR16_0, kR16_1, kL17, kA17, kS17, kL18, kA18, kS18, kC19, kG19, kP19, kR19_0, kL20, kL141, kL146, kA146, kS146, kL151, kA151, kS151, kL156, kA156, kS156, kC157, kG157, kP157, kR157_0, kR157_1, kL158, kA158, kS158, kL159, kA159, kS159, kC161, kG161, kP161, kR161_0, kR161_1, kL162, kA162, kS162, kL163, kA163, kS163, kC165, kG165, kP165, kR165_0, kR165_1, kR165_2, kR165_3, kL166, kA166, kS166, kL167, kA167, kS167, kL168, kA168, kS168, kL169, kA169, kS169, kC170, kG170, kP170, kR170_0, kR170_1, kR170_2, kL171, kA171, kS171, kL172, kA172, kS172, kL173, kA173, kS173, kC174, kG174, kP174, kR174_0, kR174_1, kR174_2, kR174_3, kR174_4, kL175, kA175, kS175, kL176, kA176, kS176, kL177, kA177, kS177, kL178, kA178, kS178, kL179, kC180, kG180, kP180, kL181, kL182, kA182, kS182, kC183, kG183, kP183, kR183_1, kR183_3, kR183_5, kR183_6, kR183_7, kR183_8, kR183_9, kR183_21, kR183_26, kR183_27, kR183_30, kR183_31, kR183_33, kR183_34, kR183_36, kR183_37, kR183_38, kR183_39, kR183_40, kR183_41, kR183_42, kR183_43, kR183_44, kL184, kA184, kS184, kL185, kA185, kS185, kL186, kA186, kS186, kL187, kA187, kS187, kL188, kA188, kS188, kL189, kL190, kL191, kA191, kS191, kL192, kA192, kS192, kL193, kA193, kS193, kL194, kA194, kS194, kL195, kA195, kS195, kL196, kA196, kS196, kL197, kA197, kS197, kL198, kA198, kS198, kL199, kA199, kS199, kL200, kA200, kS200, kL201, kL202, kA202, kS202, kL203, kA203, kS203, kL204, kA204, kS204, kL205, kL206, kA206, kS206, hL.2.2.2.1, nn_le, show ¬ (lvN g F ≤ i) by omega, show ¬ (289 ≤ i) by omega, hv, hne]
    rw [nI_succ]
  · have hv := hL.2.2.2.2 e he hp
    simp only [f_X4_numberOf_b2]
    simp (disch := first | assumption | omega) only [Option.bind_some, Option.map_some, xw_gR, xw_gN, xw_al, xw_ck, xw_uI, xw_ur, xup_at, xur_at, if_true, if_false, reduceIte, and_true, true_and, and_false, false_and, not_true_eq_false, not_false_eq_true, Nat.reduceEqDiff, eq_self, Nat.reduceAdd, Nat.reduceMul, kC1, kG1, kP1, kR1_0, kR1_1, kR1_2, kR1_3, kR1_4, kR1_5, kR1_6, kR1_7, kR1_8, kR1_9, kR1_10, kR1_11, kR1_12, kR1_13, kC2, kG2, kP2, kR2_0, kR2_1, kC3, kG3, kP3, kR3_0, kR3_1, kR3_2, kR3_3, kL4, kA4, kS4, kL5, kA5, kS5, kL6, kA6, kS6, kL7, kA7, kS7, kC8, kG8, kP8, kR8_0, kR8_1, kL9, kA9, kS9, kL10, kA10, kS10, kC11, kG11, kP11, kR11_0, kR11_1, kR11_2, kR11_3, kL12, kA12, kS12, kL13, kA13, kS13, kL14, kA14, kS14, kL15, kA15, kS15, kC16, kG16, kP16, kR16_0, kR16_1, kL17, kA17, kS17, kL18, kA18, kS18, kC19, kG19, kP19, kR19_0, kL20, kL141, kL146, kA146, kS146, kL151, kA151, kS151, kL156, kA156, kS156, kC157, kG157, kP157, kR157_0, kR157_1, kL158, kA158, kS158, kL159, kA159, kS159, kC161, kG161, kP161, kR161_0, kR161_1, kL162, kA162, kS162, kL163, kA163, kS163, kC165, kG165, kP165, kR165_0, kR165_1, kR165_2, kR165_3, kL166, kA166, kS166, kL167, kA167, kS167, kL168, kA168, kS168, kL169, kA169, kS169, kC170, kG170, kP170, kR170_0, kR170_1, kR170_2, kL171, kA171, kS171, kL172, kA172, kS172, kL173, kA173, kS173, kC174, kG174, kP174, kR174_0, kR174_1, kR174_2, kR174_3, kR174_4, kL175, kA175, kS175, kL176, kA176, kS176, kL177, kA177, kS177, kL178, kA178, kS178, kL179, kC180, kG180, kP180, kL181, kL182, kA182, kS182, kC183, kG183, kP183, kR183_1, kR183_3, kR183_5, kR183_6, kR183_7, kR183_8, kR183_9, kR183_21, kR183_26, kR183_27, kR183_30, kR183_31, kR183_33, kR183_34, kR183_36, kR183_37, kR183_38, kR183_39, kR183_40, kR183_41, kR183_42, kR183_43, kR183_44, kL184, kA184, kS184, kL185, kA185, kS185, kL186, kA186, kS186, kL187, kA187, kS187, kL188, kA188, kS188, kL189, kL190, kL191, kA191, kS191, kL192, kA192, kS192, kL193, kA193, kS193, kL194, kA194, kS194, kL195, kA195, kS195, kL196, kA196, kS196, kL197, kA197, kS197, kL198, kA198, kS198, kL199, kA199, kS199, kL200, kA200, kS200, kL201, kL202, kA202, kS202, kL203, kA203, kS203, kL204, kA204, kS204, kL205, kL206, kA206, kS206, hL.2.2.2.1, nn_le, show ¬ (lvN g F ≤ fb_ct (lvP g F) e) by omega, show ¬ (289 ≤ fb_ct (lvP g F) e) by omega, hv]
theorem levelOf12_ok {σ : XS} {J : Nat → Nat → Int32} {g : GD} {F : Nat → Int32} (hS : Shp σ) (hg : g ∈ gAll) (ho : RO g F) (hK : KNK J g F) {e s : Nat} (he : e < 289) (hp : lvP g F e = true) (hs : s < gSt g) (hl : lW g F s = true) (hE : eE g (zR F) s = (e : Int) - 144) : f_X12_levelOf (xw σ J) 183 (nI s) = some (nI (fb_ct (lvP g F) e)) := by
  have hlt := lvl_lt he hp
  have hlb := lvN_b g F
  have hSt := (gSt_b hg).1
  have hvs := hK.1 s hs
  rw [hl, if_pos rfl, hE] at hvs
  unfold f_X12_levelOf
  refine xforE (fun i : Nat => nI i) (fb_ct (lvP g F) e) rfl (fun i hi => ?_) ?_
  · obtain ⟨k, hk, hpk, hki⟩ := lvl_at (g := g) (F := F) (i := i) (by omega)
    have hv := hK.2.2.2 k hk hpk
    rw [hki] at hv
    have hne : (iI ((k : Int) - 144) = iI ((e : Int) - 144)) = False := by
      rw [iI_eq (by omega) (by omega) (by omega) (by omega)]
      apply eq_false
      intro z
      have : k = e := by omega
      rw [this] at hki; omega
    simp only [f_X12_levelOf_b2]
    simp (disch := first | assumption | omega) only [Option.bind_some, Option.map_some, xw_gR, xw_gN, xw_al, xw_ck, xw_uI, xw_ur, xup_at, xur_at, if_true, if_false, reduceIte, and_true, true_and, and_false, false_and, not_true_eq_false, not_false_eq_true, Nat.reduceEqDiff, eq_self, Nat.reduceAdd, Nat.reduceMul, kC1, kG1, kP1, kR1_0, kR1_1, kR1_2, kR1_3, kR1_4, kR1_5, kR1_6, kR1_7, kR1_8, kR1_9, kR1_10, kR1_11, kR1_12, kR1_13, kC2, kG2, kP2, kR2_0, kR2_1, kC3, kG3, kP3, kR3_0, kR3_1, kR3_2, kR3_3, kL4, kA4, kS4, kL5, kA5, kS5, kL6, kA6, kS6, kL7, kA7, kS7, kC8, kG8, kP8, kR8_0, kR8_1, kL9, kA9, kS9, kL10, kA10, kS10, kC11, kG11, kP11, kR11_0, kR11_1, kR11_2, kR11_3, kL12, kA12, kS12, kL13, kA13, kS13, kL14, kA14, kS14, kL15, kA15, kS15, kC16, kG16, kP16, kR16_0, kR16_1, kL17, kA17, kS17, kL18, kA18, kS18, kC19, kG19, kP19, kR19_0, kL20, kL141, kL146, kA146, kS146, kL151, kA151, kS151, kL156, kA156, kS156, kC157, kG157, kP157, kR157_0, kR157_1, kL158, kA158, kS158, kL159, kA159, kS159, kC161, kG161, kP161, kR161_0, kR161_1, kL162, kA162, kS162, kL163, kA163, kS163, kC165, kG165, kP165, kR165_0, kR165_1, kR165_2, kR165_3, kL166, kA166, kS166, kL167, kA167, kS167, kL168, kA168, kS168, kL169, kA169, kS169, kC170, kG170, kP170, kR170_0, kR170_1, kR170_2, kL171, kA171, kS171, kL172, kA172, kS172, kL173, kA173, kS173, kC174, kG174, kP174, kR174_0, kR174_1, kR174_2, kR174_3, kR174_4, kL175, kA175, kS175, kL176, kA176, kS176, kL177, kA177, kS177, kL178, kA178, kS178, kL179, kC180, kG180, kP180, kL181, kL182, kA182, kS182, kC183, kG183, kP183, kR183_1, kR183_3, kR183_5, kR183_6, kR183_7, kR183_8, kR183_9, kR183_21, kR183_26, kR183_27, kR183_30, kR183_31, kR183_33, kR183_34, kR183_36, kR183_37, kR183_38, kR183_39, kR183_40, kR183_41, kR183_42, kR183_43, kR183_44, kL184, kA184, kS184, kL185, kA185, kS185, kL186, kA186, kS186, kL187, kA187, kS187, kL188, kA188, kS188, kL189, kL190, kL191, kA191, kS191, kL192, kA192, kS192, kL193, kA193, kS193, kL194, kA194, kS194, kL195, kA195, kS195, kL196, kA196, kS196, kL197, kA197, kS197, kL198, kA198, kS198, kL199, kA199, kS199, kL200, kA200, kS200, kL201, kL202, kA202, kS202, kL203, kA203, kS203, kL204, kA204, kS204, kL205, kL206, kA206, kS206, hv, hvs, hne]
    rw [nI_succ]
  · have hv := hK.2.2.2 e he hp
    simp only [f_X12_levelOf_b2]
    simp (disch := first | assumption | omega) only [Option.bind_some, Option.map_some, xw_gR, xw_gN, xw_al, xw_ck, xw_uI, xw_ur, xup_at, xur_at, if_true, if_false, reduceIte, and_true, true_and, and_false, false_and, not_true_eq_false, not_false_eq_true, Nat.reduceEqDiff, eq_self, Nat.reduceAdd, Nat.reduceMul, kC1, kG1, kP1, kR1_0, kR1_1, kR1_2, kR1_3, kR1_4, kR1_5, kR1_6, kR1_7, kR1_8, kR1_9, kR1_10, kR1_11, kR1_12, kR1_13, kC2, kG2, kP2, kR2_0, kR2_1, kC3, kG3, kP3, kR3_0, kR3_1, kR3_2, kR3_3, kL4, kA4, kS4, kL5, kA5, kS5, kL6, kA6, kS6, kL7, kA7, kS7, kC8, kG8, kP8, kR8_0, kR8_1, kL9, kA9, kS9, kL10, kA10, kS10, kC11, kG11, kP11, kR11_0, kR11_1, kR11_2, kR11_3, kL12, kA12, kS12, kL13, kA13, kS13, kL14, kA14, kS14, kL15, kA15, kS15, kC16, kG16, kP16, kR16_0, kR16_1, kL17, kA17, kS17, kL18, kA18, kS18, kC19, kG19, kP19, kR19_0, kL20, kL141, kL146, kA146, kS146, kL151, kA151, kS151, kL156, kA156, kS156, kC157, kG157, kP157, kR157_0, kR157_1, kL158, kA158, kS158, kL159, kA159, kS159, kC161, kG161, kP161, kR161_0, kR161_1, kL162, kA162, kS162, kL163, kA163, kS163, kC165, kG165, kP165, kR165_0, kR165_1, kR165_2, kR165_3, kL166, kA166, kS166, kL167, kA167, kS167, kL168, kA168, kS168, kL169, kA169, kS169, kC170, kG170, kP170, kR170_0, kR170_1, kR170_2, kL171, kA171, kS171, kL172, kA172, kS172, kL173, kA173, kS173, kC174, kG174, kP174, kR174_0, kR174_1, kR174_2, kR174_3, kR174_4, kL175, kA175, kS175, kL176, kA176, kS176, kL177, kA177, kS177, kL178, kA178, kS178, kL179, kC180, kG180, kP180, kL181, kL182, kA182, kS182, kC183, kG183, kP183, kR183_1, kR183_3, kR183_5, kR183_6, kR183_7, kR183_8, kR183_9, kR183_21, kR183_26, kR183_27, kR183_30, kR183_31, kR183_33, kR183_34, kR183_36, kR183_37, kR183_38, kR183_39, kR183_40, kR183_41, kR183_42, kR183_43, kR183_44, kL184, kA184, kS184, kL185, kA185, kS185, kL186, kA186, kS186, kL187, kA187, kS187, kL188, kA188, kS188, kL189, kL190, kL191, kA191, kS191, kL192, kA192, kS192, kL193, kA193, kS193, kL194, kA194, kS194, kL195, kA195, kS195, kL196, kA196, kS196, kL197, kA197, kS197, kL198, kA198, kS198, kL199, kA199, kS199, kL200, kA200, kS200, kL201, kL202, kA202, kS202, kL203, kA203, kS203, kL204, kA204, kS204, kL205, kL206, kA206, kS206, hv, hvs]
/-- what the model tells of a state -/
theorem state12 {n : Nat} {σ : XS} {g : GD} {gT gP : GH} {st : Nat} (H : IV n σ g gT gP st) {F : Nat → Int32} (hF : xI σ 191 = F) {s M e : Nat} (hs : s < gSt g) (hl : lW g F s = true) (m1 : (sp g F (fs g F s M) (gSz g)).2 = none) (m2 : ∀ j, j < M → (sp g F (fs g F s j) (gSz g)).2 ≠ none) (he : e < 289) (hp : lvP g F e = true) (hE : eE g (zR F) s = (e : Int) - 144) :
    ∃ J, IV n (xw σ J) g gT gP st ∧ ∀ v, f_X12_state σ 183 (nI s) v = xsw v 0 [some (iI (eE g (zR F) s), xw σ J), some (nI (bk g F s), xw σ J), some (if (sp g F s (gSz g)).2 = none then 1 else 0, xw σ J), some (nI (fs g F s M), xw σ J), some (nI M, xw σ J), some (nI (fb_ct (lvP g F) e), xw σ J)] (some (-100000, xw σ J)) := by
  obtain ⟨J, e2, H2, K2, u2⟩ := knows_ok H
  have hS := H.shp
  have hG := H.grd
  have hg := hG.1
  have hSt := (gSt_b hg).1
  have ho : RO g F := by rw [← hF]; exact H.now.2.1
  have rJ : J 191 = F := by rw [← hF]; funext k; exact u2 191 k (by omega) (by omega)
  rw [rJ] at K2
  have hG2 : GRD J g := H2.grd
  refine ⟨J, H2, fun v => ?_⟩
  have ql : f_X12_isLawful σ 183 (nI s) = some 1 := by
    have := isLawful12_ok (σ := σ) (I := xI σ) hS hG H.now.2.1 (nI s)
    rw [hF, isB_n hg hs, hl, if_pos rfl] at this
    exact this
  have hv := K2.1 s hs
  rw [hl, if_pos rfl] at hv
  have noS : ∀ i, (sp g F s (gSz g)).2 = some i → i < 2147483648 := fun i h => by have := spS hg h; omega
  unfold f_X12_state
  rw [xck_ok (sT183 hS), Option.bind_some, ql, Option.bind_some, if_neg (by decide), Option.bind_some, e2, Option.bind_some]
  simp (disch := first | assumption | omega) only [Option.bind_some, Option.map_some, xw_gR, xw_gN, xw_al, xw_ck, xw_uI, xw_ur, xup_at, xur_at, if_true, if_false, reduceIte, and_true, true_and, and_false, false_and, not_true_eq_false, not_false_eq_true, Nat.reduceEqDiff, eq_self, Nat.reduceAdd, Nat.reduceMul, kC1, kG1, kP1, kR1_0, kR1_1, kR1_2, kR1_3, kR1_4, kR1_5, kR1_6, kR1_7, kR1_8, kR1_9, kR1_10, kR1_11, kR1_12, kR1_13, kC2, kG2, kP2, kR2_0, kR2_1, kC3, kG3, kP3, kR3_0, kR3_1, kR3_2, kR3_3, kL4, kA4, kS4, kL5, kA5, kS5, kL6, kA6, kS6, kL7, kA7, kS7, kC8, kG8, kP8, kR8_0, kR8_1, kL9, kA9, kS9, kL10, kA10, kS10, kC11, kG11, kP11, kR11_0, kR11_1, kR11_2, kR11_3, kL12, kA12, kS12, kL13, kA13, kS13, kL14, kA14, kS14, kL15, kA15, kS15, kC16, kG16, kP16, kR16_0, kR16_1, kL17, kA17, kS17, kL18, kA18, kS18, kC19, kG19, kP19, kR19_0, kL20, kL141, kL146, kA146, kS146, kL151, kA151, kS151, kL156, kA156, kS156, kC157, kG157, kP157, kR157_0, kR157_1, kL158, kA158, kS158, kL159, kA159, kS159, kC161, kG161, kP161, kR161_0, kR161_1, kL162, kA162, kS162, kL163, kA163, kS163, kC165, kG165, kP165, kR165_0, kR165_1, kR165_2, kR165_3, kL166, kA166, kS166, kL167, kA167, kS167, kL168, kA168, kS168, kL169, kA169, kS169, kC170, kG170, kP170, kR170_0, kR170_1, kR170_2, kL171, kA171, kS171, kL172, kA172, kS172, kL173, kA173, kS173, kC174, kG174, kP174, kR174_0, kR174_1, kR174_2, kR174_3, kR174_4, kL175, kA175, kS175, kL176, kA176, kS176, kL177, kA177, kS177, kL178, kA178, kS178, kL179, kC180, kG180, kP180, kL181, kL182, kA182, kS182, kC183, kG183, kP183, kR183_1, kR183_3, kR183_5, kR183_6, kR183_7, kR183_8, kR183_9, kR183_21, kR183_26, kR183_27, kR183_30, kR183_31, kR183_33, kR183_34, kR183_36, kR183_37, kR183_38, kR183_39, kR183_40, kR183_41, kR183_42, kR183_43, kR183_44, kL184, kA184, kS184, kL185, kA185, kS185, kL186, kA186, kS186, kL187, kA187, kS187, kL188, kA188, kS188, kL189, kL190, kL191, kA191, kS191, kL192, kA192, kS192, kL193, kA193, kS193, kL194, kA194, kS194, kL195, kA195, kS195, kL196, kA196, kS196, kL197, kA197, kS197, kL198, kA198, kS198, kL199, kA199, kS199, kL200, kA200, kS200, kL201, kL202, kA202, kS202, kL203, kA203, kS203, kL204, kA204, kS204, kL205, kL206, kA206, kS206, hv, broken12_ok hS hG2 rJ (show s < 2147483648 by omega), steep12_ok hS hG2 ho K2 hs hl, oI_n0 noS, fallEnd_ok hS hG2 ho K2 hs hl m1 m2, fallTurns_ok hS hG2 ho K2 hs hl m1 m2, levelOf12_ok hS hg ho K2 he hp hs hl hE]
  congr 1
  cases (sp g F s (gSz g)).2 <;> simp
theorem op_state : Op_state INV := by
  intro n σ hn ⟨g, gT, gP, st, H⟩ x v
  have hS := H.shp
  have hG := H.grd
  have hg := hG.1
  have hSt := (gSt_b hg).1
  by_cases hb1 : isB g (xI σ 191) x = true
  · obtain ⟨s, hs, rfl, hl⟩ := isB_t hb1
    obtain ⟨F, hF⟩ : ∃ F, F = xI σ 191 := ⟨_, rfl⟩
    have hSR := H.now.1
    have ho := H.now.2.1
    rw [← hF] at hSR ho hl
    obtain ⟨M, hM, m1, m2⟩ := fs_end (s := s) hg ho
    obtain ⟨e, he, hE, hp⟩ := lE_slot hg ho hs hl
    have ql := isLawful11_ok (σ := σ) (I := xI σ) hS hG H.now.1 (nI s)
    rw [hb1, if_pos rfl] at ql
    have hfall := fall11_ok (σ := σ) (J := xI σ) hS hG ho hSR hs hl hM m1 m2
    have HW : IV n (xw σ (flI (xI σ) (fs g F s M) M)) g gT gP st := H.walk (fun a k h => flI_out (by omega))
    have rW : xI (xw σ (flI (xI σ) (fs g F s M) M)) 191 = F := by
      funext k
      show flI (xI σ) (fs g F s M) M 191 k = F k
      rw [flI_out (by decide)]
      exact (congrFun hF k).symm
    have v0 : flI (xI σ) (fs g F s M) M 180 0 = nI (fs g F s M) := by unfold flI; simp [xup_at]
    have v1 : flI (xI σ) (fs g F s M) M 180 1 = nI M := by unfold flI; simp [xup_at]
    have noS : ∀ i, (sp g F s (gSz g)).2 = some i → i < 2147483648 := fun i h => by have := spS hg h; omega
    obtain ⟨τ, l1, Hl, Kl, Ll, ul, -⟩ := levelsNow_ok (by omega) H
    have rl : xI τ 191 = F := by rw [hF]; funext k; exact ul 191 k (by omega)
    have hSl := Hl.shp
    have hGl := Hl.grd
    have hSRl := Hl.now.1
    rw [rl] at Ll hSRl
    have e5 : f_X11_state_j152 (xw τ (xI τ)) 1 (nI s) 165 = some (nI (fb_ct (lvP g F) e), τ) := by
      unfold f_X11_state_j152
      simp (disch := first | assumption | omega) only [Option.bind_some, Option.map_some, xw_gR, xw_gN, xw_al, xw_ck, xw_uI, xw_ur, xup_at, xur_at, if_true, if_false, reduceIte, and_true, true_and, and_false, false_and, not_true_eq_false, not_false_eq_true, Nat.reduceEqDiff, eq_self, Nat.reduceAdd, Nat.reduceMul, kC1, kG1, kP1, kR1_0, kR1_1, kR1_2, kR1_3, kR1_4, kR1_5, kR1_6, kR1_7, kR1_8, kR1_9, kR1_10, kR1_11, kR1_12, kR1_13, kC2, kG2, kP2, kR2_0, kR2_1, kC3, kG3, kP3, kR3_0, kR3_1, kR3_2, kR3_3, kL4, kA4, kS4, kL5, kA5, kS5, kL6, kA6, kS6, kL7, kA7, kS7, kC8, kG8, kP8, kR8_0, kR8_1, kL9, kA9, kS9, kL10, kA10, kS10, kC11, kG11, kP11, kR11_0, kR11_1, kR11_2, kR11_3, kL12, kA12, kS12, kL13, kA13, kS13, kL14, kA14, kS14, kL15, kA15, kS15, kC16, kG16, kP16, kR16_0, kR16_1, kL17, kA17, kS17, kL18, kA18, kS18, kC19, kG19, kP19, kR19_0, kL20, kL141, kL146, kA146, kS146, kL151, kA151, kS151, kL156, kA156, kS156, kC157, kG157, kP157, kR157_0, kR157_1, kL158, kA158, kS158, kL159, kA159, kS159, kC161, kG161, kP161, kR161_0, kR161_1, kL162, kA162, kS162, kL163, kA163, kS163, kC165, kG165, kP165, kR165_0, kR165_1, kR165_2, kR165_3, kL166, kA166, kS166, kL167, kA167, kS167, kL168, kA168, kS168, kL169, kA169, kS169, kC170, kG170, kP170, kR170_0, kR170_1, kR170_2, kL171, kA171, kS171, kL172, kA172, kS172, kL173, kA173, kS173, kC174, kG174, kP174, kR174_0, kR174_1, kR174_2, kR174_3, kR174_4, kL175, kA175, kS175, kL176, kA176, kS176, kL177, kA177, kS177, kL178, kA178, kS178, kL179, kC180, kG180, kP180, kL181, kL182, kA182, kS182, kC183, kG183, kP183, kR183_1, kR183_3, kR183_5, kR183_6, kR183_7, kR183_8, kR183_9, kR183_21, kR183_26, kR183_27, kR183_30, kR183_31, kR183_33, kR183_34, kR183_36, kR183_37, kR183_38, kR183_39, kR183_40, kR183_41, kR183_42, kR183_43, kR183_44, kL184, kA184, kS184, kL185, kA185, kS185, kL186, kA186, kS186, kL187, kA187, kS187, kL188, kA188, kS188, kL189, kL190, kL191, kA191, kS191, kL192, kA192, kS192, kL193, kA193, kS193, kL194, kA194, kS194, kL195, kA195, kS195, kL196, kA196, kS196, kL197, kA197, kS197, kL198, kA198, kS198, kL199, kA199, kS199, kL200, kA200, kS200, kL201, kL202, kA202, kS202, kL203, kA203, kS203, kL204, kA204, kS204, kL205, kL206, kA206, kS206, energy11_ok hSl hGl suA_16 hSRl (show s < 2147483648 by omega), hE, numberOf_ok hSl Ll he hp]
      rfl
    have A : f_X11_state σ 1 (nI s) v = xsw v 0 [some (iI (eE g (zR F) s), σ), some (nI (bk g F s), σ), some (if (sp g F s (gSz g)).2 = none then 1 else 0, σ), some (nI (fs g F s M), xw σ (flI (xI σ) (fs g F s M) M)), some (nI M, xw σ (flI (xI σ) (fs g F s M) M)), some (nI (fb_ct (lvP g F) e), τ)] (some (-100000, σ)) := by
      show f_X11_state (xw σ (xI σ)) 1 (nI s) v = _
      unfold f_X11_state
      have l1' : f_X11_levelsNow (xw σ (xI σ)) 1 = some (165, τ) := l1
      have e5' : f_X11_state_j152 τ 1 (nI s) 165 = some (nI (fb_ct (lvP g F) e), τ) := e5
      simp (disch := first | assumption | omega) only [Option.bind_some, Option.map_some, xw_gR, xw_gN, xw_al, xw_ck, xw_uI, xw_ur, xup_at, xur_at, if_true, if_false, reduceIte, and_true, true_and, and_false, false_and, not_true_eq_false, not_false_eq_true, Nat.reduceEqDiff, eq_self, Nat.reduceAdd, Nat.reduceMul, kC1, kG1, kP1, kR1_0, kR1_1, kR1_2, kR1_3, kR1_4, kR1_5, kR1_6, kR1_7, kR1_8, kR1_9, kR1_10, kR1_11, kR1_12, kR1_13, kC2, kG2, kP2, kR2_0, kR2_1, kC3, kG3, kP3, kR3_0, kR3_1, kR3_2, kR3_3, kL4, kA4, kS4, kL5, kA5, kS5, kL6, kA6, kS6, kL7, kA7, kS7, kC8, kG8, kP8, kR8_0, kR8_1, kL9, kA9, kS9, kL10, kA10, kS10, kC11, kG11, kP11, kR11_0, kR11_1, kR11_2, kR11_3, kL12, kA12, kS12, kL13, kA13, kS13, kL14, kA14, kS14, kL15, kA15, kS15, kC16, kG16, kP16, kR16_0, kR16_1, kL17, kA17, kS17, kL18, kA18, kS18, kC19, kG19, kP19, kR19_0, kL20, kL141, kL146, kA146, kS146, kL151, kA151, kS151, kL156, kA156, kS156, kC157, kG157, kP157, kR157_0, kR157_1, kL158, kA158, kS158, kL159, kA159, kS159, kC161, kG161, kP161, kR161_0, kR161_1, kL162, kA162, kS162, kL163, kA163, kS163, kC165, kG165, kP165, kR165_0, kR165_1, kR165_2, kR165_3, kL166, kA166, kS166, kL167, kA167, kS167, kL168, kA168, kS168, kL169, kA169, kS169, kC170, kG170, kP170, kR170_0, kR170_1, kR170_2, kL171, kA171, kS171, kL172, kA172, kS172, kL173, kA173, kS173, kC174, kG174, kP174, kR174_0, kR174_1, kR174_2, kR174_3, kR174_4, kL175, kA175, kS175, kL176, kA176, kS176, kL177, kA177, kS177, kL178, kA178, kS178, kL179, kC180, kG180, kP180, kL181, kL182, kA182, kS182, kC183, kG183, kP183, kR183_1, kR183_3, kR183_5, kR183_6, kR183_7, kR183_8, kR183_9, kR183_21, kR183_26, kR183_27, kR183_30, kR183_31, kR183_33, kR183_34, kR183_36, kR183_37, kR183_38, kR183_39, kR183_40, kR183_41, kR183_42, kR183_43, kR183_44, kL184, kA184, kS184, kL185, kA185, kS185, kL186, kA186, kS186, kL187, kA187, kS187, kL188, kA188, kS188, kL189, kL190, kL191, kA191, kS191, kL192, kA192, kS192, kL193, kA193, kS193, kL194, kA194, kS194, kL195, kA195, kS195, kL196, kA196, kS196, kL197, kA197, kS197, kL198, kA198, kS198, kL199, kA199, kS199, kL200, kA200, kS200, kL201, kL202, kA202, kS202, kL203, kA203, kS203, kL204, kA204, kS204, kL205, kL206, kA206, kS206, ql, one0, energy11_ok hS hG suA_16 hSR (show s < 2147483648 by omega), broken11_ok hS hG hSR (show s < 2147483648 by omega), steep11_ok hS hG ho hSR (show s < 2147483648 by omega), oI_none noS, hfall, v0, v1, l1', xnz_ok, e5']
      congr 1
      cases (sp g F s (gSz g)).2 <;> simp <;> rfl
    rcases sw_c v 6 with ⟨w, hw, hw2, rfl⟩ | hd
    · rw [xsw_n hw2] at A
      rcases (show w < 3 ∨ w = 3 ∨ w = 4 ∨ w = 5 by omega) with hw3 | rfl | rfl | rfl
      · obtain ⟨J, H2, B⟩ := state12 H hF.symm hs hl m1 m2 he hp hE
        have B := B (nI w)
        rw [xsw_n hw2] at B
        rcases (show w = 0 ∨ w = 1 ∨ w = 2 by omega) with rfl | rfl | rfl <;> exact ⟨_, _, _, A, B, INV_i H2.nop⟩
      · obtain ⟨J, H2, B⟩ := state12 HW (F := F) rW hs hl m1 m2 he hp hE
        have B := B (nI 3)
        rw [xsw_n hw2] at B
        exact ⟨_, _, _, A, B, INV_i H2.nop⟩
      · obtain ⟨J, H2, B⟩ := state12 HW (F := F) rW hs hl m1 m2 he hp hE
        have B := B (nI 4)
        rw [xsw_n hw2] at B
        exact ⟨_, _, _, A, B, INV_i H2.nop⟩
      · obtain ⟨J, H2, B⟩ := state12 Hl rl hs hl m1 m2 he hp hE
        have B := B (nI 5)
        rw [xsw_n hw2] at B
        exact ⟨_, _, _, A, B, INV_i H2.nop⟩
    · obtain ⟨J, H2, B⟩ := state12 H hF.symm hs hl m1 m2 he hp hE
      exact ⟨_, _, _, A.trans (hd _ _ _ (Nat.le_refl 6)), (B v).trans (hd _ _ _ (Nat.le_refl 6)), INV_i H2.nop⟩
  · refine ⟨-100000, σ, σ, ?_, ?_, g, gT, gP, st, H.nop⟩
    · show f_X11_state (xw σ (xI σ)) 1 x v = _
      unfold f_X11_state
      simp (disch := first | assumption | omega) only [Option.bind_some, Option.map_some, xw_gR, xw_gN, xw_al, xw_ck, xw_uI, xw_ur, xup_at, xur_at, if_true, if_false, reduceIte, and_true, true_and, and_false, false_and, not_true_eq_false, not_false_eq_true, Nat.reduceEqDiff, eq_self, Nat.reduceAdd, Nat.reduceMul, kC1, kG1, kP1, kR1_0, kR1_1, kR1_2, kR1_3, kR1_4, kR1_5, kR1_6, kR1_7, kR1_8, kR1_9, kR1_10, kR1_11, kR1_12, kR1_13, kC2, kG2, kP2, kR2_0, kR2_1, kC3, kG3, kP3, kR3_0, kR3_1, kR3_2, kR3_3, kL4, kA4, kS4, kL5, kA5, kS5, kL6, kA6, kS6, kL7, kA7, kS7, kC8, kG8, kP8, kR8_0, kR8_1, kL9, kA9, kS9, kL10, kA10, kS10, kC11, kG11, kP11, kR11_0, kR11_1, kR11_2, kR11_3, kL12, kA12, kS12, kL13, kA13, kS13, kL14, kA14, kS14, kL15, kA15, kS15, kC16, kG16, kP16, kR16_0, kR16_1, kL17, kA17, kS17, kL18, kA18, kS18, kC19, kG19, kP19, kR19_0, kL20, kL141, kL146, kA146, kS146, kL151, kA151, kS151, kL156, kA156, kS156, kC157, kG157, kP157, kR157_0, kR157_1, kL158, kA158, kS158, kL159, kA159, kS159, kC161, kG161, kP161, kR161_0, kR161_1, kL162, kA162, kS162, kL163, kA163, kS163, kC165, kG165, kP165, kR165_0, kR165_1, kR165_2, kR165_3, kL166, kA166, kS166, kL167, kA167, kS167, kL168, kA168, kS168, kL169, kA169, kS169, kC170, kG170, kP170, kR170_0, kR170_1, kR170_2, kL171, kA171, kS171, kL172, kA172, kS172, kL173, kA173, kS173, kC174, kG174, kP174, kR174_0, kR174_1, kR174_2, kR174_3, kR174_4, kL175, kA175, kS175, kL176, kA176, kS176, kL177, kA177, kS177, kL178, kA178, kS178, kL179, kC180, kG180, kP180, kL181, kL182, kA182, kS182, kC183, kG183, kP183, kR183_1, kR183_3, kR183_5, kR183_6, kR183_7, kR183_8, kR183_9, kR183_21, kR183_26, kR183_27, kR183_30, kR183_31, kR183_33, kR183_34, kR183_36, kR183_37, kR183_38, kR183_39, kR183_40, kR183_41, kR183_42, kR183_43, kR183_44, kL184, kA184, kS184, kL185, kA185, kS185, kL186, kA186, kS186, kL187, kA187, kS187, kL188, kA188, kS188, kL189, kL190, kL191, kA191, kS191, kL192, kA192, kS192, kL193, kA193, kS193, kL194, kA194, kS194, kL195, kA195, kS195, kL196, kA196, kS196, kL197, kA197, kS197, kL198, kA198, kS198, kL199, kA199, kS199, kL200, kA200, kS200, kL201, kL202, kA202, kS202, kL203, kA203, kS203, kL204, kA204, kS204, kL205, kL206, kA206, kS206, isLawful11_ok hS hG H.now.1, hb1]
      rfl
    · show f_X12_state (xw σ (xI σ)) 183 x v = _
      unfold f_X12_state
      simp (disch := first | assumption | omega) only [Option.bind_some, Option.map_some, xw_gR, xw_gN, xw_al, xw_ck, xw_uI, xw_ur, xup_at, xur_at, if_true, if_false, reduceIte, and_true, true_and, and_false, false_and, not_true_eq_false, not_false_eq_true, Nat.reduceEqDiff, eq_self, Nat.reduceAdd, Nat.reduceMul, kC1, kG1, kP1, kR1_0, kR1_1, kR1_2, kR1_3, kR1_4, kR1_5, kR1_6, kR1_7, kR1_8, kR1_9, kR1_10, kR1_11, kR1_12, kR1_13, kC2, kG2, kP2, kR2_0, kR2_1, kC3, kG3, kP3, kR3_0, kR3_1, kR3_2, kR3_3, kL4, kA4, kS4, kL5, kA5, kS5, kL6, kA6, kS6, kL7, kA7, kS7, kC8, kG8, kP8, kR8_0, kR8_1, kL9, kA9, kS9, kL10, kA10, kS10, kC11, kG11, kP11, kR11_0, kR11_1, kR11_2, kR11_3, kL12, kA12, kS12, kL13, kA13, kS13, kL14, kA14, kS14, kL15, kA15, kS15, kC16, kG16, kP16, kR16_0, kR16_1, kL17, kA17, kS17, kL18, kA18, kS18, kC19, kG19, kP19, kR19_0, kL20, kL141, kL146, kA146, kS146, kL151, kA151, kS151, kL156, kA156, kS156, kC157, kG157, kP157, kR157_0, kR157_1, kL158, kA158, kS158, kL159, kA159, kS159, kC161, kG161, kP161, kR161_0, kR161_1, kL162, kA162, kS162, kL163, kA163, kS163, kC165, kG165, kP165, kR165_0, kR165_1, kR165_2, kR165_3, kL166, kA166, kS166, kL167, kA167, kS167, kL168, kA168, kS168, kL169, kA169, kS169, kC170, kG170, kP170, kR170_0, kR170_1, kR170_2, kL171, kA171, kS171, kL172, kA172, kS172, kL173, kA173, kS173, kC174, kG174, kP174, kR174_0, kR174_1, kR174_2, kR174_3, kR174_4, kL175, kA175, kS175, kL176, kA176, kS176, kL177, kA177, kS177, kL178, kA178, kS178, kL179, kC180, kG180, kP180, kL181, kL182, kA182, kS182, kC183, kG183, kP183, kR183_1, kR183_3, kR183_5, kR183_6, kR183_7, kR183_8, kR183_9, kR183_21, kR183_26, kR183_27, kR183_30, kR183_31, kR183_33, kR183_34, kR183_36, kR183_37, kR183_38, kR183_39, kR183_40, kR183_41, kR183_42, kR183_43, kR183_44, kL184, kA184, kS184, kL185, kA185, kS185, kL186, kA186, kS186, kL187, kA187, kS187, kL188, kA188, kS188, kL189, kL190, kL191, kA191, kS191, kL192, kA192, kS192, kL193, kA193, kS193, kL194, kA194, kS194, kL195, kA195, kS195, kL196, kA196, kS196, kL197, kA197, kS197, kL198, kA198, kS198, kL199, kA199, kS199, kL200, kA200, kS200, kL201, kL202, kA202, kS202, kL203, kA203, kS203, kL204, kA204, kS204, kL205, kL206, kA206, kS206, isLawful12_ok hS hG H.now.2.1, hb1]
      rfl
end
section
/-! wander -/
abbrev WD := Nat × Nat × Int × Nat
def wdS (g : GD) (F : Nat → Int32) (c : Nat) (w : WD) : WD :=
  if F (48 + nxt w.1 / 65536 % gSz g) = 0 ∧ ((nxt (nxt w.1) / 65536 % 100 : Nat) : Int) < 100 - (c : Int) * eC g (zR F) w.2.1 (nxt w.1 / 65536 % gSz g) then (nxt (nxt w.1), w.2.1 ^^^ 2 ^ (nxt w.1 / 65536 % gSz g), min w.2.2.1 (eE g (zR F) (w.2.1 ^^^ 2 ^ (nxt w.1 / 65536 % gSz g))), w.2.2.2 + 1) else (nxt (nxt w.1), w.2.1, w.2.2.1, w.2.2.2)
def wd (g : GD) (F : Nat → Int32) (c x b : Nat) : Nat → WD
  | 0 => (x, b, eE g (zR F) b, 0)
  | k + 1 => wdS g F c (wd g F c x b k)
theorem wd_0 {g : GD} {F : Nat → Int32} {c x b : Nat} : wd g F c x b 0 = (x, b, eE g (zR F) b, 0) := by rw [wd]
theorem mul_bd {c : Nat} {z : Int} (hc : c ≤ 100) (h1 : -288 ≤ z) (h2 : z ≤ 288) : -28800 ≤ (c : Int) * z ∧ (c : Int) * z ≤ 28800 := by
  have a : (c : Int) * z ≤ (c : Int) * 288 := Int.mul_le_mul_of_nonneg_left h2 (by omega)
  have b : (c : Int) * (-288) ≤ (c : Int) * z := Int.mul_le_mul_of_nonneg_left h1 (by omega)
  omega
theorem wd_ok {g : GD} (hg : g ∈ gAll) {F : Nat → Int32} (ho : RO g F) {c x b : Nat} (hx : x < 2147483648) (hb : b < gSt g) (hl : lW g F b = true) : ∀ k, (wd g F c x b k).1 < 2147483648 ∧ (wd g F c x b k).2.1 < gSt g ∧ lW g F (wd g F c x b k).2.1 = true ∧ (-144 ≤ (wd g F c x b k).2.2.1 ∧ (wd g F c x b k).2.2.1 ≤ 144) ∧ (wd g F c x b k).2.2.2 ≤ k
  | 0 => ⟨hx, hb, hl, eE_b hg ho b, Nat.le_refl _⟩
  | k + 1 => by
    obtain ⟨h1, h2, h3, h4, h5⟩ := wd_ok hg ho (c := c) hx hb hl k
    have hn : 0 < gSz g := (gSt_pos h2).1
    have hi : nxt (wd g F c x b k).1 / 65536 % gSz g < gSz g := Nat.mod_lt _ hn
    rw [wd]
    unfold wdS
    split
    · next hc =>
      have he := eE_b hg ho ((wd g F c x b k).2.1 ^^^ 2 ^ (nxt (wd g F c x b k).1 / 65536 % gSz g))
      refine ⟨nxt_b _, gSt_flip h2 hi, ?_, ?_, ?_⟩
      · rw [lW_flip hi h3]; exact decide_eq_true hc.1
      · dsimp only; omega
      · dsimp only; omega
    · exact ⟨nxt_b _, h2, h3, h4, by dsimp only; omega⟩
def wkI (I : Nat → Nat → Int32) (b t : Nat) (l : Int) : Nat → Nat → Int32 := xup (xup (xup I 180 0 (nI b)) 180 1 (nI t)) 180 2 (iI l)
theorem wkI_out {I : Nat → Nat → Int32} {b t a k : Nat} {l : Int} (h : a ≠ 180) : wkI I b t l a k = I a k := by
  unfold wkI
  rw [xup_at, if_neg (by omega), xup_at, if_neg (by omega), xup_at, if_neg (by omega)]
theorem wkI_v {I : Nat → Nat → Int32} {b t : Nat} {l : Int} : wkI I b t l 180 0 = nI b ∧ wkI I b t l 180 1 = nI t ∧ wkI I b t l 180 2 = iI l := by
  unfold wkI
  simp [xup_at]
theorem wkI_s {I : Nat → Nat → Int32} {b t b' t' : Nat} {l l' : Int} : xup (xup (xup (wkI I b t l) 180 0 (nI b')) 180 1 (nI t')) 180 2 (iI l') = wkI I b' t' l' := by
  funext a k
  unfold wkI
  simp only [xup_at]
  by_cases h : a = 180
  · subst h
    by_cases h0 : k = 0
    · simp [h0]
    · by_cases h1 : k = 1
      · simp [h1]
      · by_cases h2 : k = 2
        · simp [h2]
        · simp [h0, h1, h2]
  · simp [h]
section WANDER
variable {σ : XS} {J : Nat → Nat → Int32} {g : GD} {F : Nat → Int32}
theorem stroll_step (hS : Shp σ) (hG : GRD J g) (ho : RO g F) (hSR : SR g J 16 F) {m c x b t k x1 x2 i y : Nat} {l : Int} (hk : k < m) (hm : m ≤ 200) (hc : c ≤ 100) (n1 : f_X11_nextLot (lN x) = some (lN x1)) (n2 : f_X11_lotOf (lN x1) (nI (gSz g)) = some (nI i)) (n3 : f_X11_nextLot (lN x1) = some (lN x2)) (n4 : f_X11_lotOf (lN x2) (nI 100) = some (nI y)) (hi2 : i < gSz g) (hy : y < 100) (hb : b < gSt g) (hl1 : -144 ≤ l) (hl2 : l ≤ 144) :
    f_X10_strollFrom_b40 180 11 16 (nI m) (nI c) (iI (eE g (zR F) b), lN x, nI k, xw σ (wkI J b t l)) = (if F (48 + i) = 0 ∧ (y : Int) < 100 - (c : Int) * eC g (zR F) b i then some (.inl (iI (eE g (zR F) (b ^^^ 2 ^ i)), lN x2, nI (k + 1), xw σ (wkI J (b ^^^ 2 ^ i) (t + 1) (min l (eE g (zR F) (b ^^^ 2 ^ i)))))) else some (.inl (iI (eE g (zR F) b), lN x2, nI (k + 1), xw σ (wkI J b t l)))) := by
  have hg := hG.1
  have h16 := (gAll_b g hg).2.2.1
  have hSt := (gSt_b hg).1
  obtain ⟨-, -, ⟨p, u, e3, e4, e5, e6⟩, e7, e8⟩ := id hSR
  have hp : p < 65536 := Nat.lt_pow_two_of_testBit (n := 16) p (fun j hj => by rw [e5]; simp; omega)
  have hGw : GRD (wkI J b t l) g := GRD_c (fun a k z => wkI_out (by unfold sGRD at z; omega)) hG
  have hSw : SR g (wkI J b t l) 16 F := SR_m hg (fun k _ _ => wkI_out (by omega)) (fun k _ => wkI_out (by omega)) (fun k _ => wkI_out (by omega)) (fun k _ => rfl) hSR
  have hcb := sp_b hg ho b hi2
  have hmb := mul_bd hc hcb.1 hcb.2
  have v := wkI_v (I := J) (b := b) (t := t) (l := l)
  have hcost := cost_ok (a := 16) hS hGw suA_16 hSw (s := b) (by omega) hi2
  have hpin := isPinned_ok (I := wkI J b t l) (t := i) hS suA_16 (show wkI J b t l 16 2 = nI p by rw [wkI_out (by decide)]; exact e3) hp (by omega)
  have g7 := hGw.2.2.2.2.1
  have hcmp : (nI 100 - nI c * iI (eC g (zR F) b i) ≤ nI y) = (100 - (c : Int) * eC g (zR F) b i ≤ (y : Int)) := by
    rw [iI_n, iI_n, iI_mul, iI_sub, iI_n, iI_le (by omega) (by omega) (by omega) (by omega)]
    rfl
  have hflip := eE_flip hg (zR F) (s := b) hi2
  have hfb := eE_b hg ho (b ^^^ 2 ^ i)
  have hpb : (p.testBit i = false) = (F (48 + i) = 0) := by rw [e5]; simp [hi2]
  simp only [f_X10_strollFrom_b40]
  rw [if_neg (by rw [nn_le (by omega) (by omega)]; omega), n1, Option.bind_some]
  simp (disch := first | assumption | omega) only [Option.bind_some, Option.map_some, xw_gR, xw_gN, xw_al, xw_ck, xw_uI, xw_ur, xup_at, xur_at, if_true, if_false, reduceIte, and_true, true_and, and_false, false_and, not_true_eq_false, not_false_eq_true, Nat.reduceEqDiff, eq_self, Nat.reduceAdd, Nat.reduceMul, kC1, kG1, kP1, kR1_0, kR1_1, kR1_2, kR1_3, kR1_4, kR1_5, kR1_6, kR1_7, kR1_8, kR1_9, kR1_10, kR1_11, kR1_12, kR1_13, kC2, kG2, kP2, kR2_0, kR2_1, kC3, kG3, kP3, kR3_0, kR3_1, kR3_2, kR3_3, kL4, kA4, kS4, kL5, kA5, kS5, kL6, kA6, kS6, kL7, kA7, kS7, kC8, kG8, kP8, kR8_0, kR8_1, kL9, kA9, kS9, kL10, kA10, kS10, kC11, kG11, kP11, kR11_0, kR11_1, kR11_2, kR11_3, kL12, kA12, kS12, kL13, kA13, kS13, kL14, kA14, kS14, kL15, kA15, kS15, kC16, kG16, kP16, kR16_0, kR16_1, kL17, kA17, kS17, kL18, kA18, kS18, kC19, kG19, kP19, kR19_0, kL20, kL141, kL146, kA146, kS146, kL151, kA151, kS151, kL156, kA156, kS156, kC157, kG157, kP157, kR157_0, kR157_1, kL158, kA158, kS158, kL159, kA159, kS159, kC161, kG161, kP161, kR161_0, kR161_1, kL162, kA162, kS162, kL163, kA163, kS163, kC165, kG165, kP165, kR165_0, kR165_1, kR165_2, kR165_3, kL166, kA166, kS166, kL167, kA167, kS167, kL168, kA168, kS168, kL169, kA169, kS169, kC170, kG170, kP170, kR170_0, kR170_1, kR170_2, kL171, kA171, kS171, kL172, kA172, kS172, kL173, kA173, kS173, kC174, kG174, kP174, kR174_0, kR174_1, kR174_2, kR174_3, kR174_4, kL175, kA175, kS175, kL176, kA176, kS176, kL177, kA177, kS177, kL178, kA178, kS178, kL179, kC180, kG180, kP180, kL181, kL182, kA182, kS182, kC183, kG183, kP183, kR183_1, kR183_3, kR183_5, kR183_6, kR183_7, kR183_8, kR183_9, kR183_21, kR183_26, kR183_27, kR183_30, kR183_31, kR183_33, kR183_34, kR183_36, kR183_37, kR183_38, kR183_39, kR183_40, kR183_41, kR183_42, kR183_43, kR183_44, kL184, kA184, kS184, kL185, kA185, kS185, kL186, kA186, kS186, kL187, kA187, kS187, kL188, kA188, kS188, kL189, kL190, kL191, kA191, kS191, kL192, kA192, kS192, kL193, kA193, kS193, kL194, kA194, kS194, kL195, kA195, kS195, kL196, kA196, kS196, kL197, kA197, kS197, kL198, kA198, kS198, kL199, kA199, kS199, kL200, kA200, kS200, kL201, kL202, kA202, kS202, kL203, kA203, kS203, kL204, kA204, kS204, kL205, kL206, kA206, kS206, g7, n2, n3, v.1, hcost, hpin, bI_0, hpb, show (100 : Int32) = nI 100 from rfl, n4, hcmp]
  rw [← nI_succ]
  by_cases h0 : F (48 + i) = 0
  · rw [if_pos h0]
    by_cases hy : 100 - (c : Int) * eC g (zR F) b i ≤ (y : Int)
    · rw [if_pos hy, if_neg (fun z => by omega)]
    · rw [if_neg hy, if_pos ⟨h0, by omega⟩]
      simp (disch := first | assumption | omega) only [Option.bind_some, Option.map_some, xw_gR, xw_gN, xw_al, xw_ck, xw_uI, xw_ur, xup_at, xur_at, if_true, if_false, reduceIte, and_true, true_and, and_false, false_and, not_true_eq_false, not_false_eq_true, Nat.reduceEqDiff, eq_self, Nat.reduceAdd, Nat.reduceMul, kC1, kG1, kP1, kR1_0, kR1_1, kR1_2, kR1_3, kR1_4, kR1_5, kR1_6, kR1_7, kR1_8, kR1_9, kR1_10, kR1_11, kR1_12, kR1_13, kC2, kG2, kP2, kR2_0, kR2_1, kC3, kG3, kP3, kR3_0, kR3_1, kR3_2, kR3_3, kL4, kA4, kS4, kL5, kA5, kS5, kL6, kA6, kS6, kL7, kA7, kS7, kC8, kG8, kP8, kR8_0, kR8_1, kL9, kA9, kS9, kL10, kA10, kS10, kC11, kG11, kP11, kR11_0, kR11_1, kR11_2, kR11_3, kL12, kA12, kS12, kL13, kA13, kS13, kL14, kA14, kS14, kL15, kA15, kS15, kC16, kG16, kP16, kR16_0, kR16_1, kL17, kA17, kS17, kL18, kA18, kS18, kC19, kG19, kP19, kR19_0, kL20, kL141, kL146, kA146, kS146, kL151, kA151, kS151, kL156, kA156, kS156, kC157, kG157, kP157, kR157_0, kR157_1, kL158, kA158, kS158, kL159, kA159, kS159, kC161, kG161, kP161, kR161_0, kR161_1, kL162, kA162, kS162, kL163, kA163, kS163, kC165, kG165, kP165, kR165_0, kR165_1, kR165_2, kR165_3, kL166, kA166, kS166, kL167, kA167, kS167, kL168, kA168, kS168, kL169, kA169, kS169, kC170, kG170, kP170, kR170_0, kR170_1, kR170_2, kL171, kA171, kS171, kL172, kA172, kS172, kL173, kA173, kS173, kC174, kG174, kP174, kR174_0, kR174_1, kR174_2, kR174_3, kR174_4, kL175, kA175, kS175, kL176, kA176, kS176, kL177, kA177, kS177, kL178, kA178, kS178, kL179, kC180, kG180, kP180, kL181, kL182, kA182, kS182, kC183, kG183, kP183, kR183_1, kR183_3, kR183_5, kR183_6, kR183_7, kR183_8, kR183_9, kR183_21, kR183_26, kR183_27, kR183_30, kR183_31, kR183_33, kR183_34, kR183_36, kR183_37, kR183_38, kR183_39, kR183_40, kR183_41, kR183_42, kR183_43, kR183_44, kL184, kA184, kS184, kL185, kA185, kS185, kL186, kA186, kS186, kL187, kA187, kS187, kL188, kA188, kS188, kL189, kL190, kL191, kA191, kS191, kL192, kA192, kS192, kL193, kA193, kS193, kL194, kA194, kS194, kL195, kA195, kS195, kL196, kA196, kS196, kL197, kA197, kS197, kL198, kA198, kS198, kL199, kA199, kS199, kL200, kA200, kS200, kL201, kL202, kA202, kS202, kL203, kA203, kS203, kL204, kA204, kS204, kL205, kL206, kA206, kS206, v.1, v.2.1, v.2.2, nn_one, nn_xor, ← nI_succ, iI_add]
      rw [← hflip, xmin_i (by omega) (by omega) (by omega) (by omega), wkI_s]
  · rw [if_neg h0, if_neg (fun z => h0 z.1)]
theorem stroll_ok (hS : Shp σ) (hG : GRD J g) (ho : RO g F) (hSR : SR g J 16 F) {m c x b : Nat} (hm : m ≤ 200) (hc : c ≤ 100) (hx : x < 2147483648) (h5 : F 65 = nI x) (h4 : F 64 = nI b) (hb : b < gSt g) (hl : lW g F b = true) :
    f_X10_strollFrom (xw σ J) 180 11 16 (nI m) (nI c) = some (xw σ (wkI J (wd g F c x b m).2.1 (wd g F c x b m).2.2.2 (wd g F c x b m).2.2.1)) := by
  have hg := hG.1
  have h16 := (gAll_b g hg).2.2.1
  have hSt := (gSt_b hg).1
  have hn : 0 < gSz g := (gSt_pos hb).1
  have w := wd_ok (c := c) hg ho hx hb hl
  obtain ⟨-, -, ⟨p, u, e3, e4, e5, e6⟩, e7, e8⟩ := id hSR
  have hp : p < 65536 := Nat.lt_pow_two_of_testBit (n := 16) p (fun j hj => by rw [e5]; simp; omega)
  have q0 : J 16 4 = nI b := e7.trans h4
  have q1 : J 16 5 = nI x := e8.trans h5
  have z0 : xup (xup J 180 0 (nI b)) 180 1 0 = flI J b 0 := rfl
  have en : f_X3_energyOf (xw σ (flI J b 0)) 11 16 (nI b) = some (iI (eE g (zR F) b)) := energy11_ok hS (GRD_c (fun a k z => flI_out (by unfold sGRD at z; omega)) hG) suA_16 (SR_m hg (fun k _ _ => flI_out (by omega)) (fun k _ => flI_out (by omega)) (fun k _ => flI_out (by omega)) (fun k _ => rfl) hSR) (by omega)
  have z1 : xup (flI J b 0) 180 2 (iI (eE g (zR F) b)) = wkI J b 0 (eE g (zR F) b) := rfl
  have f0 : flI J b 0 180 0 = nI b := by unfold flI; simp [xup_at]
  have hGw : ∀ b t l, GRD (wkI J b t l) g := fun b t l => GRD_c (fun a k z => wkI_out (by unfold sGRD at z; omega)) hG
  have hSw : ∀ b t l, SR g (wkI J b t l) 16 F := fun b t l => SR_m hg (fun k _ _ => wkI_out (by omega)) (fun k _ => wkI_out (by omega)) (fun k _ => wkI_out (by omega)) (fun k _ => rfl) hSR
  unfold f_X10_strollFrom
  simp (disch := first | assumption | omega) only [Option.bind_some, Option.map_some, xw_gR, xw_gN, xw_al, xw_ck, xw_uI, xw_ur, xup_at, xur_at, if_true, if_false, reduceIte, and_true, true_and, and_false, false_and, not_true_eq_false, not_false_eq_true, Nat.reduceEqDiff, eq_self, Nat.reduceAdd, Nat.reduceMul, kC1, kG1, kP1, kR1_0, kR1_1, kR1_2, kR1_3, kR1_4, kR1_5, kR1_6, kR1_7, kR1_8, kR1_9, kR1_10, kR1_11, kR1_12, kR1_13, kC2, kG2, kP2, kR2_0, kR2_1, kC3, kG3, kP3, kR3_0, kR3_1, kR3_2, kR3_3, kL4, kA4, kS4, kL5, kA5, kS5, kL6, kA6, kS6, kL7, kA7, kS7, kC8, kG8, kP8, kR8_0, kR8_1, kL9, kA9, kS9, kL10, kA10, kS10, kC11, kG11, kP11, kR11_0, kR11_1, kR11_2, kR11_3, kL12, kA12, kS12, kL13, kA13, kS13, kL14, kA14, kS14, kL15, kA15, kS15, kC16, kG16, kP16, kR16_0, kR16_1, kL17, kA17, kS17, kL18, kA18, kS18, kC19, kG19, kP19, kR19_0, kL20, kL141, kL146, kA146, kS146, kL151, kA151, kS151, kL156, kA156, kS156, kC157, kG157, kP157, kR157_0, kR157_1, kL158, kA158, kS158, kL159, kA159, kS159, kC161, kG161, kP161, kR161_0, kR161_1, kL162, kA162, kS162, kL163, kA163, kS163, kC165, kG165, kP165, kR165_0, kR165_1, kR165_2, kR165_3, kL166, kA166, kS166, kL167, kA167, kS167, kL168, kA168, kS168, kL169, kA169, kS169, kC170, kG170, kP170, kR170_0, kR170_1, kR170_2, kL171, kA171, kS171, kL172, kA172, kS172, kL173, kA173, kS173, kC174, kG174, kP174, kR174_0, kR174_1, kR174_2, kR174_3, kR174_4, kL175, kA175, kS175, kL176, kA176, kS176, kL177, kA177, kS177, kL178, kA178, kS178, kL179, kC180, kG180, kP180, kL181, kL182, kA182, kS182, kC183, kG183, kP183, kR183_1, kR183_3, kR183_5, kR183_6, kR183_7, kR183_8, kR183_9, kR183_21, kR183_26, kR183_27, kR183_30, kR183_31, kR183_33, kR183_34, kR183_36, kR183_37, kR183_38, kR183_39, kR183_40, kR183_41, kR183_42, kR183_43, kR183_44, kL184, kA184, kS184, kL185, kA185, kS185, kL186, kA186, kS186, kL187, kA187, kS187, kL188, kA188, kS188, kL189, kL190, kL191, kA191, kS191, kL192, kA192, kS192, kL193, kA193, kS193, kL194, kA194, kS194, kL195, kA195, kS195, kL196, kA196, kS196, kL197, kA197, kS197, kL198, kA198, kS198, kL199, kA199, kS199, kL200, kA200, kS200, kL201, kL202, kA202, kS202, kL203, kA203, kS203, kL204, kA204, kS204, kL205, kL206, kA206, kS206, q0, z0, f0, en, z1, wkI_out (I := J) (a := 16) (k := 5) (show 16 ≠ 180 by decide), q1, nI_i64]
  refine xforE (fun k : Nat => (iI (eE g (zR F) (wd g F c x b k).2.1), lN (wd g F c x b k).1, nI k, xw σ (wkI J (wd g F c x b k).2.1 (wd g F c x b k).2.2.2 (wd g F c x b k).2.2.1))) m (by simp only [wd_0]; rfl) (fun k hk => ?_) ?_
  · have hw := w k
    have hs := stroll_step (k := k) (m := m) (c := c) (x := (wd g F c x b k).1) (t := (wd g F c x b k).2.2.2) (l := (wd g F c x b k).2.2.1) hS hG ho hSR (by omega) (by omega) hc (nextLot_ok hw.1) (lotOf_ok (nxt_b _) hn (by omega)) (nextLot_ok (nxt_b _)) (lotOf_ok (b := 100) (nxt_b _) (by decide) (by decide)) (Nat.mod_lt _ hn) (Nat.mod_lt _ (by decide)) hw.2.1 hw.2.2.2.1.1 hw.2.2.2.1.2
    have e1 : wd g F c x b (k + 1) = wdS g F c (wd g F c x b k) := by rw [wd]
    refine hs.trans ?_
    show _ = some (Sum.inl (iI (eE g (zR F) (wd g F c x b (k + 1)).2.1), lN (wd g F c x b (k + 1)).1, nI (k + 1), xw σ (wkI J (wd g F c x b (k + 1)).2.1 (wd g F c x b (k + 1)).2.2.2 (wd g F c x b (k + 1)).2.2.1)))
    rw [e1]
    unfold wdS
    split
    · rfl
    · rfl
  · simp only [f_X10_strollFrom_b40]
    rw [if_pos (by rw [nn_le (by omega) (by omega)]; exact Nat.le_refl _)]
    rfl
theorem wander12 (hS : Shp σ) (hG : GRD J g) (ho : RO g F) (hK : KNK J g F) (hr : J 191 = F) {m c x b w : Nat} (hm : m ≤ 200) (hc : c ≤ 100) (hx : x < 2147483648) (hb : b < gSt g) (hl : lW g F b = true) (hw : w < 3) :
    xloop (f_X12_wander_b79 (xw σ J) 183 (nI m) (nI c) (nI w)) (lN x, nI b, iI (eE g (zR F) b), (0 : Int32), (0 : Int32)) = some (if w = 0 then nI (wd g F c x b m).2.1 else if w = 1 then iI (wd g F c x b m).2.2.1 else nI (wd g F c x b m).2.2.2, xw σ J) := by
  have hg := hG.1
  have h16 := (gAll_b g hg).2.2.1
  have hSt := (gSt_b hg).1
  have hn : 0 < gSz g := (gSt_pos hb).1
  have ww := wd_ok (c := c) hg ho hx hb hl
  refine xforE (fun k : Nat => (lN (wd g F c x b k).1, nI (wd g F c x b k).2.1, iI (wd g F c x b k).2.2.1, nI (wd g F c x b k).2.2.2, nI k)) m (by simp only [wd_0]; rfl) (fun k hk => ?_) ?_
  · obtain ⟨W, hW⟩ : ∃ W, W = wd g F c x b k := ⟨_, rfl⟩
    have hw := ww k
    rw [← hW] at hw
    obtain ⟨w1, w2, w3, w4, w5⟩ := hw
    show f_X12_wander_b79 (xw σ J) 183 (nI m) (nI c) (nI w) (lN (wd g F c x b k).1, nI (wd g F c x b k).2.1, iI (wd g F c x b k).2.2.1, nI (wd g F c x b k).2.2.2, nI k) = some (.inl (lN (wd g F c x b (k + 1)).1, nI (wd g F c x b (k + 1)).2.1, iI (wd g F c x b (k + 1)).2.2.1, nI (wd g F c x b (k + 1)).2.2.2, nI (k + 1)))
    rw [wd, ← hW]
    obtain ⟨i, hi⟩ : ∃ i, i = nxt W.1 / 65536 % gSz g := ⟨_, rfl⟩
    have hi2 : i < gSz g := by rw [hi]; exact Nat.mod_lt _ hn
    have hcb := sp_b hg ho W.2.1 hi2
    have hmb := mul_bd hc hcb.1 hcb.2
    have y100 : nxt (nxt W.1) / 65536 % 100 < 100 := Nat.mod_lt _ (by decide)
    have nb1 := nxt_b W.1
    have nb2 := nxt_b (nxt W.1)
    have lot1 : ((lN (nxt W.1) / (65536 : Int64)) - (lN (nxt W.1) / (65536 : Int64)) / lN (gSz g) * lN (gSz g)).toInt32 = nI i := by
      rw [show (65536 : Int64) = lN 65536 from rfl, vL_div (by omega) (by omega), vL_rem (by omega) (by omega), ← hi, vL_i32 (by omega)]
    have lot2 : ((lN (nxt (nxt W.1)) / (65536 : Int64)) - (lN (nxt (nxt W.1)) / (65536 : Int64)) / (100 : Int64) * (100 : Int64)).toInt32 = nI (nxt (nxt W.1) / 65536 % 100) := by
      rw [show (65536 : Int64) = lN 65536 from rfl, vL_div (by omega) (by omega), show (100 : Int64) = lN 100 from rfl, vL_rem (by omega) (by omega), vL_i32 (by omega)]
    have hdz : xdZ (lN (gSz g)) = some () := by
      unfold xdZ
      rw [if_neg (by rw [show (0 : Int64) = lN 0 from rfl, vL_eq (by omega) (by omega)]; omega)]
    have hcmp : (nI (nxt (nxt W.1) / 65536 % 100) < (100 : Int32) - nI c * iI (eC g (zR F) W.2.1 i)) = (((nxt (nxt W.1) / 65536 % 100 : Nat) : Int) < 100 - (c : Int) * eC g (zR F) W.2.1 i) := by
      rw [show (100 : Int32) = iI 100 from rfl, iI_n, iI_n, iI_mul, iI_sub, iI_lt (by omega) (by omega) (by omega) (by omega)]
    have hpin : J 191 (48 + i) = F (48 + i) := by rw [hr]
    have hp3 := (ho.2.1 i (by omega)).1
    have hpc : (0 < F (48 + i)) = ¬ (F (48 + i) = 0) := by
      rcases hp3 with z | z | z <;> rw [z] <;> decide
    have hcost := costOf_ok (σ := σ) (I := J) hS hG (s := W.2.1) (i := i) (by omega) hi2
    rw [hr] at hcost
    have hfl := gSt_flip w2 hi2
    have hflip := eE_flip hg (zR F) (s := W.2.1) hi2
    have hfb := eE_b hg ho (W.2.1 ^^^ 2 ^ i)
    simp only [f_X12_wander_b79]
    rw [if_neg (by rw [nn_le (by omega) (by omega)]; omega), nextOf_ok w1, Option.bind_some]
    simp (disch := first | assumption | omega) only [Option.bind_some, Option.map_some, xw_gR, xw_gN, xw_al, xw_ck, xw_uI, xw_ur, xup_at, xur_at, if_true, if_false, reduceIte, and_true, true_and, and_false, false_and, not_true_eq_false, not_false_eq_true, Nat.reduceEqDiff, eq_self, Nat.reduceAdd, Nat.reduceMul, kC1, kG1, kP1, kR1_0, kR1_1, kR1_2, kR1_3, kR1_4, kR1_5, kR1_6, kR1_7, kR1_8, kR1_9, kR1_10, kR1_11, kR1_12, kR1_13, kC2, kG2, kP2, kR2_0, kR2_1, kC3, kG3, kP3, kR3_0, kR3_1, kR3_2, kR3_3, kL4, kA4, kS4, kL5, kA5, kS5, kL6, kA6, kS6, kL7, kA7, kS7, kC8, kG8, kP8, kR8_0, kR8_1, kL9, kA9, kS9, kL10, kA10, kS10, kC11, kG11, kP11, kR11_0, kR11_1, kR11_2, kR11_3, kL12, kA12, kS12, kL13, kA13, kS13, kL14, kA14, kS14, kL15, kA15, kS15, kC16, kG16, kP16, kR16_0, kR16_1, kL17, kA17, kS17, kL18, kA18, kS18, kC19, kG19, kP19, kR19_0, kL20, kL141, kL146, kA146, kS146, kL151, kA151, kS151, kL156, kA156, kS156, kC157, kG157, kP157, kR157_0, kR157_1, kL158, kA158, kS158, kL159, kA159, kS159, kC161, kG161, kP161, kR161_0, kR161_1, kL162, kA162, kS162, kL163, kA163, kS163, kC165, kG165, kP165, kR165_0, kR165_1, kR165_2, kR165_3, kL166, kA166, kS166, kL167, kA167, kS167, kL168, kA168, kS168, kL169, kA169, kS169, kC170, kG170, kP170, kR170_0, kR170_1, kR170_2, kL171, kA171, kS171, kL172, kA172, kS172, kL173, kA173, kS173, kC174, kG174, kP174, kR174_0, kR174_1, kR174_2, kR174_3, kR174_4, kL175, kA175, kS175, kL176, kA176, kS176, kL177, kA177, kS177, kL178, kA178, kS178, kL179, kC180, kG180, kP180, kL181, kL182, kA182, kS182, kC183, kG183, kP183, kR183_1, kR183_3, kR183_5, kR183_6, kR183_7, kR183_8, kR183_9, kR183_21, kR183_26, kR183_27, kR183_30, kR183_31, kR183_33, kR183_34, kR183_36, kR183_37, kR183_38, kR183_39, kR183_40, kR183_41, kR183_42, kR183_43, kR183_44, kL184, kA184, kS184, kL185, kA185, kS185, kL186, kA186, kS186, kL187, kA187, kS187, kL188, kA188, kS188, kL189, kL190, kL191, kA191, kS191, kL192, kA192, kS192, kL193, kA193, kS193, kL194, kA194, kS194, kL195, kA195, kS195, kL196, kA196, kS196, kL197, kA197, kS197, kL198, kA198, kS198, kL199, kA199, kS199, kL200, kA200, kS200, kL201, kL202, kA202, kS202, kL203, kA203, kS203, kL204, kA204, kS204, kL205, kL206, kA206, kS206, sites_ok hS hG, nI_i64, hdz, nextOf_ok nb1, lot1, show (48 : Int32) = nI 48 from rfl, nn_add, hpin, hpc, hcost, lot2, hcmp, nn_one, nn_xor]
    rw [← nI_succ, ← nI_succ]
    unfold wdS
    rw [← hi]
    by_cases h0 : F (48 + i) = 0
    · simp only [h0, not_true_eq_false, if_false, true_and]
      by_cases hy : ((nxt (nxt W.1) / 65536 % 100 : Nat) : Int) < 100 - (c : Int) * eC g (zR F) W.2.1 i
      · rw [if_pos hy, if_pos hy]
        have hv := hK.1 _ hfl
        rw [lW_flip hi2 w3, decide_eq_true h0, if_pos rfl] at hv
        rw [hv]
        have hle : (iI W.2.2.1 ≤ iI (eE g (zR F) (W.2.1 ^^^ 2 ^ i))) = (W.2.2.1 ≤ eE g (zR F) (W.2.1 ^^^ 2 ^ i)) := iI_le (by omega) (by omega) (by omega) (by omega)
        simp only [hle]
        by_cases hq : W.2.2.1 ≤ eE g (zR F) (W.2.1 ^^^ 2 ^ i)
        · rw [if_pos hq, show min W.2.2.1 (eE g (zR F) (W.2.1 ^^^ 2 ^ i)) = W.2.2.1 by omega]
        · rw [if_neg hq, show min W.2.2.1 (eE g (zR F) (W.2.1 ^^^ 2 ^ i)) = eE g (zR F) (W.2.1 ^^^ 2 ^ i) by omega]
      · rw [if_neg hy, if_neg hy]
    · simp only [h0, not_false_eq_true, if_true, false_and, if_false]
  · simp only [f_X12_wander_b79]
    rw [if_pos (by rw [nn_le (by omega) (by omega)]; exact Nat.le_refl _)]
    rcases (show w = 0 ∨ w = 1 ∨ w = 2 by omega) with rfl | rfl | rfl
    · rfl
    · rfl
    · rfl
end WANDER
end
