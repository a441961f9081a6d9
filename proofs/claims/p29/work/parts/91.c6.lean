section
/-! counts of the strip -/
/-- how many lawful states -/
def npin (F : Nat → Int32) (k : Nat) : Nat := fb_ct (fun i => decide (F (48 + i) ≠ 0)) k
theorem npin_le (F : Nat → Int32) (k : Nat) : npin F k ≤ k := fb_ct_le _ _
theorem lwk_s {F : Nat → Int32} {k s : Nat} : lwk F (k + 1) s = (lwk F k s && (decide (F (48 + k) = 0) || (s.testBit k == decide (F (48 + k) = 1)))) := by
  unfold lwk
  rw [List.range_succ, List.all_append]
  simp
theorem lwk_cong {F : Nat → Int32} {k s s' : Nat} (h : ∀ i, i < k → s'.testBit i = s.testBit i) : lwk F k s' = lwk F k s := by
  rw [Bool.eq_iff_iff, lwk_iff, lwk_iff]
  constructor
  · intro q i hi hne; rw [← h i hi]; exact q i hi hne
  · intro q i hi hne; rw [h i hi]; exact q i hi hne
theorem lawful_ct {F : Nat → Int32} : ∀ k, (∀ i, i < k → F (48 + i) = 0 ∨ F (48 + i) = 1 ∨ F (48 + i) = 2) → fb_ct (lwk F k) (2 ^ k) = 2 ^ (k - npin F k)
  | 0, _ => rfl
  | k + 1, hp => by
    have ih := lawful_ct k (fun i hi => hp i (by omega))
    have hle := npin_le F k
    have hsp : 2 ^ (k + 1) = 2 ^ k + 2 ^ k := by rw [Nat.pow_succ]; omega
    rw [hsp, fb_ct_split]
    have lo : ∀ s, s < 2 ^ k → lwk F (k + 1) s = (lwk F k s && (decide (F (48 + k) = 0) || !decide (F (48 + k) = 1))) := fun s hs => by
      rw [lwk_s, Nat.testBit_lt_two_pow hs]
      cases decide (F (48 + k) = 1) <;> rfl
    have hi : ∀ s, s < 2 ^ k → lwk F (k + 1) (2 ^ k + s) = (lwk F k s && (decide (F (48 + k) = 0) || decide (F (48 + k) = 1))) := fun s hs => by
      rw [lwk_s, lwk_cong (s := s) (fun i hi => Nat.testBit_two_pow_add_gt hi s), Nat.testBit_two_pow_add_eq, Nat.testBit_lt_two_pow hs]
      cases decide (F (48 + k) = 1) <;> rfl
    rw [fb_ct_cong lo, fb_ct_cong hi]
    have np : npin F (k + 1) = npin F k + (if F (48 + k) = 0 then 0 else 1) := by
      unfold npin
      rw [fb_ct_succ]
      by_cases z : F (48 + k) = 0 <;> simp [z]
    have no : fb_ct (fun _ => false) (2 ^ k) = 0 := fb_ct_zero.mpr (fun _ _ => rfl)
    rcases hp k (by omega) with z | z | z
    · rw [np, if_pos z]
      simp only [z, decide_true, Bool.true_or, Bool.and_true]
      have e1 : fb_ct (fun k_1 => lwk F k k_1) (2 ^ k) = 2 ^ (k - npin F k) := ih
      rw [e1, show k + 1 - (npin F k + 0) = (k - npin F k) + 1 by omega, Nat.pow_succ]
      omega
    · have z0 : ¬ ((1 : Int32) = 0) := by decide
      rw [np, if_neg (by rw [z]; decide)]
      simp only [z, z0, decide_true, decide_false, Bool.false_or, Bool.not_true, Bool.and_false, Bool.and_true]
      have e1 : fb_ct (fun k_1 => lwk F k k_1) (2 ^ k) = 2 ^ (k - npin F k) := ih
      rw [no, e1, show k + 1 - (npin F k + 1) = k - npin F k by omega]
      omega
    · have z0 : ¬ ((2 : Int32) = 0) := by decide
      have z1 : ¬ ((2 : Int32) = 1) := by decide
      rw [np, if_neg (by rw [z]; decide)]
      simp only [z, z0, z1, decide_false, Bool.false_or, Bool.not_false, Bool.and_false, Bool.and_true]
      have e1 : fb_ct (fun k_1 => lwk F k k_1) (2 ^ k) = 2 ^ (k - npin F k) := ih
      rw [no, e1, show k + 1 - (npin F k + 1) = k - npin F k by omega]
      omega
section COUNTS
variable {σ : XS} {I : Nat → Nat → Int32} {g : GD} {F : Nat → Int32}
theorem pC_pin (hg : g ∈ gAll) {p : Nat} (e5 : ∀ i, p.testBit i = (decide (i < gSz g) && decide (F (48 + i) ≠ 0))) : pC p = npin F (gSz g) := by
  have h16 := (gAll_b g hg).2.2.1
  unfold pC npin
  have h1 := fb_ct_split (fun i => p.testBit i) (gSz g) (16 - gSz g)
  rw [show gSz g + (16 - gSz g) = 16 by omega] at h1
  have z : fb_ct (fun k => p.testBit (gSz g + k)) (16 - gSz g) = 0 := fb_ct_zero.mpr (fun j hj => by
    show p.testBit (gSz g + j) = false
    rw [e5]
    have : ¬ (gSz g + j < gSz g) := by omega
    simp [this])
  rw [h1, z, Nat.add_zero]
  exact fb_ct_cong (fun i hi => by
    show p.testBit i = _
    rw [e5]; simp [hi])
theorem countStates_ok (hS : Shp σ) (hG : GRD I g) (ho : RO g F) (hSR : SR g I 16 F) : f_X11_countStates (xw σ I) 1 = some (nI (fb_ct (lW g F) (gSt g))) := by
  have hg := hG.1
  have h16 := (gAll_b g hg).2.2.1
  obtain ⟨-, -, ⟨p, u, e3, e4, e5, e6⟩, -, -⟩ := id hSR
  have hp : p < 65536 := Nat.lt_pow_two_of_testBit (n := 16) p (fun j hj => by rw [e5]; simp; omega)
  have hle := npin_le F (gSz g)
  unfold f_X11_countStates
  have e : (nI (gSz g) = 0) = (gSz g = 0) := nn_eq (b := 0) (by omega) (by decide)
  simp (disch := first | assumption | omega) only [Option.bind_some, Option.map_some, xw_gR, xw_gN, xw_al, xw_ck, xw_uI, xw_ur, xup_at, xur_at, if_true, if_false, reduceIte, and_true, true_and, and_false, false_and, not_true_eq_false, not_false_eq_true, Nat.reduceEqDiff, eq_self, Nat.reduceAdd, Nat.reduceMul, kC1, kG1, kP1, kR1_0, kR1_1, kR1_2, kR1_3, kR1_4, kR1_5, kR1_6, kR1_7, kR1_8, kR1_9, kR1_10, kR1_11, kR1_12, kR1_13, kC2, kG2, kP2, kR2_0, kR2_1, kC3, kG3, kP3, kR3_0, kR3_1, kR3_2, kR3_3, kL4, kA4, kS4, kL5, kA5, kS5, kL6, kA6, kS6, kL7, kA7, kS7, kC8, kG8, kP8, kR8_0, kR8_1, kL9, kA9, kS9, kL10, kA10, kS10, kC11, kG11, kP11, kR11_0, kR11_1, kR11_2, kR11_3, kL12, kA12, kS12, kL13, kA13, kS13, kL14, kA14, kS14, kL15, kA15, kS15, kC16, kG16, kP16, kR16_0, kR16_1, kL17, kA17, kS17, kL18, kA18, kS18, kC19, kG19, kP19, kR19_0, kL20, kL141, kL146, kA146, kS146, kL151, kA151, kS151, kL156, kA156, kS156, kC157, kG157, kP157, kR157_0, kR157_1, kL158, kA158, kS158, kL159, kA159, kS159, kC161, kG161, kP161, kR161_0, kR161_1, kL162, kA162, kS162, kL163, kA163, kS163, kC165, kG165, kP165, kR165_0, kR165_1, kR165_2, kR165_3, kL166, kA166, kS166, kL167, kA167, kS167, kL168, kA168, kS168, kL169, kA169, kS169, kC170, kG170, kP170, kR170_0, kR170_1, kR170_2, kL171, kA171, kS171, kL172, kA172, kS172, kL173, kA173, kS173, kC174, kG174, kP174, kR174_0, kR174_1, kR174_2, kR174_3, kR174_4, kL175, kA175, kS175, kL176, kA176, kS176, kL177, kA177, kS177, kL178, kA178, kS178, kL179, kC180, kG180, kP180, kL181, kL182, kA182, kS182, kC183, kG183, kP183, kR183_1, kR183_3, kR183_5, kR183_6, kR183_7, kR183_8, kR183_9, kR183_21, kR183_26, kR183_27, kR183_30, kR183_31, kR183_33, kR183_34, kR183_36, kR183_37, kR183_38, kR183_39, kR183_40, kR183_41, kR183_42, kR183_43, kR183_44, kL184, kA184, kS184, kL185, kA185, kS185, kL186, kA186, kS186, kL187, kA187, kS187, kL188, kA188, kS188, kL189, kL190, kL191, kA191, kS191, kL192, kA192, kS192, kL193, kA193, kS193, kL194, kA194, kS194, kL195, kA195, kS195, kL196, kA196, kS196, kL197, kA197, kS197, kL198, kA198, kS198, kL199, kA199, kS199, kL200, kA200, kS200, kL201, kL202, kA202, kS202, kL203, kA203, kS203, kL204, kA204, kS204, kL205, kL206, kA206, kS206, hG.2.2.2.2.1, e, e3, bitCount_ok hp]
  by_cases h0 : gSz g = 0
  · rw [if_pos h0]
    have : gSt g = 0 := by unfold gSt; rw [if_pos h0]
    rw [this]; rfl
  · rw [if_neg h0, pC_pin hg e5, nn_sub hle, nn_one (by omega)]
    have hN : gSt g = 2 ^ gSz g := by unfold gSt; rw [if_neg h0]
    rw [hN]
    have := lawful_ct (F := F) (gSz g) (fun i hi => (ho.2.1 i (by omega)).1)
    rw [← this]
    rfl
theorem lawfulMany_ok (hS : Shp σ) (hG : GRD I g) (hr : I 191 = F) (ho : RO g F) : f_X12_lawfulMany (xw σ I) 183 = some (nI (fb_ct (lW g F) (gSt g))) := by
  have hg := hG.1
  have hSt := (gSt_b hg).1
  unfold f_X12_lawfulMany
  refine xforE (fun s : Nat => (nI (fb_ct (lW g F) s), nI s)) (gSt g) rfl (fun s hs => ?_) ?_
  · simp only [f_X12_lawfulMany_b4]
    have hl := isLawful12_ok (σ := σ) (I := I) hS hG (by rw [hr]; exact ho) (nI s)
    rw [hr, isB_n hg hs] at hl
    simp (disch := first | assumption | omega) only [Option.bind_some, Option.map_some, xw_gR, xw_gN, xw_al, xw_ck, xw_uI, xw_ur, xup_at, xur_at, if_true, if_false, reduceIte, and_true, true_and, and_false, false_and, not_true_eq_false, not_false_eq_true, Nat.reduceEqDiff, eq_self, Nat.reduceAdd, Nat.reduceMul, kC1, kG1, kP1, kR1_0, kR1_1, kR1_2, kR1_3, kR1_4, kR1_5, kR1_6, kR1_7, kR1_8, kR1_9, kR1_10, kR1_11, kR1_12, kR1_13, kC2, kG2, kP2, kR2_0, kR2_1, kC3, kG3, kP3, kR3_0, kR3_1, kR3_2, kR3_3, kL4, kA4, kS4, kL5, kA5, kS5, kL6, kA6, kS6, kL7, kA7, kS7, kC8, kG8, kP8, kR8_0, kR8_1, kL9, kA9, kS9, kL10, kA10, kS10, kC11, kG11, kP11, kR11_0, kR11_1, kR11_2, kR11_3, kL12, kA12, kS12, kL13, kA13, kS13, kL14, kA14, kS14, kL15, kA15, kS15, kC16, kG16, kP16, kR16_0, kR16_1, kL17, kA17, kS17, kL18, kA18, kS18, kC19, kG19, kP19, kR19_0, kL20, kL141, kL146, kA146, kS146, kL151, kA151, kS151, kL156, kA156, kS156, kC157, kG157, kP157, kR157_0, kR157_1, kL158, kA158, kS158, kL159, kA159, kS159, kC161, kG161, kP161, kR161_0, kR161_1, kL162, kA162, kS162, kL163, kA163, kS163, kC165, kG165, kP165, kR165_0, kR165_1, kR165_2, kR165_3, kL166, kA166, kS166, kL167, kA167, kS167, kL168, kA168, kS168, kL169, kA169, kS169, kC170, kG170, kP170, kR170_0, kR170_1, kR170_2, kL171, kA171, kS171, kL172, kA172, kS172, kL173, kA173, kS173, kC174, kG174, kP174, kR174_0, kR174_1, kR174_2, kR174_3, kR174_4, kL175, kA175, kS175, kL176, kA176, kS176, kL177, kA177, kS177, kL178, kA178, kS178, kL179, kC180, kG180, kP180, kL181, kL182, kA182, kS182, kC183, kG183, kP183, kR183_1, kR183_3, kR183_5, kR183_6, kR183_7, kR183_8, kR183_9, kR183_21, kR183_26, kR183_27, kR183_30, kR183_31, kR183_33, kR183_34, kR183_36, kR183_37, kR183_38, kR183_39, kR183_40, kR183_41, kR183_42, kR183_43, kR183_44, kL184, kA184, kS184, kL185, kA185, kS185, kL186, kA186, kS186, kL187, kA187, kS187, kL188, kA188, kS188, kL189, kL190, kL191, kA191, kS191, kL192, kA192, kS192, kL193, kA193, kS193, kL194, kA194, kS194, kL195, kA195, kS195, kL196, kA196, kS196, kL197, kA197, kS197, kL198, kA198, kS198, kL199, kA199, kS199, kL200, kA200, kS200, kL201, kL202, kA202, kS202, kL203, kA203, kS203, kL204, kA204, kS204, kL205, kL206, kA206, kS206, states12_ok hS hG, nn_le, show ¬ (gSt g ≤ s) by omega, hl]
    rw [fb_ct_succ, ← nI_succ, ← nI_succ]
    cases lW g F s <;> rfl
  · simp only [f_X12_lawfulMany_b4]
    simp (disch := first | assumption | omega) only [Option.bind_some, Option.map_some, xw_gR, xw_gN, xw_al, xw_ck, xw_uI, xw_ur, xup_at, xur_at, if_true, if_false, reduceIte, and_true, true_and, and_false, false_and, not_true_eq_false, not_false_eq_true, Nat.reduceEqDiff, eq_self, Nat.reduceAdd, Nat.reduceMul, kC1, kG1, kP1, kR1_0, kR1_1, kR1_2, kR1_3, kR1_4, kR1_5, kR1_6, kR1_7, kR1_8, kR1_9, kR1_10, kR1_11, kR1_12, kR1_13, kC2, kG2, kP2, kR2_0, kR2_1, kC3, kG3, kP3, kR3_0, kR3_1, kR3_2, kR3_3, kL4, kA4, kS4, kL5, kA5, kS5, kL6, kA6, kS6, kL7, kA7, kS7, kC8, kG8, kP8, kR8_0, kR8_1, kL9, kA9, kS9, kL10, kA10, kS10, kC11, kG11, kP11, kR11_0, kR11_1, kR11_2, kR11_3, kL12, kA12, kS12, kL13, kA13, kS13, kL14, kA14, kS14, kL15, kA15, kS15, kC16, kG16, kP16, kR16_0, kR16_1, kL17, kA17, kS17, kL18, kA18, kS18, kC19, kG19, kP19, kR19_0, kL20, kL141, kL146, kA146, kS146, kL151, kA151, kS151, kL156, kA156, kS156, kC157, kG157, kP157, kR157_0, kR157_1, kL158, kA158, kS158, kL159, kA159, kS159, kC161, kG161, kP161, kR161_0, kR161_1, kL162, kA162, kS162, kL163, kA163, kS163, kC165, kG165, kP165, kR165_0, kR165_1, kR165_2, kR165_3, kL166, kA166, kS166, kL167, kA167, kS167, kL168, kA168, kS168, kL169, kA169, kS169, kC170, kG170, kP170, kR170_0, kR170_1, kR170_2, kL171, kA171, kS171, kL172, kA172, kS172, kL173, kA173, kS173, kC174, kG174, kP174, kR174_0, kR174_1, kR174_2, kR174_3, kR174_4, kL175, kA175, kS175, kL176, kA176, kS176, kL177, kA177, kS177, kL178, kA178, kS178, kL179, kC180, kG180, kP180, kL181, kL182, kA182, kS182, kC183, kG183, kP183, kR183_1, kR183_3, kR183_5, kR183_6, kR183_7, kR183_8, kR183_9, kR183_21, kR183_26, kR183_27, kR183_30, kR183_31, kR183_33, kR183_34, kR183_36, kR183_37, kR183_38, kR183_39, kR183_40, kR183_41, kR183_42, kR183_43, kR183_44, kL184, kA184, kS184, kL185, kA185, kS185, kL186, kA186, kS186, kL187, kA187, kS187, kL188, kA188, kS188, kL189, kL190, kL191, kA191, kS191, kL192, kA192, kS192, kL193, kA193, kS193, kL194, kA194, kS194, kL195, kA195, kS195, kL196, kA196, kS196, kL197, kA197, kS197, kL198, kA198, kS198, kL199, kA199, kS199, kL200, kA200, kS200, kL201, kL202, kA202, kS202, kL203, kA203, kS203, kL204, kA204, kS204, kL205, kL206, kA206, kS206, states12_ok hS hG, nn_le, Nat.le_refl]
def pnM (F : Nat → Int32) : Nat → Nat
  | 0 => 0
  | i + 1 => if F (48 + i) = 0 then pnM F i else pnM F i ||| 2 ^ i
theorem pnM_b (F : Nat → Int32) : ∀ k i, (pnM F k).testBit i = (decide (i < k) && decide (F (48 + i) ≠ 0))
  | 0, i => by rw [pnM, Nat.zero_testBit]; simp
  | k + 1, i => by
    rw [pnM]
    have ih := pnM_b F k i
    by_cases h : F (48 + k) = 0
    · rw [if_pos h, ih]
      by_cases z : i = k
      · subst z; simp [h]
      · have : (i < k + 1) ↔ (i < k) := by omega
        simp only [this]
    · rw [if_neg h, fb_bit_set, ih]
      by_cases z : i = k
      · subst z; simp [h]
      · have : (i < k + 1) ↔ (i < k) := by omega
        simp [this, z]
theorem pinned12_ok (hS : Shp σ) (hG : GRD I g) (hr : I 191 = F) (ho : RO g F) {p : Nat} (e5 : ∀ i, p.testBit i = (decide (i < gSz g) && decide (F (48 + i) ≠ 0))) : f_X12_pinned (xw σ I) 183 = some (nI p) := by
  have hg := hG.1
  have h16 := (gAll_b g hg).2.2.1
  have hp : p = pnM F (gSz g) := Nat.eq_of_testBit_eq (fun i => by rw [e5, pnM_b])
  rw [hp]
  unfold f_X12_pinned
  refine xforE (fun i : Nat => (nI (pnM F i), nI i)) (gSz g) rfl (fun i hi => ?_) ?_
  · simp only [f_X12_pinned_b4]
    have hp3 := (ho.2.1 i (by omega)).1
    have hpc : (F (48 + i) ≤ 0) = (F (48 + i) = 0) := by
      rcases hp3 with z | z | z <;> rw [z] <;> decide
    have hv : I 191 (48 + i) = F (48 + i) := by rw [hr]
    simp (disch := first | assumption | omega) only [Option.bind_some, Option.map_some, xw_gR, xw_gN, xw_al, xw_ck, xw_uI, xw_ur, xup_at, xur_at, if_true, if_false, reduceIte, and_true, true_and, and_false, false_and, not_true_eq_false, not_false_eq_true, Nat.reduceEqDiff, eq_self, Nat.reduceAdd, Nat.reduceMul, kC1, kG1, kP1, kR1_0, kR1_1, kR1_2, kR1_3, kR1_4, kR1_5, kR1_6, kR1_7, kR1_8, kR1_9, kR1_10, kR1_11, kR1_12, kR1_13, kC2, kG2, kP2, kR2_0, kR2_1, kC3, kG3, kP3, kR3_0, kR3_1, kR3_2, kR3_3, kL4, kA4, kS4, kL5, kA5, kS5, kL6, kA6, kS6, kL7, kA7, kS7, kC8, kG8, kP8, kR8_0, kR8_1, kL9, kA9, kS9, kL10, kA10, kS10, kC11, kG11, kP11, kR11_0, kR11_1, kR11_2, kR11_3, kL12, kA12, kS12, kL13, kA13, kS13, kL14, kA14, kS14, kL15, kA15, kS15, kC16, kG16, kP16, kR16_0, kR16_1, kL17, kA17, kS17, kL18, kA18, kS18, kC19, kG19, kP19, kR19_0, kL20, kL141, kL146, kA146, kS146, kL151, kA151, kS151, kL156, kA156, kS156, kC157, kG157, kP157, kR157_0, kR157_1, kL158, kA158, kS158, kL159, kA159, kS159, kC161, kG161, kP161, kR161_0, kR161_1, kL162, kA162, kS162, kL163, kA163, kS163, kC165, kG165, kP165, kR165_0, kR165_1, kR165_2, kR165_3, kL166, kA166, kS166, kL167, kA167, kS167, kL168, kA168, kS168, kL169, kA169, kS169, kC170, kG170, kP170, kR170_0, kR170_1, kR170_2, kL171, kA171, kS171, kL172, kA172, kS172, kL173, kA173, kS173, kC174, kG174, kP174, kR174_0, kR174_1, kR174_2, kR174_3, kR174_4, kL175, kA175, kS175, kL176, kA176, kS176, kL177, kA177, kS177, kL178, kA178, kS178, kL179, kC180, kG180, kP180, kL181, kL182, kA182, kS182, kC183, kG183, kP183, kR183_1, kR183_3, kR183_5, kR183_6, kR183_7, kR183_8, kR183_9, kR183_21, kR183_26, kR183_27, kR183_30, kR183_31, kR183_33, kR183_34, kR183_36, kR183_37, kR183_38, kR183_39, kR183_40, kR183_41, kR183_42, kR183_43, kR183_44, kL184, kA184, kS184, kL185, kA185, kS185, kL186, kA186, kS186, kL187, kA187, kS187, kL188, kA188, kS188, kL189, kL190, kL191, kA191, kS191, kL192, kA192, kS192, kL193, kA193, kS193, kL194, kA194, kS194, kL195, kA195, kS195, kL196, kA196, kS196, kL197, kA197, kS197, kL198, kA198, kS198, kL199, kA199, kS199, kL200, kA200, kS200, kL201, kL202, kA202, kS202, kL203, kA203, kS203, kL204, kA204, kS204, kL205, kL206, kA206, kS206, sites_ok hS hG, nn_le, show ¬ (gSz g ≤ i) by omega, show (48 : Int32) = nI 48 from rfl, nn_add, hv, hpc, nn_one, fa_or]
    rw [← nI_succ, pnM]
    by_cases z : F (48 + i) = 0
    · rw [if_pos z, if_pos z]
    · rw [if_neg z, if_neg z]
  · simp only [f_X12_pinned_b4]
    simp (disch := first | assumption | omega) only [Option.bind_some, Option.map_some, xw_gR, xw_gN, xw_al, xw_ck, xw_uI, xw_ur, xup_at, xur_at, if_true, if_false, reduceIte, and_true, true_and, and_false, false_and, not_true_eq_false, not_false_eq_true, Nat.reduceEqDiff, eq_self, Nat.reduceAdd, Nat.reduceMul, kC1, kG1, kP1, kR1_0, kR1_1, kR1_2, kR1_3, kR1_4, kR1_5, kR1_6, kR1_7, kR1_8, kR1_9, kR1_10, kR1_11, kR1_12, kR1_13, kC2, kG2, kP2, kR2_0, kR2_1, kC3, kG3, kP3, kR3_0, kR3_1, kR3_2, kR3_3, kL4, kA4, kS4, kL5, kA5, kS5, kL6, kA6, kS6, kL7, kA7, kS7, kC8, kG8, kP8, kR8_0, kR8_1, kL9, kA9, kS9, kL10, kA10, kS10, kC11, kG11, kP11, kR11_0, kR11_1, kR11_2, kR11_3, kL12, kA12, kS12, kL13, kA13, kS13, kL14, kA14, kS14, kL15, kA15, kS15, kC16, kG16, kP16, kR16_0, kR16_1, kL17, kA17, kS17, kL18, kA18, kS18, kC19, kG19, kP19, kR19_0, kL20, kL141, kL146, kA146, kS146, kL151, kA151, kS151, kL156, kA156, kS156, kC157, kG157, kP157, kR157_0, kR157_1, kL158, kA158, kS158, kL159, kA159, kS159, kC161, kG161, kP161, kR161_0, kR161_1, kL162, kA162, kS162, kL163, kA163, kS163, kC165, kG165, kP165, kR165_0, kR165_1, kR165_2, kR165_3, kL166, kA166, kS166, kL167, kA167, kS167, kL168, kA168, kS168, kL169, kA169, kS169, kC170, kG170, kP170, kR170_0, kR170_1, kR170_2, kL171, kA171, kS171, kL172, kA172, kS172, kL173, kA173, kS173, kC174, kG174, kP174, kR174_0, kR174_1, kR174_2, kR174_3, kR174_4, kL175, kA175, kS175, kL176, kA176, kS176, kL177, kA177, kS177, kL178, kA178, kS178, kL179, kC180, kG180, kP180, kL181, kL182, kA182, kS182, kC183, kG183, kP183, kR183_1, kR183_3, kR183_5, kR183_6, kR183_7, kR183_8, kR183_9, kR183_21, kR183_26, kR183_27, kR183_30, kR183_31, kR183_33, kR183_34, kR183_36, kR183_37, kR183_38, kR183_39, kR183_40, kR183_41, kR183_42, kR183_43, kR183_44, kL184, kA184, kS184, kL185, kA185, kS185, kL186, kA186, kS186, kL187, kA187, kS187, kL188, kA188, kS188, kL189, kL190, kL191, kA191, kS191, kL192, kA192, kS192, kL193, kA193, kS193, kL194, kA194, kS194, kL195, kA195, kS195, kL196, kA196, kS196, kL197, kA197, kS197, kL198, kA198, kS198, kL199, kA199, kS199, kL200, kA200, kS200, kL201, kL202, kA202, kS202, kL203, kA203, kS203, kL204, kA204, kS204, kL205, kL206, kA206, kS206, sites_ok hS hG, nn_le, Nat.le_refl]
theorem ties11_ok (hS : Shp σ) (hG : GRD I g) : f_X3_countTies (xw σ I) 11 = some (nI (fb_ct (fun t => (gTo g t).isSome) 32)) := by
  unfold f_X3_countTies
  refine xforE (fun t : Nat => (nI (fb_ct (fun t => (gTo g t).isSome) t), nI t)) 32 rfl (fun t ht => ?_) ?_
  · simp only [f_X3_countTies_b4]
    rw [if_neg (by rw [show (32 : Int32) = nI 32 from rfl, nn_le (by omega) (by omega)]; omega)]
    simp (disch := first | assumption | omega) only [Option.bind_some, Option.map_some, xw_gR, xw_gN, xw_al, xw_ck, xw_uI, xw_ur, xup_at, xur_at, if_true, if_false, reduceIte, and_true, true_and, and_false, false_and, not_true_eq_false, not_false_eq_true, Nat.reduceEqDiff, eq_self, Nat.reduceAdd, Nat.reduceMul, kC1, kG1, kP1, kR1_0, kR1_1, kR1_2, kR1_3, kR1_4, kR1_5, kR1_6, kR1_7, kR1_8, kR1_9, kR1_10, kR1_11, kR1_12, kR1_13, kC2, kG2, kP2, kR2_0, kR2_1, kC3, kG3, kP3, kR3_0, kR3_1, kR3_2, kR3_3, kL4, kA4, kS4, kL5, kA5, kS5, kL6, kA6, kS6, kL7, kA7, kS7, kC8, kG8, kP8, kR8_0, kR8_1, kL9, kA9, kS9, kL10, kA10, kS10, kC11, kG11, kP11, kR11_0, kR11_1, kR11_2, kR11_3, kL12, kA12, kS12, kL13, kA13, kS13, kL14, kA14, kS14, kL15, kA15, kS15, kC16, kG16, kP16, kR16_0, kR16_1, kL17, kA17, kS17, kL18, kA18, kS18, kC19, kG19, kP19, kR19_0, kL20, kL141, kL146, kA146, kS146, kL151, kA151, kS151, kL156, kA156, kS156, kC157, kG157, kP157, kR157_0, kR157_1, kL158, kA158, kS158, kL159, kA159, kS159, kC161, kG161, kP161, kR161_0, kR161_1, kL162, kA162, kS162, kL163, kA163, kS163, kC165, kG165, kP165, kR165_0, kR165_1, kR165_2, kR165_3, kL166, kA166, kS166, kL167, kA167, kS167, kL168, kA168, kS168, kL169, kA169, kS169, kC170, kG170, kP170, kR170_0, kR170_1, kR170_2, kL171, kA171, kS171, kL172, kA172, kS172, kL173, kA173, kS173, kC174, kG174, kP174, kR174_0, kR174_1, kR174_2, kR174_3, kR174_4, kL175, kA175, kS175, kL176, kA176, kS176, kL177, kA177, kS177, kL178, kA178, kS178, kL179, kC180, kG180, kP180, kL181, kL182, kA182, kS182, kC183, kG183, kP183, kR183_1, kR183_3, kR183_5, kR183_6, kR183_7, kR183_8, kR183_9, kR183_21, kR183_26, kR183_27, kR183_30, kR183_31, kR183_33, kR183_34, kR183_36, kR183_37, kR183_38, kR183_39, kR183_40, kR183_41, kR183_42, kR183_43, kR183_44, kL184, kA184, kS184, kL185, kA185, kS185, kL186, kA186, kS186, kL187, kA187, kS187, kL188, kA188, kS188, kL189, kL190, kL191, kA191, kS191, kL192, kA192, kS192, kL193, kA193, kS193, kL194, kA194, kS194, kL195, kA195, kS195, kL196, kA196, kS196, kL197, kA197, kS197, kL198, kA198, kS198, kL199, kA199, kS199, kL200, kA200, kS200, kL201, kL202, kA202, kS202, kL203, kA203, kS203, kL204, kA204, kS204, kL205, kL206, kA206, kS206, endAt_ok hS hG ht, oI_none (gTo_s hG.1 ht)]
    rw [fb_ct_succ, ← nI_succ, ← nI_succ]
    cases gTo g t <;> simp
  · simp only [f_X3_countTies_b4]
    rw [if_pos (by decide)]
    rfl
theorem ties12_ok (hS : Shp σ) (hG : GRD I g) : f_X12_ties (xw σ I) 183 = some (nI (fb_ct (fun t => (gTo g t).isSome) 32)) := by
  have hg := hG.1
  have h16 := (gAll_b g hg).2.2.1
  rw [← ct_ties hg (fun t => (gTo g t).isSome) (fun t ht h => by rw [h]; rfl)]
  unfold f_X12_ties
  refine xforE (fun k : Nat => (nI (fb_ct (fun k => (gTo g (k / 2 + 16 * (k % 2))).isSome) k), nI k)) (2 * gSz g) rfl (fun k hk => ?_) ?_
  · simp only [f_X12_ties_b4]
    obtain ⟨i, hi⟩ : ∃ i, i = k / 2 := ⟨_, rfl⟩
    obtain ⟨d, hd⟩ : ∃ d, d = k % 2 := ⟨_, rfl⟩
    have hi2 : i < gSz g := by omega
    have hd2 : d < 2 := by omega
    have ht : i + 16 * d < 32 := by omega
    have main : f_X12_ties_j30 (xw σ I) 183 (nI (fb_ct (fun k => (gTo g (k / 2 + 16 * (k % 2))).isSome) k)) (nI k) 183 (nI i) (nI d) = some (.inl (nI (fb_ct (fun k => (gTo g (k / 2 + 16 * (k % 2))).isSome) (k + 1)), nI (k + 1))) := by
      unfold f_X12_ties_j30
      simp (disch := first | assumption | omega) only [Option.bind_some, Option.map_some, xw_gR, xw_gN, xw_al, xw_ck, xw_uI, xw_ur, xup_at, xur_at, if_true, if_false, reduceIte, and_true, true_and, and_false, false_and, not_true_eq_false, not_false_eq_true, Nat.reduceEqDiff, eq_self, Nat.reduceAdd, Nat.reduceMul, kC1, kG1, kP1, kR1_0, kR1_1, kR1_2, kR1_3, kR1_4, kR1_5, kR1_6, kR1_7, kR1_8, kR1_9, kR1_10, kR1_11, kR1_12, kR1_13, kC2, kG2, kP2, kR2_0, kR2_1, kC3, kG3, kP3, kR3_0, kR3_1, kR3_2, kR3_3, kL4, kA4, kS4, kL5, kA5, kS5, kL6, kA6, kS6, kL7, kA7, kS7, kC8, kG8, kP8, kR8_0, kR8_1, kL9, kA9, kS9, kL10, kA10, kS10, kC11, kG11, kP11, kR11_0, kR11_1, kR11_2, kR11_3, kL12, kA12, kS12, kL13, kA13, kS13, kL14, kA14, kS14, kL15, kA15, kS15, kC16, kG16, kP16, kR16_0, kR16_1, kL17, kA17, kS17, kL18, kA18, kS18, kC19, kG19, kP19, kR19_0, kL20, kL141, kL146, kA146, kS146, kL151, kA151, kS151, kL156, kA156, kS156, kC157, kG157, kP157, kR157_0, kR157_1, kL158, kA158, kS158, kL159, kA159, kS159, kC161, kG161, kP161, kR161_0, kR161_1, kL162, kA162, kS162, kL163, kA163, kS163, kC165, kG165, kP165, kR165_0, kR165_1, kR165_2, kR165_3, kL166, kA166, kS166, kL167, kA167, kS167, kL168, kA168, kS168, kL169, kA169, kS169, kC170, kG170, kP170, kR170_0, kR170_1, kR170_2, kL171, kA171, kS171, kL172, kA172, kS172, kL173, kA173, kS173, kC174, kG174, kP174, kR174_0, kR174_1, kR174_2, kR174_3, kR174_4, kL175, kA175, kS175, kL176, kA176, kS176, kL177, kA177, kS177, kL178, kA178, kS178, kL179, kC180, kG180, kP180, kL181, kL182, kA182, kS182, kC183, kG183, kP183, kR183_1, kR183_3, kR183_5, kR183_6, kR183_7, kR183_8, kR183_9, kR183_21, kR183_26, kR183_27, kR183_30, kR183_31, kR183_33, kR183_34, kR183_36, kR183_37, kR183_38, kR183_39, kR183_40, kR183_41, kR183_42, kR183_43, kR183_44, kL184, kA184, kS184, kL185, kA185, kS185, kL186, kA186, kS186, kL187, kA187, kS187, kL188, kA188, kS188, kL189, kL190, kL191, kA191, kS191, kL192, kA192, kS192, kL193, kA193, kS193, kL194, kA194, kS194, kL195, kA195, kS195, kL196, kA196, kS196, kL197, kA197, kS197, kL198, kA198, kS198, kL199, kA199, kS199, kL200, kA200, kS200, kL201, kL202, kA202, kS202, kL203, kA203, kS203, kL204, kA204, kS204, kL205, kL206, kA206, kS206, tieTo_ok hS hG hd2 hi2, oI_neg (gTo_s hg ht)]
      rw [fb_ct_succ, ← hi, ← hd, ← nI_succ, ← nI_succ]
      cases gTo g (i + 16 * d) <;> simp
    simp (disch := first | assumption | omega) only [Option.bind_some, Option.map_some, xw_gR, xw_gN, xw_al, xw_ck, xw_uI, xw_ur, xup_at, xur_at, if_true, if_false, reduceIte, and_true, true_and, and_false, false_and, not_true_eq_false, not_false_eq_true, Nat.reduceEqDiff, eq_self, Nat.reduceAdd, Nat.reduceMul, kC1, kG1, kP1, kR1_0, kR1_1, kR1_2, kR1_3, kR1_4, kR1_5, kR1_6, kR1_7, kR1_8, kR1_9, kR1_10, kR1_11, kR1_12, kR1_13, kC2, kG2, kP2, kR2_0, kR2_1, kC3, kG3, kP3, kR3_0, kR3_1, kR3_2, kR3_3, kL4, kA4, kS4, kL5, kA5, kS5, kL6, kA6, kS6, kL7, kA7, kS7, kC8, kG8, kP8, kR8_0, kR8_1, kL9, kA9, kS9, kL10, kA10, kS10, kC11, kG11, kP11, kR11_0, kR11_1, kR11_2, kR11_3, kL12, kA12, kS12, kL13, kA13, kS13, kL14, kA14, kS14, kL15, kA15, kS15, kC16, kG16, kP16, kR16_0, kR16_1, kL17, kA17, kS17, kL18, kA18, kS18, kC19, kG19, kP19, kR19_0, kL20, kL141, kL146, kA146, kS146, kL151, kA151, kS151, kL156, kA156, kS156, kC157, kG157, kP157, kR157_0, kR157_1, kL158, kA158, kS158, kL159, kA159, kS159, kC161, kG161, kP161, kR161_0, kR161_1, kL162, kA162, kS162, kL163, kA163, kS163, kC165, kG165, kP165, kR165_0, kR165_1, kR165_2, kR165_3, kL166, kA166, kS166, kL167, kA167, kS167, kL168, kA168, kS168, kL169, kA169, kS169, kC170, kG170, kP170, kR170_0, kR170_1, kR170_2, kL171, kA171, kS171, kL172, kA172, kS172, kL173, kA173, kS173, kC174, kG174, kP174, kR174_0, kR174_1, kR174_2, kR174_3, kR174_4, kL175, kA175, kS175, kL176, kA176, kS176, kL177, kA177, kS177, kL178, kA178, kS178, kL179, kC180, kG180, kP180, kL181, kL182, kA182, kS182, kC183, kG183, kP183, kR183_1, kR183_3, kR183_5, kR183_6, kR183_7, kR183_8, kR183_9, kR183_21, kR183_26, kR183_27, kR183_30, kR183_31, kR183_33, kR183_34, kR183_36, kR183_37, kR183_38, kR183_39, kR183_40, kR183_41, kR183_42, kR183_43, kR183_44, kL184, kA184, kS184, kL185, kA185, kS185, kL186, kA186, kS186, kL187, kA187, kS187, kL188, kA188, kS188, kL189, kL190, kL191, kA191, kS191, kL192, kA192, kS192, kL193, kA193, kS193, kL194, kA194, kS194, kL195, kA195, kS195, kL196, kA196, kS196, kL197, kA197, kS197, kL198, kA198, kS198, kL199, kA199, kS199, kL200, kA200, kS200, kL201, kL202, kA202, kS202, kL203, kA203, kS203, kL204, kA204, kS204, kL205, kL206, kA206, kS206, sites_ok hS hG, show (2 : Int32) = nI 2 from rfl, nn_mul, nn_le, show ¬ (2 * gSz g ≤ k) by omega, nn_rem]
    have e2 : nI k / nI 2 = nI i := by rw [nn_div (by omega) (by omega), hi]
    have er : (nI (k % 2) = 1) = (k % 2 = 1) := nn_eq (b := 1) (by omega) (by decide)
    have er' : nI k - nI k / nI 2 * nI 2 = nI (k % 2) := nn_rem (by omega) (by omega)
    first
      | rw [er']
      | skip
    simp only [e2, er]
    rcases (show d = 0 ∨ d = 1 by omega) with z | z
    · rw [if_neg (by omega)]
      rw [z] at main
      exact main
    · rw [if_pos (by omega)]
      rw [z] at main
      exact main
  · simp only [f_X12_ties_b4]
    simp (disch := first | assumption | omega) only [Option.bind_some, Option.map_some, xw_gR, xw_gN, xw_al, xw_ck, xw_uI, xw_ur, xup_at, xur_at, if_true, if_false, reduceIte, and_true, true_and, and_false, false_and, not_true_eq_false, not_false_eq_true, Nat.reduceEqDiff, eq_self, Nat.reduceAdd, Nat.reduceMul, kC1, kG1, kP1, kR1_0, kR1_1, kR1_2, kR1_3, kR1_4, kR1_5, kR1_6, kR1_7, kR1_8, kR1_9, kR1_10, kR1_11, kR1_12, kR1_13, kC2, kG2, kP2, kR2_0, kR2_1, kC3, kG3, kP3, kR3_0, kR3_1, kR3_2, kR3_3, kL4, kA4, kS4, kL5, kA5, kS5, kL6, kA6, kS6, kL7, kA7, kS7, kC8, kG8, kP8, kR8_0, kR8_1, kL9, kA9, kS9, kL10, kA10, kS10, kC11, kG11, kP11, kR11_0, kR11_1, kR11_2, kR11_3, kL12, kA12, kS12, kL13, kA13, kS13, kL14, kA14, kS14, kL15, kA15, kS15, kC16, kG16, kP16, kR16_0, kR16_1, kL17, kA17, kS17, kL18, kA18, kS18, kC19, kG19, kP19, kR19_0, kL20, kL141, kL146, kA146, kS146, kL151, kA151, kS151, kL156, kA156, kS156, kC157, kG157, kP157, kR157_0, kR157_1, kL158, kA158, kS158, kL159, kA159, kS159, kC161, kG161, kP161, kR161_0, kR161_1, kL162, kA162, kS162, kL163, kA163, kS163, kC165, kG165, kP165, kR165_0, kR165_1, kR165_2, kR165_3, kL166, kA166, kS166, kL167, kA167, kS167, kL168, kA168, kS168, kL169, kA169, kS169, kC170, kG170, kP170, kR170_0, kR170_1, kR170_2, kL171, kA171, kS171, kL172, kA172, kS172, kL173, kA173, kS173, kC174, kG174, kP174, kR174_0, kR174_1, kR174_2, kR174_3, kR174_4, kL175, kA175, kS175, kL176, kA176, kS176, kL177, kA177, kS177, kL178, kA178, kS178, kL179, kC180, kG180, kP180, kL181, kL182, kA182, kS182, kC183, kG183, kP183, kR183_1, kR183_3, kR183_5, kR183_6, kR183_7, kR183_8, kR183_9, kR183_21, kR183_26, kR183_27, kR183_30, kR183_31, kR183_33, kR183_34, kR183_36, kR183_37, kR183_38, kR183_39, kR183_40, kR183_41, kR183_42, kR183_43, kR183_44, kL184, kA184, kS184, kL185, kA185, kS185, kL186, kA186, kS186, kL187, kA187, kS187, kL188, kA188, kS188, kL189, kL190, kL191, kA191, kS191, kL192, kA192, kS192, kL193, kA193, kS193, kL194, kA194, kS194, kL195, kA195, kS195, kL196, kA196, kS196, kL197, kA197, kS197, kL198, kA198, kS198, kL199, kA199, kS199, kL200, kA200, kS200, kL201, kL202, kA202, kS202, kL203, kA203, kS203, kL204, kA204, kS204, kL205, kL206, kA206, kS206, sites_ok hS hG, show (2 : Int32) = nI 2 from rfl, nn_mul, nn_le, Nat.le_refl]
theorem odds11_ok (hS : Shp σ) (hG : GRD I g) (hSR : SR g I 16 F) : f_X3_countOddSquares (xw σ I) 11 16 = some (nI (fb_ct (fun i => decide (sqv g F i = 1)) (gSz g))) := by
  have h16 := (gAll_b g hG.1).2.2.1
  unfold f_X3_countOddSquares
  refine xforE (fun i : Nat => (nI (fb_ct (fun i => decide (sqv g F i = 1)) i), nI i)) (gSz g) rfl (fun i hi => ?_) ?_
  · simp only [f_X3_countOddSquares_b4]
    simp (disch := first | assumption | omega) only [Option.bind_some, Option.map_some, xw_gR, xw_gN, xw_al, xw_ck, xw_uI, xw_ur, xup_at, xur_at, if_true, if_false, reduceIte, and_true, true_and, and_false, false_and, not_true_eq_false, not_false_eq_true, Nat.reduceEqDiff, eq_self, Nat.reduceAdd, Nat.reduceMul, kC1, kG1, kP1, kR1_0, kR1_1, kR1_2, kR1_3, kR1_4, kR1_5, kR1_6, kR1_7, kR1_8, kR1_9, kR1_10, kR1_11, kR1_12, kR1_13, kC2, kG2, kP2, kR2_0, kR2_1, kC3, kG3, kP3, kR3_0, kR3_1, kR3_2, kR3_3, kL4, kA4, kS4, kL5, kA5, kS5, kL6, kA6, kS6, kL7, kA7, kS7, kC8, kG8, kP8, kR8_0, kR8_1, kL9, kA9, kS9, kL10, kA10, kS10, kC11, kG11, kP11, kR11_0, kR11_1, kR11_2, kR11_3, kL12, kA12, kS12, kL13, kA13, kS13, kL14, kA14, kS14, kL15, kA15, kS15, kC16, kG16, kP16, kR16_0, kR16_1, kL17, kA17, kS17, kL18, kA18, kS18, kC19, kG19, kP19, kR19_0, kL20, kL141, kL146, kA146, kS146, kL151, kA151, kS151, kL156, kA156, kS156, kC157, kG157, kP157, kR157_0, kR157_1, kL158, kA158, kS158, kL159, kA159, kS159, kC161, kG161, kP161, kR161_0, kR161_1, kL162, kA162, kS162, kL163, kA163, kS163, kC165, kG165, kP165, kR165_0, kR165_1, kR165_2, kR165_3, kL166, kA166, kS166, kL167, kA167, kS167, kL168, kA168, kS168, kL169, kA169, kS169, kC170, kG170, kP170, kR170_0, kR170_1, kR170_2, kL171, kA171, kS171, kL172, kA172, kS172, kL173, kA173, kS173, kC174, kG174, kP174, kR174_0, kR174_1, kR174_2, kR174_3, kR174_4, kL175, kA175, kS175, kL176, kA176, kS176, kL177, kA177, kS177, kL178, kA178, kS178, kL179, kC180, kG180, kP180, kL181, kL182, kA182, kS182, kC183, kG183, kP183, kR183_1, kR183_3, kR183_5, kR183_6, kR183_7, kR183_8, kR183_9, kR183_21, kR183_26, kR183_27, kR183_30, kR183_31, kR183_33, kR183_34, kR183_36, kR183_37, kR183_38, kR183_39, kR183_40, kR183_41, kR183_42, kR183_43, kR183_44, kL184, kA184, kS184, kL185, kA185, kS185, kL186, kA186, kS186, kL187, kA187, kS187, kL188, kA188, kS188, kL189, kL190, kL191, kA191, kS191, kL192, kA192, kS192, kL193, kA193, kS193, kL194, kA194, kS194, kL195, kA195, kS195, kL196, kA196, kS196, kL197, kA197, kS197, kL198, kA198, kS198, kL199, kA199, kS199, kL200, kA200, kS200, kL201, kL202, kA202, kS202, kL203, kA203, kS203, kL204, kA204, kS204, kL205, kL206, kA206, kS206, hG.2.2.2.2.1, nn_le, show ¬ (gSz g ≤ i) by omega, square11_ok hS hG suA_16 hSR hi]
    rw [fb_ct_succ, ← nI_succ, ← nI_succ]
    by_cases z : sqv g F i = 1
    · rw [if_pos z]; simp [z]
    · rw [if_neg z]; simp [z]
  · simp only [f_X3_countOddSquares_b4]
    simp (disch := first | assumption | omega) only [Option.bind_some, Option.map_some, xw_gR, xw_gN, xw_al, xw_ck, xw_uI, xw_ur, xup_at, xur_at, if_true, if_false, reduceIte, and_true, true_and, and_false, false_and, not_true_eq_false, not_false_eq_true, Nat.reduceEqDiff, eq_self, Nat.reduceAdd, Nat.reduceMul, kC1, kG1, kP1, kR1_0, kR1_1, kR1_2, kR1_3, kR1_4, kR1_5, kR1_6, kR1_7, kR1_8, kR1_9, kR1_10, kR1_11, kR1_12, kR1_13, kC2, kG2, kP2, kR2_0, kR2_1, kC3, kG3, kP3, kR3_0, kR3_1, kR3_2, kR3_3, kL4, kA4, kS4, kL5, kA5, kS5, kL6, kA6, kS6, kL7, kA7, kS7, kC8, kG8, kP8, kR8_0, kR8_1, kL9, kA9, kS9, kL10, kA10, kS10, kC11, kG11, kP11, kR11_0, kR11_1, kR11_2, kR11_3, kL12, kA12, kS12, kL13, kA13, kS13, kL14, kA14, kS14, kL15, kA15, kS15, kC16, kG16, kP16, kR16_0, kR16_1, kL17, kA17, kS17, kL18, kA18, kS18, kC19, kG19, kP19, kR19_0, kL20, kL141, kL146, kA146, kS146, kL151, kA151, kS151, kL156, kA156, kS156, kC157, kG157, kP157, kR157_0, kR157_1, kL158, kA158, kS158, kL159, kA159, kS159, kC161, kG161, kP161, kR161_0, kR161_1, kL162, kA162, kS162, kL163, kA163, kS163, kC165, kG165, kP165, kR165_0, kR165_1, kR165_2, kR165_3, kL166, kA166, kS166, kL167, kA167, kS167, kL168, kA168, kS168, kL169, kA169, kS169, kC170, kG170, kP170, kR170_0, kR170_1, kR170_2, kL171, kA171, kS171, kL172, kA172, kS172, kL173, kA173, kS173, kC174, kG174, kP174, kR174_0, kR174_1, kR174_2, kR174_3, kR174_4, kL175, kA175, kS175, kL176, kA176, kS176, kL177, kA177, kS177, kL178, kA178, kS178, kL179, kC180, kG180, kP180, kL181, kL182, kA182, kS182, kC183, kG183, kP183, kR183_1, kR183_3, kR183_5, kR183_6, kR183_7, kR183_8, kR183_9, kR183_21, kR183_26, kR183_27, kR183_30, kR183_31, kR183_33, kR183_34, kR183_36, kR183_37, kR183_38, kR183_39, kR183_40, kR183_41, kR183_42, kR183_43, kR183_44, kL184, kA184, kS184, kL185, kA185, kS185, kL186, kA186, kS186, kL187, kA187, kS187, kL188, kA188, kS188, kL189, kL190, kL191, kA191, kS191, kL192, kA192, kS192, kL193, kA193, kS193, kL194, kA194, kS194, kL195, kA195, kS195, kL196, kA196, kS196, kL197, kA197, kS197, kL198, kA198, kS198, kL199, kA199, kS199, kL200, kA200, kS200, kL201, kL202, kA202, kS202, kL203, kA203, kS203, kL204, kA204, kS204, kL205, kL206, kA206, kS206, hG.2.2.2.2.1, nn_le, Nat.le_refl]
theorem odds12_ok (hS : Shp σ) (hG : GRD I g) (hr : I 191 = F) : f_X12_odds (xw σ I) 183 = some (nI (fb_ct (fun i => decide (sqv g F i = 1)) (gSz g))) := by
  have h16 := (gAll_b g hG.1).2.2.1
  unfold f_X12_odds
  refine xforE (fun i : Nat => (nI (fb_ct (fun i => decide (sqv g F i = 1)) i), nI i)) (gSz g) rfl (fun i hi => ?_) ?_
  · simp only [f_X12_odds_b4]
    have ho := odd12_ok hS hG hi
    rw [hr] at ho
    simp (disch := first | assumption | omega) only [Option.bind_some, Option.map_some, xw_gR, xw_gN, xw_al, xw_ck, xw_uI, xw_ur, xup_at, xur_at, if_true, if_false, reduceIte, and_true, true_and, and_false, false_and, not_true_eq_false, not_false_eq_true, Nat.reduceEqDiff, eq_self, Nat.reduceAdd, Nat.reduceMul, kC1, kG1, kP1, kR1_0, kR1_1, kR1_2, kR1_3, kR1_4, kR1_5, kR1_6, kR1_7, kR1_8, kR1_9, kR1_10, kR1_11, kR1_12, kR1_13, kC2, kG2, kP2, kR2_0, kR2_1, kC3, kG3, kP3, kR3_0, kR3_1, kR3_2, kR3_3, kL4, kA4, kS4, kL5, kA5, kS5, kL6, kA6, kS6, kL7, kA7, kS7, kC8, kG8, kP8, kR8_0, kR8_1, kL9, kA9, kS9, kL10, kA10, kS10, kC11, kG11, kP11, kR11_0, kR11_1, kR11_2, kR11_3, kL12, kA12, kS12, kL13, kA13, kS13, kL14, kA14, kS14, kL15, kA15, kS15, kC16, kG16, kP16, kR16_0, kR16_1, kL17, kA17, kS17, kL18, kA18, kS18, kC19, kG19, kP19, kR19_0, kL20, kL141, kL146, kA146, kS146, kL151, kA151, kS151, kL156, kA156, kS156, kC157, kG157, kP157, kR157_0, kR157_1, kL158, kA158, kS158, kL159, kA159, kS159, kC161, kG161, kP161, kR161_0, kR161_1, kL162, kA162, kS162, kL163, kA163, kS163, kC165, kG165, kP165, kR165_0, kR165_1, kR165_2, kR165_3, kL166, kA166, kS166, kL167, kA167, kS167, kL168, kA168, kS168, kL169, kA169, kS169, kC170, kG170, kP170, kR170_0, kR170_1, kR170_2, kL171, kA171, kS171, kL172, kA172, kS172, kL173, kA173, kS173, kC174, kG174, kP174, kR174_0, kR174_1, kR174_2, kR174_3, kR174_4, kL175, kA175, kS175, kL176, kA176, kS176, kL177, kA177, kS177, kL178, kA178, kS178, kL179, kC180, kG180, kP180, kL181, kL182, kA182, kS182, kC183, kG183, kP183, kR183_1, kR183_3, kR183_5, kR183_6, kR183_7, kR183_8, kR183_9, kR183_21, kR183_26, kR183_27, kR183_30, kR183_31, kR183_33, kR183_34, kR183_36, kR183_37, kR183_38, kR183_39, kR183_40, kR183_41, kR183_42, kR183_43, kR183_44, kL184, kA184, kS184, kL185, kA185, kS185, kL186, kA186, kS186, kL187, kA187, kS187, kL188, kA188, kS188, kL189, kL190, kL191, kA191, kS191, kL192, kA192, kS192, kL193, kA193, kS193, kL194, kA194, kS194, kL195, kA195, kS195, kL196, kA196, kS196, kL197, kA197, kS197, kL198, kA198, kS198, kL199, kA199, kS199, kL200, kA200, kS200, kL201, kL202, kA202, kS202, kL203, kA203, kS203, kL204, kA204, kS204, kL205, kL206, kA206, kS206, sites_ok hS hG, nn_le, show ¬ (gSz g ≤ i) by omega, ho]
    rw [fb_ct_succ, ← nI_succ, ← nI_succ]
    by_cases z : sqv g F i = 1
    · rw [if_pos z]; simp [z]
    · rw [if_neg z]; simp [z]
  · simp only [f_X12_odds_b4]
    simp (disch := first | assumption | omega) only [Option.bind_some, Option.map_some, xw_gR, xw_gN, xw_al, xw_ck, xw_uI, xw_ur, xup_at, xur_at, if_true, if_false, reduceIte, and_true, true_and, and_false, false_and, not_true_eq_false, not_false_eq_true, Nat.reduceEqDiff, eq_self, Nat.reduceAdd, Nat.reduceMul, kC1, kG1, kP1, kR1_0, kR1_1, kR1_2, kR1_3, kR1_4, kR1_5, kR1_6, kR1_7, kR1_8, kR1_9, kR1_10, kR1_11, kR1_12, kR1_13, kC2, kG2, kP2, kR2_0, kR2_1, kC3, kG3, kP3, kR3_0, kR3_1, kR3_2, kR3_3, kL4, kA4, kS4, kL5, kA5, kS5, kL6, kA6, kS6, kL7, kA7, kS7, kC8, kG8, kP8, kR8_0, kR8_1, kL9, kA9, kS9, kL10, kA10, kS10, kC11, kG11, kP11, kR11_0, kR11_1, kR11_2, kR11_3, kL12, kA12, kS12, kL13, kA13, kS13, kL14, kA14, kS14, kL15, kA15, kS15, kC16, kG16, kP16, kR16_0, kR16_1, kL17, kA17, kS17, kL18, kA18, kS18, kC19, kG19, kP19, kR19_0, kL20, kL141, kL146, kA146, kS146, kL151, kA151, kS151, kL156, kA156, kS156, kC157, kG157, kP157, kR157_0, kR157_1, kL158, kA158, kS158, kL159, kA159, kS159, kC161, kG161, kP161, kR161_0, kR161_1, kL162, kA162, kS162, kL163, kA163, kS163, kC165, kG165, kP165, kR165_0, kR165_1, kR165_2, kR165_3, kL166, kA166, kS166, kL167, kA167, kS167, kL168, kA168, kS168, kL169, kA169, kS169, kC170, kG170, kP170, kR170_0, kR170_1, kR170_2, kL171, kA171, kS171, kL172, kA172, kS172, kL173, kA173, kS173, kC174, kG174, kP174, kR174_0, kR174_1, kR174_2, kR174_3, kR174_4, kL175, kA175, kS175, kL176, kA176, kS176, kL177, kA177, kS177, kL178, kA178, kS178, kL179, kC180, kG180, kP180, kL181, kL182, kA182, kS182, kC183, kG183, kP183, kR183_1, kR183_3, kR183_5, kR183_6, kR183_7, kR183_8, kR183_9, kR183_21, kR183_26, kR183_27, kR183_30, kR183_31, kR183_33, kR183_34, kR183_36, kR183_37, kR183_38, kR183_39, kR183_40, kR183_41, kR183_42, kR183_43, kR183_44, kL184, kA184, kS184, kL185, kA185, kS185, kL186, kA186, kS186, kL187, kA187, kS187, kL188, kA188, kS188, kL189, kL190, kL191, kA191, kS191, kL192, kA192, kS192, kL193, kA193, kS193, kL194, kA194, kS194, kL195, kA195, kS195, kL196, kA196, kS196, kL197, kA197, kS197, kL198, kA198, kS198, kL199, kA199, kS199, kL200, kA200, kS200, kL201, kL202, kA202, kS202, kL203, kA203, kS203, kL204, kA204, kS204, kL205, kL206, kA206, kS206, sites_ok hS hG, nn_le, Nat.le_refl]
end COUNTS
end
section
/-! clusters counted -/
def cd (g : GD) (b T : Nat) : Prop := ∀ t, t < 32 → ∀ e, gTo g t = some e → b.testBit (gFr t) = b.testBit e → T.testBit (gFr t) = T.testBit e
theorem cd_iff {g : GD} {b T : Nat} : (∀ t, t < 32 → clS g b t T = T) ↔ cd g b T := by
  constructor
  · intro h t ht e he hb
    have h1 := h t ht
    unfold clS at h1
    rw [he] at h1
    dsimp only at h1
    cases qa : T.testBit (gFr t) with
    | false =>
      cases qe : T.testBit e with
      | false => rfl
      | true =>
        rw [if_pos ⟨hb, .inr qe⟩] at h1
        have := congrArg (fun x => Nat.testBit x (gFr t)) h1
        simp [Nat.testBit_or, Nat.testBit_two_pow, qa] at this
    | true =>
      cases qe : T.testBit e with
      | true => rfl
      | false =>
        rw [if_pos ⟨hb, .inl qa⟩] at h1
        have := congrArg (fun x => Nat.testBit x e) h1
        simp [Nat.testBit_or, Nat.testBit_two_pow, qe] at this
  · intro h t ht
    unfold clS
    cases he : gTo g t with
    | none => rfl
    | some e =>
      dsimp only
      split
      · next hc =>
        have hq := h t ht e he hc.1
        have ha : T.testBit (gFr t) = true := by
          rcases hc.2 with z | z
          · exact z
          · rw [hq]; exact z
        have hE : T.testBit e = true := by rw [← hq]; exact ha
        apply Nat.eq_of_testBit_eq
        intro i
        rw [Nat.testBit_or, Nat.testBit_or, Nat.testBit_two_pow, Nat.testBit_two_pow]
        by_cases z1 : gFr t = i
        · rw [← z1, ha]; rfl
        · by_cases z2 : e = i
          · rw [← z2, hE]; rfl
          · simp [z1, z2]
      · rfl
theorem clR_props {g : GD} (hg : g ∈ gAll) {b i : Nat} (hi : i < gSz g) : cd g b (clR g b i) ∧ (clR g b i).testBit i = true ∧ (∀ T, T.testBit i = true → cd g b T → sub (clR g b i) T) ∧ clR g b i < 65536 := by
  have h16 := (gAll_b g hg).2.2.1
  have h2i : 2 ^ i < 65536 := Nat.pow_lt_pow_right (n := 16) (by decide) (by omega)
  have h20 : 2 ^ i ≠ 0 := Nat.pos_iff_ne_zero.mp (Nat.two_pow_pos i)
  have hf : ∀ j, j < 2 * gSz g → tk j < 32 := fun j hj => by unfold tk; omega
  obtain ⟨K, k1, k2, k3⟩ := clI_end (b := b) (f := tk) (N := 2 * gSz g) hg hf h2i h20
  have e2 : clI g b tk (2 * gSz g) (2 ^ i) K = clR g b i := by
    unfold clR
    have := clI_stay k2 (16 - K)
    rw [show K + (16 - K) = 16 by omega] at this
    exact this.symm
  have fix : ∀ j, j < 2 * gSz g → clS g b (tk j) (clR g b i) = clR g b i := by
    rw [← e2]
    exact clP_fix _ k2
  refine ⟨cd_iff.mp ((cl_both hg).mpr fix), ?_, fun T hT hc => ?_, ?_⟩
  · exact clI_up 16 i (by rw [Nat.testBit_two_pow]; simp)
  · refine clI_in (fun j hj => ?_) ((cl_both hg).mp (cd_iff.mpr hc)) 16
    rw [Nat.testBit_two_pow, decide_eq_true_eq] at hj
    rw [← hj]; exact hT
  · exact clI_b hg hf h2i 16
theorem cl_sym {g : GD} (hg : g ∈ gAll) {b i j : Nat} (hi : i < gSz g) (hj : j < gSz g) (h : (clR g b i).testBit j = true) : clR g b j = clR g b i := by
  have h16 := (gAll_b g hg).2.2.1
  obtain ⟨a1, a2, a3, a4⟩ := clR_props (b := b) hg hi
  obtain ⟨c1, c2, c3, c4⟩ := clR_props (b := b) hg hj
  have h1 : sub (clR g b j) (clR g b i) := c3 _ h a1
  have hij : (clR g b j).testBit i = true := by
    cases q : (clR g b j).testBit i with
    | true => rfl
    | false =>
      exfalso
      have hcd : cd g b (clR g b i &&& (clR g b j ^^^ 4294967295)) := by
        intro t ht e he hb
        have hb2 := gTo_b g hg t ht e he
        rw [andn_bit _ _ _ (by omega), andn_bit _ _ _ (by omega), a1 t ht e he hb, c1 t ht e he hb]
      have := a3 _ (by rw [andn_bit _ _ _ (by omega), a2, q]; rfl) hcd j h
      rw [andn_bit _ _ _ (by omega), c2] at this
      simp at this
  exact sub_anti h1 (a3 _ hij c1)
def lst (g : GD) (b i : Nat) : Bool := decide (clR g b i &&& (2 ^ i - 1) = 0)
theorem lst_iff {g : GD} {b i : Nat} : lst g b i = true ↔ ∀ j, j < i → (clR g b i).testBit j = false := by
  unfold lst
  rw [decide_eq_true_eq]
  constructor
  · intro h j hj
    have := congrArg (fun x => Nat.testBit x j) h
    simp [Nat.testBit_and, Nat.testBit_two_pow_sub_one, hj] at this
    exact this
  · intro h
    apply Nat.eq_of_testBit_eq
    intro j
    rw [Nat.testBit_and, Nat.testBit_two_pow_sub_one, Nat.zero_testBit]
    by_cases hj : j < i
    · rw [h j hj]; rfl
    · simp [hj]
section CLCOUNT
variable {σ : XS} {I : Nat → Nat → Int32} {g : GD}
theorem clusters11_ok (hS : Shp σ) (hG : GRD I g) {b : Nat} (hb : b < 65536) : f_X3_countClusters (xw σ I) 11 (nI b) = some (nI (fb_ct (lst g b) (gSz g))) := by
  have hg := hG.1
  have h16 := (gAll_b g hg).2.2.1
  unfold f_X3_countClusters
  have key : ∃ r, xloop (f_X3_countClusters_b7 (xw σ I) 11 (nI b)) (nI 0, nI 0, nI 0) = some r ∧ r = nI (fb_ct (lst g b) (gSz g)) := by
    refine xforI (fun i x => ∃ S, x = (nI S, nI (fb_ct (lst g b) i), nI i) ∧ S < 65536 ∧ ∀ t, S.testBit t = true ↔ ∃ j, j < i ∧ (clR g b j).testBit t = true) (gSz g) ⟨0, rfl, by decide, fun t => by rw [Nat.zero_testBit]; constructor; intro h; cases h; rintro ⟨j, hj, _⟩; omega⟩ ?_ ?_
    · rintro i x hi ⟨S, rfl, hS1, hS2⟩
      obtain ⟨a1, a2, a3, a4⟩ := clR_props (b := b) hg hi
      simp only [f_X3_countClusters_b7]
      simp (disch := first | assumption | omega) only [Option.bind_some, Option.map_some, xw_gR, xw_gN, xw_al, xw_ck, xw_uI, xw_ur, xup_at, xur_at, if_true, if_false, reduceIte, and_true, true_and, and_false, false_and, not_true_eq_false, not_false_eq_true, Nat.reduceEqDiff, eq_self, Nat.reduceAdd, Nat.reduceMul, kC1, kG1, kP1, kR1_0, kR1_1, kR1_2, kR1_3, kR1_4, kR1_5, kR1_6, kR1_7, kR1_8, kR1_9, kR1_10, kR1_11, kR1_12, kR1_13, kC2, kG2, kP2, kR2_0, kR2_1, kC3, kG3, kP3, kR3_0, kR3_1, kR3_2, kR3_3, kL4, kA4, kS4, kL5, kA5, kS5, kL6, kA6, kS6, kL7, kA7, kS7, kC8, kG8, kP8, kR8_0, kR8_1, kL9, kA9, kS9, kL10, kA10, kS10, kC11, kG11, kP11, kR11_0, kR11_1, kR11_2, kR11_3, kL12, kA12, kS12, kL13, kA13, kS13, kL14, kA14, kS14, kL15, kA15, kS15, kC16, kG16, kP16, kR16_0, kR16_1, kL17, kA17, kS17, kL18, kA18, kS18, kC19, kG19, kP19, kR19_0, kL20, kL141, kL146, kA146, kS146, kL151, kA151, kS151, kL156, kA156, kS156, kC157, kG157, kP157, kR157_0, kR157_1, kL158, kA158, kS158, kL159, kA159, kS159, kC161, kG161, kP161, kR161_0, kR161_1, kL162, kA162, kS162, kL163, kA163, kS163, kC165, kG165, kP165, kR165_0, kR165_1, kR165_2, kR165_3, kL166, kA166, kS166, kL167, kA167, kS167, kL168, kA168, kS168, kL169, kA169, kS169, kC170, kG170, kP170, kR170_0, kR170_1, kR170_2, kL171, kA171, kS171, kL172, kA172, kS172, kL173, kA173, kS173, kC174, kG174, kP174, kR174_0, kR174_1, kR174_2, kR174_3, kR174_4, kL175, kA175, kS175, kL176, kA176, kS176, kL177, kA177, kS177, kL178, kA178, kS178, kL179, kC180, kG180, kP180, kL181, kL182, kA182, kS182, kC183, kG183, kP183, kR183_1, kR183_3, kR183_5, kR183_6, kR183_7, kR183_8, kR183_9, kR183_21, kR183_26, kR183_27, kR183_30, kR183_31, kR183_33, kR183_34, kR183_36, kR183_37, kR183_38, kR183_39, kR183_40, kR183_41, kR183_42, kR183_43, kR183_44, kL184, kA184, kS184, kL185, kA185, kS185, kL186, kA186, kS186, kL187, kA187, kS187, kL188, kA188, kS188, kL189, kL190, kL191, kA191, kS191, kL192, kA192, kS192, kL193, kA193, kS193, kL194, kA194, kS194, kL195, kA195, kS195, kL196, kA196, kS196, kL197, kA197, kS197, kL198, kA198, kS198, kL199, kA199, kS199, kL200, kA200, kS200, kL201, kL202, kA202, kS202, kL203, kA203, kS203, kL204, kA204, kS204, kL205, kL206, kA206, kS206, hG.2.2.2.2.1, nn_le, show ¬ (gSz g ≤ i) by omega, bitOf_ok (show S < 2147483648 by omega) (show i < 32 by omega), bI_0, (cluster_two hS hG hb hi).1, fa_or]
      rw [← nI_succ, ← nI_succ]
      cases hq : S.testBit i with
      | false =>
        have hno : ∀ j, j < i → (clR g b i).testBit j = false := by
          intro j hj
          cases q : (clR g b i).testBit j with
          | false => rfl
          | true =>
            have e := cl_sym hg hi (show j < gSz g by omega) q
            have := (hS2 i).mpr ⟨j, hj, by rw [e]; exact a2⟩
            rw [hq] at this; cases this
        have hl : lst g b i = true := lst_iff.mpr hno
        rw [if_pos rfl]
        refine ⟨_, rfl, S ||| clR g b i, by rw [fb_ct_succ, hl]; rfl, Nat.or_lt_two_pow (n := 16) hS1 a4, fun t => ?_⟩
        rw [Nat.testBit_or, Bool.or_eq_true, hS2]
        constructor
        · rintro (⟨j, h1, h2⟩ | h)
          · exact ⟨j, by omega, h2⟩
          · exact ⟨i, by omega, h⟩
        · rintro ⟨j, h1, h2⟩
          by_cases z : j = i
          · right; rw [← z]; exact h2
          · left; exact ⟨j, by omega, h2⟩
      | true =>
        obtain ⟨j, hj, hj2⟩ := (hS2 i).mp hq
        have e := cl_sym hg (show j < gSz g by omega) hi hj2
        have hl : lst g b i = false := by
          cases q : lst g b i with
          | false => rfl
          | true =>
            have := lst_iff.mp q j hj
            rw [e, (clR_props (b := b) hg (show j < gSz g by omega)).2.1] at this
            cases this
        rw [if_neg (by decide)]
        refine ⟨_, rfl, S, by rw [fb_ct_succ, hl]; rfl, hS1, fun t => ?_⟩
        rw [hS2]
        constructor
        · rintro ⟨k, h1, h2⟩; exact ⟨k, by omega, h2⟩
        · rintro ⟨k, h1, h2⟩
          by_cases z : k = i
          · rw [z, e] at h2; exact ⟨j, hj, h2⟩
          · exact ⟨k, by omega, h2⟩
    · rintro x ⟨S, rfl, hS1, hS2⟩
      refine ⟨_, ?_, rfl⟩
      simp only [f_X3_countClusters_b7]
      simp (disch := first | assumption | omega) only [Option.bind_some, Option.map_some, xw_gR, xw_gN, xw_al, xw_ck, xw_uI, xw_ur, xup_at, xur_at, if_true, if_false, reduceIte, and_true, true_and, and_false, false_and, not_true_eq_false, not_false_eq_true, Nat.reduceEqDiff, eq_self, Nat.reduceAdd, Nat.reduceMul, kC1, kG1, kP1, kR1_0, kR1_1, kR1_2, kR1_3, kR1_4, kR1_5, kR1_6, kR1_7, kR1_8, kR1_9, kR1_10, kR1_11, kR1_12, kR1_13, kC2, kG2, kP2, kR2_0, kR2_1, kC3, kG3, kP3, kR3_0, kR3_1, kR3_2, kR3_3, kL4, kA4, kS4, kL5, kA5, kS5, kL6, kA6, kS6, kL7, kA7, kS7, kC8, kG8, kP8, kR8_0, kR8_1, kL9, kA9, kS9, kL10, kA10, kS10, kC11, kG11, kP11, kR11_0, kR11_1, kR11_2, kR11_3, kL12, kA12, kS12, kL13, kA13, kS13, kL14, kA14, kS14, kL15, kA15, kS15, kC16, kG16, kP16, kR16_0, kR16_1, kL17, kA17, kS17, kL18, kA18, kS18, kC19, kG19, kP19, kR19_0, kL20, kL141, kL146, kA146, kS146, kL151, kA151, kS151, kL156, kA156, kS156, kC157, kG157, kP157, kR157_0, kR157_1, kL158, kA158, kS158, kL159, kA159, kS159, kC161, kG161, kP161, kR161_0, kR161_1, kL162, kA162, kS162, kL163, kA163, kS163, kC165, kG165, kP165, kR165_0, kR165_1, kR165_2, kR165_3, kL166, kA166, kS166, kL167, kA167, kS167, kL168, kA168, kS168, kL169, kA169, kS169, kC170, kG170, kP170, kR170_0, kR170_1, kR170_2, kL171, kA171, kS171, kL172, kA172, kS172, kL173, kA173, kS173, kC174, kG174, kP174, kR174_0, kR174_1, kR174_2, kR174_3, kR174_4, kL175, kA175, kS175, kL176, kA176, kS176, kL177, kA177, kS177, kL178, kA178, kS178, kL179, kC180, kG180, kP180, kL181, kL182, kA182, kS182, kC183, kG183, kP183, kR183_1, kR183_3, kR183_5, kR183_6, kR183_7, kR183_8, kR183_9, kR183_21, kR183_26, kR183_27, kR183_30, kR183_31, kR183_33, kR183_34, kR183_36, kR183_37, kR183_38, kR183_39, kR183_40, kR183_41, kR183_42, kR183_43, kR183_44, kL184, kA184, kS184, kL185, kA185, kS185, kL186, kA186, kS186, kL187, kA187, kS187, kL188, kA188, kS188, kL189, kL190, kL191, kA191, kS191, kL192, kA192, kS192, kL193, kA193, kS193, kL194, kA194, kS194, kL195, kA195, kS195, kL196, kA196, kS196, kL197, kA197, kS197, kL198, kA198, kS198, kL199, kA199, kS199, kL200, kA200, kS200, kL201, kL202, kA202, kS202, kL203, kA203, kS203, kL204, kA204, kS204, kL205, kL206, kA206, kS206, hG.2.2.2.2.1, nn_le, Nat.le_refl]
  obtain ⟨r, h1, h2⟩ := key
  rw [← h2]
  exact h1
theorem clusters12_ok (hS : Shp σ) (hG : GRD I g) {b : Nat} (h64 : I 191 64 = nI b) (hb : b < 65536) : f_X12_clusters (xw σ I) 183 = some (nI (fb_ct (lst g b) (gSz g))) := by
  have hg := hG.1
  have h16 := (gAll_b g hg).2.2.1
  unfold f_X12_clusters
  refine xforE (fun i : Nat => (nI (fb_ct (lst g b) i), nI i)) (gSz g) rfl (fun i hi => ?_) ?_
  · simp only [f_X12_clusters_b4]
    obtain ⟨c1, c2, c3⟩ := cluster_two (σ := σ) (I := I) hS hG hb hi
    have e1 : nI (2 ^ i) - (1 : Int32) = nI (2 ^ i - 1) := by rw [show (1 : Int32) = nI 1 from rfl, nn_sub (Nat.two_pow_pos i)]
    have hlt : clR g b i &&& (2 ^ i - 1) < 65536 := Nat.lt_of_le_of_lt Nat.and_le_left c3
    have e2 : (nI (clR g b i &&& (2 ^ i - 1)) = 0) = (clR g b i &&& (2 ^ i - 1) = 0) := nn_eq (b := 0) (by omega) (by decide)
    simp (disch := first | assumption | omega) only [Option.bind_some, Option.map_some, xw_gR, xw_gN, xw_al, xw_ck, xw_uI, xw_ur, xup_at, xur_at, if_true, if_false, reduceIte, and_true, true_and, and_false, false_and, not_true_eq_false, not_false_eq_true, Nat.reduceEqDiff, eq_self, Nat.reduceAdd, Nat.reduceMul, kC1, kG1, kP1, kR1_0, kR1_1, kR1_2, kR1_3, kR1_4, kR1_5, kR1_6, kR1_7, kR1_8, kR1_9, kR1_10, kR1_11, kR1_12, kR1_13, kC2, kG2, kP2, kR2_0, kR2_1, kC3, kG3, kP3, kR3_0, kR3_1, kR3_2, kR3_3, kL4, kA4, kS4, kL5, kA5, kS5, kL6, kA6, kS6, kL7, kA7, kS7, kC8, kG8, kP8, kR8_0, kR8_1, kL9, kA9, kS9, kL10, kA10, kS10, kC11, kG11, kP11, kR11_0, kR11_1, kR11_2, kR11_3, kL12, kA12, kS12, kL13, kA13, kS13, kL14, kA14, kS14, kL15, kA15, kS15, kC16, kG16, kP16, kR16_0, kR16_1, kL17, kA17, kS17, kL18, kA18, kS18, kC19, kG19, kP19, kR19_0, kL20, kL141, kL146, kA146, kS146, kL151, kA151, kS151, kL156, kA156, kS156, kC157, kG157, kP157, kR157_0, kR157_1, kL158, kA158, kS158, kL159, kA159, kS159, kC161, kG161, kP161, kR161_0, kR161_1, kL162, kA162, kS162, kL163, kA163, kS163, kC165, kG165, kP165, kR165_0, kR165_1, kR165_2, kR165_3, kL166, kA166, kS166, kL167, kA167, kS167, kL168, kA168, kS168, kL169, kA169, kS169, kC170, kG170, kP170, kR170_0, kR170_1, kR170_2, kL171, kA171, kS171, kL172, kA172, kS172, kL173, kA173, kS173, kC174, kG174, kP174, kR174_0, kR174_1, kR174_2, kR174_3, kR174_4, kL175, kA175, kS175, kL176, kA176, kS176, kL177, kA177, kS177, kL178, kA178, kS178, kL179, kC180, kG180, kP180, kL181, kL182, kA182, kS182, kC183, kG183, kP183, kR183_1, kR183_3, kR183_5, kR183_6, kR183_7, kR183_8, kR183_9, kR183_21, kR183_26, kR183_27, kR183_30, kR183_31, kR183_33, kR183_34, kR183_36, kR183_37, kR183_38, kR183_39, kR183_40, kR183_41, kR183_42, kR183_43, kR183_44, kL184, kA184, kS184, kL185, kA185, kS185, kL186, kA186, kS186, kL187, kA187, kS187, kL188, kA188, kS188, kL189, kL190, kL191, kA191, kS191, kL192, kA192, kS192, kL193, kA193, kS193, kL194, kA194, kS194, kL195, kA195, kS195, kL196, kA196, kS196, kL197, kA197, kS197, kL198, kA198, kS198, kL199, kA199, kS199, kL200, kA200, kS200, kL201, kL202, kA202, kS202, kL203, kA203, kS203, kL204, kA204, kS204, kL205, kL206, kA206, kS206, sites_ok hS hG, nn_le, show ¬ (gSz g ≤ i) by omega, c2 h64, nn_one, e1, fa_and, e2]
    rw [fb_ct_succ, ← nI_succ, ← nI_succ]
    have hl : lst g b i = decide (clR g b i &&& (2 ^ i - 1) = 0) := rfl
    rw [hl]
    by_cases z : clR g b i &&& (2 ^ i - 1) = 0
    · rw [if_pos z, decide_eq_true z]; rfl
    · rw [if_neg z, decide_eq_false z]; rfl
  · simp only [f_X12_clusters_b4]
    simp (disch := first | assumption | omega) only [Option.bind_some, Option.map_some, xw_gR, xw_gN, xw_al, xw_ck, xw_uI, xw_ur, xup_at, xur_at, if_true, if_false, reduceIte, and_true, true_and, and_false, false_and, not_true_eq_false, not_false_eq_true, Nat.reduceEqDiff, eq_self, Nat.reduceAdd, Nat.reduceMul, kC1, kG1, kP1, kR1_0, kR1_1, kR1_2, kR1_3, kR1_4, kR1_5, kR1_6, kR1_7, kR1_8, kR1_9, kR1_10, kR1_11, kR1_12, kR1_13, kC2, kG2, kP2, kR2_0, kR2_1, kC3, kG3, kP3, kR3_0, kR3_1, kR3_2, kR3_3, kL4, kA4, kS4, kL5, kA5, kS5, kL6, kA6, kS6, kL7, kA7, kS7, kC8, kG8, kP8, kR8_0, kR8_1, kL9, kA9, kS9, kL10, kA10, kS10, kC11, kG11, kP11, kR11_0, kR11_1, kR11_2, kR11_3, kL12, kA12, kS12, kL13, kA13, kS13, kL14, kA14, kS14, kL15, kA15, kS15, kC16, kG16, kP16, kR16_0, kR16_1, kL17, kA17, kS17, kL18, kA18, kS18, kC19, kG19, kP19, kR19_0, kL20, kL141, kL146, kA146, kS146, kL151, kA151, kS151, kL156, kA156, kS156, kC157, kG157, kP157, kR157_0, kR157_1, kL158, kA158, kS158, kL159, kA159, kS159, kC161, kG161, kP161, kR161_0, kR161_1, kL162, kA162, kS162, kL163, kA163, kS163, kC165, kG165, kP165, kR165_0, kR165_1, kR165_2, kR165_3, kL166, kA166, kS166, kL167, kA167, kS167, kL168, kA168, kS168, kL169, kA169, kS169, kC170, kG170, kP170, kR170_0, kR170_1, kR170_2, kL171, kA171, kS171, kL172, kA172, kS172, kL173, kA173, kS173, kC174, kG174, kP174, kR174_0, kR174_1, kR174_2, kR174_3, kR174_4, kL175, kA175, kS175, kL176, kA176, kS176, kL177, kA177, kS177, kL178, kA178, kS178, kL179, kC180, kG180, kP180, kL181, kL182, kA182, kS182, kC183, kG183, kP183, kR183_1, kR183_3, kR183_5, kR183_6, kR183_7, kR183_8, kR183_9, kR183_21, kR183_26, kR183_27, kR183_30, kR183_31, kR183_33, kR183_34, kR183_36, kR183_37, kR183_38, kR183_39, kR183_40, kR183_41, kR183_42, kR183_43, kR183_44, kL184, kA184, kS184, kL185, kA185, kS185, kL186, kA186, kS186, kL187, kA187, kS187, kL188, kA188, kS188, kL189, kL190, kL191, kA191, kS191, kL192, kA192, kS192, kL193, kA193, kS193, kL194, kA194, kS194, kL195, kA195, kS195, kL196, kA196, kS196, kL197, kA197, kS197, kL198, kA198, kS198, kL199, kA199, kS199, kL200, kA200, kS200, kL201, kL202, kA202, kS202, kL203, kA203, kS203, kL204, kA204, kS204, kL205, kL206, kA206, kS206, sites_ok hS hG, nn_le, Nat.le_refl]
def mxC (g : GD) (b : Nat) : Nat → Nat
  | 0 => 0
  | i + 1 => max (mxC g b i) (pC (clR g b i))
theorem mxC_b (g : GD) (b : Nat) : ∀ i, mxC g b i ≤ 16
  | 0 => Nat.zero_le _
  | i + 1 => by
    have := mxC_b g b i
    have := pC_16 (clR g b i)
    rw [mxC]; omega
theorem xmax_n {a b : Nat} (ha : a < 2147483648) (hb : b < 2147483648) : xmax (nI a) (nI b) = nI (max a b) := by
  unfold xmax
  simp only [nn_lt ha hb]
  by_cases h : a < b
  · rw [if_pos h, Nat.max_eq_right (by omega)]
  · rw [if_neg h, Nat.max_eq_left (by omega)]
theorem greatest11_ok (hS : Shp σ) (hG : GRD I g) {b : Nat} (hb : b < 65536) : f_X3_greatestCluster (xw σ I) 11 (nI b) = some (nI (mxC g b (gSz g))) := by
  have hg := hG.1
  have h16 := (gAll_b g hg).2.2.1
  unfold f_X3_greatestCluster
  refine xforE (fun i : Nat => (nI (mxC g b i), nI i)) (gSz g) rfl (fun i hi => ?_) ?_
  · simp only [f_X3_greatestCluster_b4]
    obtain ⟨c1, c2, c3⟩ := cluster_two (σ := σ) (I := I) hS hG hb hi
    have m1 := mxC_b g b i
    have p1 := pC_16 (clR g b i)
    obtain ⟨r, hr⟩ : ∃ r, r = pC (clR g b i) := ⟨_, rfl⟩
    obtain ⟨m0, hm0⟩ : ∃ m0, m0 = mxC g b i := ⟨_, rfl⟩
    have bc := bitCount_ok c3
    have e1 : mxC g b (i + 1) = max m0 r := by rw [mxC, ← hr, ← hm0]
    rw [← hr] at bc p1
    rw [← hm0] at m1
    rw [e1, ← hm0]
    obtain ⟨C, hC⟩ : ∃ C, C = clR g b i := ⟨_, rfl⟩
    rw [← hC] at bc c1
    rw [xw_gI (sT11 hS), Option.bind_some, hG.2.2.2.2.1, if_neg (by rw [nn_le (by omega) (by omega)]; omega), xw_ck, xck_ok (sT11 hS), Option.bind_some, c1, Option.bind_some, bc, Option.bind_some, xmax_n (by omega) (by omega), ← nI_succ]
  · simp only [f_X3_greatestCluster_b4]
    simp (disch := first | assumption | omega) only [Option.bind_some, Option.map_some, xw_gR, xw_gN, xw_al, xw_ck, xw_uI, xw_ur, xup_at, xur_at, if_true, if_false, reduceIte, and_true, true_and, and_false, false_and, not_true_eq_false, not_false_eq_true, Nat.reduceEqDiff, eq_self, Nat.reduceAdd, Nat.reduceMul, kC1, kG1, kP1, kR1_0, kR1_1, kR1_2, kR1_3, kR1_4, kR1_5, kR1_6, kR1_7, kR1_8, kR1_9, kR1_10, kR1_11, kR1_12, kR1_13, kC2, kG2, kP2, kR2_0, kR2_1, kC3, kG3, kP3, kR3_0, kR3_1, kR3_2, kR3_3, kL4, kA4, kS4, kL5, kA5, kS5, kL6, kA6, kS6, kL7, kA7, kS7, kC8, kG8, kP8, kR8_0, kR8_1, kL9, kA9, kS9, kL10, kA10, kS10, kC11, kG11, kP11, kR11_0, kR11_1, kR11_2, kR11_3, kL12, kA12, kS12, kL13, kA13, kS13, kL14, kA14, kS14, kL15, kA15, kS15, kC16, kG16, kP16, kR16_0, kR16_1, kL17, kA17, kS17, kL18, kA18, kS18, kC19, kG19, kP19, kR19_0, kL20, kL141, kL146, kA146, kS146, kL151, kA151, kS151, kL156, kA156, kS156, kC157, kG157, kP157, kR157_0, kR157_1, kL158, kA158, kS158, kL159, kA159, kS159, kC161, kG161, kP161, kR161_0, kR161_1, kL162, kA162, kS162, kL163, kA163, kS163, kC165, kG165, kP165, kR165_0, kR165_1, kR165_2, kR165_3, kL166, kA166, kS166, kL167, kA167, kS167, kL168, kA168, kS168, kL169, kA169, kS169, kC170, kG170, kP170, kR170_0, kR170_1, kR170_2, kL171, kA171, kS171, kL172, kA172, kS172, kL173, kA173, kS173, kC174, kG174, kP174, kR174_0, kR174_1, kR174_2, kR174_3, kR174_4, kL175, kA175, kS175, kL176, kA176, kS176, kL177, kA177, kS177, kL178, kA178, kS178, kL179, kC180, kG180, kP180, kL181, kL182, kA182, kS182, kC183, kG183, kP183, kR183_1, kR183_3, kR183_5, kR183_6, kR183_7, kR183_8, kR183_9, kR183_21, kR183_26, kR183_27, kR183_30, kR183_31, kR183_33, kR183_34, kR183_36, kR183_37, kR183_38, kR183_39, kR183_40, kR183_41, kR183_42, kR183_43, kR183_44, kL184, kA184, kS184, kL185, kA185, kS185, kL186, kA186, kS186, kL187, kA187, kS187, kL188, kA188, kS188, kL189, kL190, kL191, kA191, kS191, kL192, kA192, kS192, kL193, kA193, kS193, kL194, kA194, kS194, kL195, kA195, kS195, kL196, kA196, kS196, kL197, kA197, kS197, kL198, kA198, kS198, kL199, kA199, kS199, kL200, kA200, kS200, kL201, kL202, kA202, kS202, kL203, kA203, kS203, kL204, kA204, kS204, kL205, kL206, kA206, kS206, hG.2.2.2.2.1, nn_le, Nat.le_refl]
theorem greatest12_ok (hS : Shp σ) (hG : GRD I g) {b : Nat} (h64 : I 191 64 = nI b) (hb : b < 65536) : f_X12_greatest (xw σ I) 183 = some (nI (mxC g b (gSz g))) := by
  have hg := hG.1
  have h16 := (gAll_b g hg).2.2.1
  unfold f_X12_greatest
  refine xforE (fun i : Nat => (nI (mxC g b i), nI i)) (gSz g) rfl (fun i hi => ?_) ?_
  · simp only [f_X12_greatest_b4]
    obtain ⟨c1, c2, c3⟩ := cluster_two (σ := σ) (I := I) hS hG hb hi
    have m1 := mxC_b g b i
    have p1 := pC_16 (clR g b i)
    have hle : (nI (pC (clR g b i)) ≤ nI (mxC g b i)) = (pC (clR g b i) ≤ mxC g b i) := nn_le (by omega) (by omega)
    simp (disch := first | assumption | omega) only [Option.bind_some, Option.map_some, xw_gR, xw_gN, xw_al, xw_ck, xw_uI, xw_ur, xup_at, xur_at, if_true, if_false, reduceIte, and_true, true_and, and_false, false_and, not_true_eq_false, not_false_eq_true, Nat.reduceEqDiff, eq_self, Nat.reduceAdd, Nat.reduceMul, kC1, kG1, kP1, kR1_0, kR1_1, kR1_2, kR1_3, kR1_4, kR1_5, kR1_6, kR1_7, kR1_8, kR1_9, kR1_10, kR1_11, kR1_12, kR1_13, kC2, kG2, kP2, kR2_0, kR2_1, kC3, kG3, kP3, kR3_0, kR3_1, kR3_2, kR3_3, kL4, kA4, kS4, kL5, kA5, kS5, kL6, kA6, kS6, kL7, kA7, kS7, kC8, kG8, kP8, kR8_0, kR8_1, kL9, kA9, kS9, kL10, kA10, kS10, kC11, kG11, kP11, kR11_0, kR11_1, kR11_2, kR11_3, kL12, kA12, kS12, kL13, kA13, kS13, kL14, kA14, kS14, kL15, kA15, kS15, kC16, kG16, kP16, kR16_0, kR16_1, kL17, kA17, kS17, kL18, kA18, kS18, kC19, kG19, kP19, kR19_0, kL20, kL141, kL146, kA146, kS146, kL151, kA151, kS151, kL156, kA156, kS156, kC157, kG157, kP157, kR157_0, kR157_1, kL158, kA158, kS158, kL159, kA159, kS159, kC161, kG161, kP161, kR161_0, kR161_1, kL162, kA162, kS162, kL163, kA163, kS163, kC165, kG165, kP165, kR165_0, kR165_1, kR165_2, kR165_3, kL166, kA166, kS166, kL167, kA167, kS167, kL168, kA168, kS168, kL169, kA169, kS169, kC170, kG170, kP170, kR170_0, kR170_1, kR170_2, kL171, kA171, kS171, kL172, kA172, kS172, kL173, kA173, kS173, kC174, kG174, kP174, kR174_0, kR174_1, kR174_2, kR174_3, kR174_4, kL175, kA175, kS175, kL176, kA176, kS176, kL177, kA177, kS177, kL178, kA178, kS178, kL179, kC180, kG180, kP180, kL181, kL182, kA182, kS182, kC183, kG183, kP183, kR183_1, kR183_3, kR183_5, kR183_6, kR183_7, kR183_8, kR183_9, kR183_21, kR183_26, kR183_27, kR183_30, kR183_31, kR183_33, kR183_34, kR183_36, kR183_37, kR183_38, kR183_39, kR183_40, kR183_41, kR183_42, kR183_43, kR183_44, kL184, kA184, kS184, kL185, kA185, kS185, kL186, kA186, kS186, kL187, kA187, kS187, kL188, kA188, kS188, kL189, kL190, kL191, kA191, kS191, kL192, kA192, kS192, kL193, kA193, kS193, kL194, kA194, kS194, kL195, kA195, kS195, kL196, kA196, kS196, kL197, kA197, kS197, kL198, kA198, kS198, kL199, kA199, kS199, kL200, kA200, kS200, kL201, kL202, kA202, kS202, kL203, kA203, kS203, kL204, kA204, kS204, kL205, kL206, kA206, kS206, sites_ok hS hG, nn_le, show ¬ (gSz g ≤ i) by omega, c2 h64, bitsOf_ok c3]
    rw [← nI_succ, mxC]
    by_cases z : pC (clR g b i) ≤ mxC g b i
    · rw [if_pos z, show max (mxC g b i) (pC (clR g b i)) = mxC g b i by omega]
    · rw [if_neg z, show max (mxC g b i) (pC (clR g b i)) = pC (clR g b i) by omega]
  · simp only [f_X12_greatest_b4]
    simp (disch := first | assumption | omega) only [Option.bind_some, Option.map_some, xw_gR, xw_gN, xw_al, xw_ck, xw_uI, xw_ur, xup_at, xur_at, if_true, if_false, reduceIte, and_true, true_and, and_false, false_and, not_true_eq_false, not_false_eq_true, Nat.reduceEqDiff, eq_self, Nat.reduceAdd, Nat.reduceMul, kC1, kG1, kP1, kR1_0, kR1_1, kR1_2, kR1_3, kR1_4, kR1_5, kR1_6, kR1_7, kR1_8, kR1_9, kR1_10, kR1_11, kR1_12, kR1_13, kC2, kG2, kP2, kR2_0, kR2_1, kC3, kG3, kP3, kR3_0, kR3_1, kR3_2, kR3_3, kL4, kA4, kS4, kL5, kA5, kS5, kL6, kA6, kS6, kL7, kA7, kS7, kC8, kG8, kP8, kR8_0, kR8_1, kL9, kA9, kS9, kL10, kA10, kS10, kC11, kG11, kP11, kR11_0, kR11_1, kR11_2, kR11_3, kL12, kA12, kS12, kL13, kA13, kS13, kL14, kA14, kS14, kL15, kA15, kS15, kC16, kG16, kP16, kR16_0, kR16_1, kL17, kA17, kS17, kL18, kA18, kS18, kC19, kG19, kP19, kR19_0, kL20, kL141, kL146, kA146, kS146, kL151, kA151, kS151, kL156, kA156, kS156, kC157, kG157, kP157, kR157_0, kR157_1, kL158, kA158, kS158, kL159, kA159, kS159, kC161, kG161, kP161, kR161_0, kR161_1, kL162, kA162, kS162, kL163, kA163, kS163, kC165, kG165, kP165, kR165_0, kR165_1, kR165_2, kR165_3, kL166, kA166, kS166, kL167, kA167, kS167, kL168, kA168, kS168, kL169, kA169, kS169, kC170, kG170, kP170, kR170_0, kR170_1, kR170_2, kL171, kA171, kS171, kL172, kA172, kS172, kL173, kA173, kS173, kC174, kG174, kP174, kR174_0, kR174_1, kR174_2, kR174_3, kR174_4, kL175, kA175, kS175, kL176, kA176, kS176, kL177, kA177, kS177, kL178, kA178, kS178, kL179, kC180, kG180, kP180, kL181, kL182, kA182, kS182, kC183, kG183, kP183, kR183_1, kR183_3, kR183_5, kR183_6, kR183_7, kR183_8, kR183_9, kR183_21, kR183_26, kR183_27, kR183_30, kR183_31, kR183_33, kR183_34, kR183_36, kR183_37, kR183_38, kR183_39, kR183_40, kR183_41, kR183_42, kR183_43, kR183_44, kL184, kA184, kS184, kL185, kA185, kS185, kL186, kA186, kS186, kL187, kA187, kS187, kL188, kA188, kS188, kL189, kL190, kL191, kA191, kS191, kL192, kA192, kS192, kL193, kA193, kS193, kL194, kA194, kS194, kL195, kA195, kS195, kL196, kA196, kS196, kL197, kA197, kS197, kL198, kA198, kS198, kL199, kA199, kS199, kL200, kA200, kS200, kL201, kL202, kA202, kS202, kL203, kA203, kS203, kL204, kA204, kS204, kL205, kL206, kA206, kS206, sites_ok hS hG, nn_le, Nat.le_refl]
end CLCOUNT
end
section
/-! count -/
section FEW
variable {σ : XS} {I : Nat → Nat → Int32} {g : GD} {F : Nat → Int32}
def brC (g : GD) (F : Nat → Int32) (m : Nat) : Nat := fb_ct (fun s => lW g F s && decide (bk g F s = m)) (gSt g)
theorem brC_pos {m : Nat} : 0 < brC g F m ↔ ∃ s, s < gSt g ∧ lW g F s = true ∧ bk g F s = m := by
  unfold brC
  rw [fb_ct_pos]
  constructor
  · rintro ⟨s, h1, h2⟩
    simp only [Bool.and_eq_true, decide_eq_true_eq] at h2
    exact ⟨s, h1, h2⟩
  · rintro ⟨s, h1, h2, h3⟩
    exact ⟨s, h1, by simp [h2, h3]⟩
/-- the fewest broken ties of a lawful state, none if there is no such state -/
def fwR (g : GD) (F : Nat → Int32) (r : Nat) : Prop := (∃ s, s < gSt g ∧ lW g F s = true ∧ bk g F s = r ∧ ∀ t, t < gSt g → lW g F t = true → r ≤ bk g F t) ∨ (r = 0 ∧ ∀ t, t < gSt g → lW g F t = false)
theorem fewest11 (hS : Shp σ) (hg : g ∈ gAll) (hB : BRK I g F) {r : Nat} (hr : fwR g F r) : f_X0_fewest (xw σ I) 170 = some (nI r) := by
  have hSt := (gSt_b hg).1
  have hb : ∀ m, brC g F m ≤ 65536 := fun m => Nat.le_trans (fb_ct_le _ _) hSt
  have hv : ∀ m, m < 33 → I 171 m = nI (brC g F m) := fun m hm => hB m hm
  unfold f_X0_fewest
  rcases hr with ⟨s, h1, h2, h3, h4⟩ | ⟨h1, h2⟩
  · have hrb : r ≤ 32 := by rw [← h3]; exact bk_b g F s
    refine xforE (fun m : Nat => nI m) r rfl (fun m hm => ?_) ?_
    · simp only [f_X0_fewest_b2]
      have hz : brC g F m = 0 := by
        rcases Nat.eq_zero_or_pos (brC g F m) with z | z
        · exact z
        · obtain ⟨t, t1, t2, t3⟩ := brC_pos.mp z
          have := h4 t t1 t2
          omega
      simp (disch := first | assumption | omega) only [Option.bind_some, Option.map_some, xw_gR, xw_gN, xw_al, xw_ck, xw_uI, xw_ur, xup_at, xur_at, if_true, if_false, reduceIte, and_true, true_and, and_false, false_and, not_true_eq_false, not_false_eq_true, Nat.reduceEqDiff, eq_self, Nat.reduceAdd, Nat.reduceMul, kC1, kG1, kP1, kR1_0, kR1_1, kR1_2, kR1_3, kR1_4, kR1_5, kR1_6, kR1_7, kR1_8, kR1_9, kR1_10, kR1_11, kR1_12, kR1_13, kC2, kG2, kP2, kR2_0, kR2_1, kC3, kG3, kP3, kR3_0, kR3_1, kR3_2, kR3_3, kL4, kA4, kS4, kL5, kA5, kS5, kL6, kA6, kS6, kL7, kA7, kS7, kC8, kG8, kP8, kR8_0, kR8_1, kL9, kA9, kS9, kL10, kA10, kS10, kC11, kG11, kP11, kR11_0, kR11_1, kR11_2, kR11_3, kL12, kA12, kS12, kL13, kA13, kS13, kL14, kA14, kS14, kL15, kA15, kS15, kC16, kG16, kP16, kR16_0, kR16_1, kL17, kA17, kS17, kL18, kA18, kS18, kC19, kG19, kP19, kR19_0, kL20, kL141, kL146, kA146, kS146, kL151, kA151, kS151, kL156, kA156, kS156, kC157, kG157, kP157, kR157_0, kR157_1, kL158, kA158, kS158, kL159, kA159, kS159, kC161, kG161, kP161, kR161_0, kR161_1, kL162, kA162, kS162, kL163, kA163, kS163, kC165, kG165, kP165, kR165_0, kR165_1, kR165_2, kR165_3, kL166, kA166, kS166, kL167, kA167, kS167, kL168, kA168, kS168, kL169, kA169, kS169, kC170, kG170, kP170, kR170_0, kR170_1, kR170_2, kL171, kA171, kS171, kL172, kA172, kS172, kL173, kA173, kS173, kC174, kG174, kP174, kR174_0, kR174_1, kR174_2, kR174_3, kR174_4, kL175, kA175, kS175, kL176, kA176, kS176, kL177, kA177, kS177, kL178, kA178, kS178, kL179, kC180, kG180, kP180, kL181, kL182, kA182, kS182, kC183, kG183, kP183, kR183_1, kR183_3, kR183_5, kR183_6, kR183_7, kR183_8, kR183_9, kR183_21, kR183_26, kR183_27, kR183_30, kR183_31, kR183_33, kR183_34, kR183_36, kR183_37, kR183_38, kR183_39, kR183_40, kR183_41, kR183_42, kR183_43, kR183_44, kL184, kA184, kS184, kL185, kA185, kS185, kL186, kA186, kS186, kL187, kA187, kS187, kL188, kA188, kS188, kL189, kL190, kL191, kA191, kS191, kL192, kA192, kS192, kL193, kA193, kS193, kL194, kA194, kS194, kL195, kA195, kS195, kL196, kA196, kS196, kL197, kA197, kS197, kL198, kA198, kS198, kL199, kA199, kS199, kL200, kA200, kS200, kL201, kL202, kA202, kS202, kL203, kA203, kS203, kL204, kA204, kS204, kL205, kL206, kA206, kS206, nn_le, show ¬ (33 ≤ m) by omega, hv m (show m < 33 by omega), hz, show (nI 0 ≤ 0) = True from eq_true (by decide)]
      rw [nI_succ]
    · simp only [f_X0_fewest_b2]
      have hz : 0 < brC g F r := brC_pos.mpr ⟨s, h1, h2, h3⟩
      have := hb r
      simp (disch := first | assumption | omega) only [Option.bind_some, Option.map_some, xw_gR, xw_gN, xw_al, xw_ck, xw_uI, xw_ur, xup_at, xur_at, if_true, if_false, reduceIte, and_true, true_and, and_false, false_and, not_true_eq_false, not_false_eq_true, Nat.reduceEqDiff, eq_self, Nat.reduceAdd, Nat.reduceMul, kC1, kG1, kP1, kR1_0, kR1_1, kR1_2, kR1_3, kR1_4, kR1_5, kR1_6, kR1_7, kR1_8, kR1_9, kR1_10, kR1_11, kR1_12, kR1_13, kC2, kG2, kP2, kR2_0, kR2_1, kC3, kG3, kP3, kR3_0, kR3_1, kR3_2, kR3_3, kL4, kA4, kS4, kL5, kA5, kS5, kL6, kA6, kS6, kL7, kA7, kS7, kC8, kG8, kP8, kR8_0, kR8_1, kL9, kA9, kS9, kL10, kA10, kS10, kC11, kG11, kP11, kR11_0, kR11_1, kR11_2, kR11_3, kL12, kA12, kS12, kL13, kA13, kS13, kL14, kA14, kS14, kL15, kA15, kS15, kC16, kG16, kP16, kR16_0, kR16_1, kL17, kA17, kS17, kL18, kA18, kS18, kC19, kG19, kP19, kR19_0, kL20, kL141, kL146, kA146, kS146, kL151, kA151, kS151, kL156, kA156, kS156, kC157, kG157, kP157, kR157_0, kR157_1, kL158, kA158, kS158, kL159, kA159, kS159, kC161, kG161, kP161, kR161_0, kR161_1, kL162, kA162, kS162, kL163, kA163, kS163, kC165, kG165, kP165, kR165_0, kR165_1, kR165_2, kR165_3, kL166, kA166, kS166, kL167, kA167, kS167, kL168, kA168, kS168, kL169, kA169, kS169, kC170, kG170, kP170, kR170_0, kR170_1, kR170_2, kL171, kA171, kS171, kL172, kA172, kS172, kL173, kA173, kS173, kC174, kG174, kP174, kR174_0, kR174_1, kR174_2, kR174_3, kR174_4, kL175, kA175, kS175, kL176, kA176, kS176, kL177, kA177, kS177, kL178, kA178, kS178, kL179, kC180, kG180, kP180, kL181, kL182, kA182, kS182, kC183, kG183, kP183, kR183_1, kR183_3, kR183_5, kR183_6, kR183_7, kR183_8, kR183_9, kR183_21, kR183_26, kR183_27, kR183_30, kR183_31, kR183_33, kR183_34, kR183_36, kR183_37, kR183_38, kR183_39, kR183_40, kR183_41, kR183_42, kR183_43, kR183_44, kL184, kA184, kS184, kL185, kA185, kS185, kL186, kA186, kS186, kL187, kA187, kS187, kL188, kA188, kS188, kL189, kL190, kL191, kA191, kS191, kL192, kA192, kS192, kL193, kA193, kS193, kL194, kA194, kS194, kL195, kA195, kS195, kL196, kA196, kS196, kL197, kA197, kS197, kL198, kA198, kS198, kL199, kA199, kS199, kL200, kA200, kS200, kL201, kL202, kA202, kS202, kL203, kA203, kS203, kL204, kA204, kS204, kL205, kL206, kA206, kS206, nn_le, show ¬ (33 ≤ r) by omega, hv r (show r < 33 by omega)]
      rw [if_neg (nI_nle hz (by omega))]
  · subst h1
    refine xforE (fun m : Nat => nI m) 33 rfl (fun m hm => ?_) ?_
    · simp only [f_X0_fewest_b2]
      have hz : brC g F m = 0 := by
        rcases Nat.eq_zero_or_pos (brC g F m) with z | z
        · exact z
        · obtain ⟨t, t1, t2, t3⟩ := brC_pos.mp z
          rw [h2 t t1] at t2; cases t2
      simp (disch := first | assumption | omega) only [Option.bind_some, Option.map_some, xw_gR, xw_gN, xw_al, xw_ck, xw_uI, xw_ur, xup_at, xur_at, if_true, if_false, reduceIte, and_true, true_and, and_false, false_and, not_true_eq_false, not_false_eq_true, Nat.reduceEqDiff, eq_self, Nat.reduceAdd, Nat.reduceMul, kC1, kG1, kP1, kR1_0, kR1_1, kR1_2, kR1_3, kR1_4, kR1_5, kR1_6, kR1_7, kR1_8, kR1_9, kR1_10, kR1_11, kR1_12, kR1_13, kC2, kG2, kP2, kR2_0, kR2_1, kC3, kG3, kP3, kR3_0, kR3_1, kR3_2, kR3_3, kL4, kA4, kS4, kL5, kA5, kS5, kL6, kA6, kS6, kL7, kA7, kS7, kC8, kG8, kP8, kR8_0, kR8_1, kL9, kA9, kS9, kL10, kA10, kS10, kC11, kG11, kP11, kR11_0, kR11_1, kR11_2, kR11_3, kL12, kA12, kS12, kL13, kA13, kS13, kL14, kA14, kS14, kL15, kA15, kS15, kC16, kG16, kP16, kR16_0, kR16_1, kL17, kA17, kS17, kL18, kA18, kS18, kC19, kG19, kP19, kR19_0, kL20, kL141, kL146, kA146, kS146, kL151, kA151, kS151, kL156, kA156, kS156, kC157, kG157, kP157, kR157_0, kR157_1, kL158, kA158, kS158, kL159, kA159, kS159, kC161, kG161, kP161, kR161_0, kR161_1, kL162, kA162, kS162, kL163, kA163, kS163, kC165, kG165, kP165, kR165_0, kR165_1, kR165_2, kR165_3, kL166, kA166, kS166, kL167, kA167, kS167, kL168, kA168, kS168, kL169, kA169, kS169, kC170, kG170, kP170, kR170_0, kR170_1, kR170_2, kL171, kA171, kS171, kL172, kA172, kS172, kL173, kA173, kS173, kC174, kG174, kP174, kR174_0, kR174_1, kR174_2, kR174_3, kR174_4, kL175, kA175, kS175, kL176, kA176, kS176, kL177, kA177, kS177, kL178, kA178, kS178, kL179, kC180, kG180, kP180, kL181, kL182, kA182, kS182, kC183, kG183, kP183, kR183_1, kR183_3, kR183_5, kR183_6, kR183_7, kR183_8, kR183_9, kR183_21, kR183_26, kR183_27, kR183_30, kR183_31, kR183_33, kR183_34, kR183_36, kR183_37, kR183_38, kR183_39, kR183_40, kR183_41, kR183_42, kR183_43, kR183_44, kL184, kA184, kS184, kL185, kA185, kS185, kL186, kA186, kS186, kL187, kA187, kS187, kL188, kA188, kS188, kL189, kL190, kL191, kA191, kS191, kL192, kA192, kS192, kL193, kA193, kS193, kL194, kA194, kS194, kL195, kA195, kS195, kL196, kA196, kS196, kL197, kA197, kS197, kL198, kA198, kS198, kL199, kA199, kS199, kL200, kA200, kS200, kL201, kL202, kA202, kS202, kL203, kA203, kS203, kL204, kA204, kS204, kL205, kL206, kA206, kS206, nn_le, show ¬ (33 ≤ m) by omega, hv m hm, hz, show (nI 0 ≤ 0) = True from eq_true (by decide)]
      rw [nI_succ]
    · simp only [f_X0_fewest_b2]
      simp (disch := first | assumption | omega) only [Option.bind_some, Option.map_some, xw_gR, xw_gN, xw_al, xw_ck, xw_uI, xw_ur, xup_at, xur_at, if_true, if_false, reduceIte, and_true, true_and, and_false, false_and, not_true_eq_false, not_false_eq_true, Nat.reduceEqDiff, eq_self, Nat.reduceAdd, Nat.reduceMul, kC1, kG1, kP1, kR1_0, kR1_1, kR1_2, kR1_3, kR1_4, kR1_5, kR1_6, kR1_7, kR1_8, kR1_9, kR1_10, kR1_11, kR1_12, kR1_13, kC2, kG2, kP2, kR2_0, kR2_1, kC3, kG3, kP3, kR3_0, kR3_1, kR3_2, kR3_3, kL4, kA4, kS4, kL5, kA5, kS5, kL6, kA6, kS6, kL7, kA7, kS7, kC8, kG8, kP8, kR8_0, kR8_1, kL9, kA9, kS9, kL10, kA10, kS10, kC11, kG11, kP11, kR11_0, kR11_1, kR11_2, kR11_3, kL12, kA12, kS12, kL13, kA13, kS13, kL14, kA14, kS14, kL15, kA15, kS15, kC16, kG16, kP16, kR16_0, kR16_1, kL17, kA17, kS17, kL18, kA18, kS18, kC19, kG19, kP19, kR19_0, kL20, kL141, kL146, kA146, kS146, kL151, kA151, kS151, kL156, kA156, kS156, kC157, kG157, kP157, kR157_0, kR157_1, kL158, kA158, kS158, kL159, kA159, kS159, kC161, kG161, kP161, kR161_0, kR161_1, kL162, kA162, kS162, kL163, kA163, kS163, kC165, kG165, kP165, kR165_0, kR165_1, kR165_2, kR165_3, kL166, kA166, kS166, kL167, kA167, kS167, kL168, kA168, kS168, kL169, kA169, kS169, kC170, kG170, kP170, kR170_0, kR170_1, kR170_2, kL171, kA171, kS171, kL172, kA172, kS172, kL173, kA173, kS173, kC174, kG174, kP174, kR174_0, kR174_1, kR174_2, kR174_3, kR174_4, kL175, kA175, kS175, kL176, kA176, kS176, kL177, kA177, kS177, kL178, kA178, kS178, kL179, kC180, kG180, kP180, kL181, kL182, kA182, kS182, kC183, kG183, kP183, kR183_1, kR183_3, kR183_5, kR183_6, kR183_7, kR183_8, kR183_9, kR183_21, kR183_26, kR183_27, kR183_30, kR183_31, kR183_33, kR183_34, kR183_36, kR183_37, kR183_38, kR183_39, kR183_40, kR183_41, kR183_42, kR183_43, kR183_44, kL184, kA184, kS184, kL185, kA185, kS185, kL186, kA186, kS186, kL187, kA187, kS187, kL188, kA188, kS188, kL189, kL190, kL191, kA191, kS191, kL192, kA192, kS192, kL193, kA193, kS193, kL194, kA194, kS194, kL195, kA195, kS195, kL196, kA196, kS196, kL197, kA197, kS197, kL198, kA198, kS198, kL199, kA199, kS199, kL200, kA200, kS200, kL201, kL202, kA202, kS202, kL203, kA203, kS203, kL204, kA204, kS204, kL205, kL206, kA206, kS206, nn_le, Nat.le_refl]
      rfl
theorem fewest12 (hS : Shp σ) (hG : GRD I g) (hr : I 191 = F) (ho : RO g F) : ∃ r, fwR g F r ∧ f_X12_fewestBroken (xw σ I) 183 = some (nI r) := by
  have hg := hG.1
  have hSt := (gSt_b hg).1
  have key : ∃ y, xloop (f_X12_fewestBroken_b4 (xw σ I) 183) ((-1 : Int32), nI 0) = some y ∧ ∃ r, y = nI r ∧ fwR g F r := by
    refine xforI (fun s y => ((y = ((-1 : Int32), nI s)) ∧ ∀ t, t < s → lW g F t = false) ∨ ∃ r t0, y = (nI r, nI s) ∧ t0 < s ∧ lW g F t0 = true ∧ bk g F t0 = r ∧ ∀ t, t < s → lW g F t = true → r ≤ bk g F t) (gSt g) (.inl ⟨rfl, fun t ht => by omega⟩) ?_ ?_
    · rintro s y hs hy
      have hl := isLawful12_ok (σ := σ) (I := I) hS hG (by rw [hr]; exact ho) (nI s)
      rw [hr, isB_n hg hs] at hl
      have hb := bk_b g F s
      have hbr := broken12_ok (σ := σ) (J := I) hS hG hr (s := s) (by omega)
      rcases hy with ⟨rfl, h1⟩ | ⟨r, t0, rfl, h1, h2, h3, h4⟩
      · simp only [f_X12_fewestBroken_b4]
        simp (disch := first | assumption | omega) only [Option.bind_some, Option.map_some, xw_gR, xw_gN, xw_al, xw_ck, xw_uI, xw_ur, xup_at, xur_at, if_true, if_false, reduceIte, and_true, true_and, and_false, false_and, not_true_eq_false, not_false_eq_true, Nat.reduceEqDiff, eq_self, Nat.reduceAdd, Nat.reduceMul, kC1, kG1, kP1, kR1_0, kR1_1, kR1_2, kR1_3, kR1_4, kR1_5, kR1_6, kR1_7, kR1_8, kR1_9, kR1_10, kR1_11, kR1_12, kR1_13, kC2, kG2, kP2, kR2_0, kR2_1, kC3, kG3, kP3, kR3_0, kR3_1, kR3_2, kR3_3, kL4, kA4, kS4, kL5, kA5, kS5, kL6, kA6, kS6, kL7, kA7, kS7, kC8, kG8, kP8, kR8_0, kR8_1, kL9, kA9, kS9, kL10, kA10, kS10, kC11, kG11, kP11, kR11_0, kR11_1, kR11_2, kR11_3, kL12, kA12, kS12, kL13, kA13, kS13, kL14, kA14, kS14, kL15, kA15, kS15, kC16, kG16, kP16, kR16_0, kR16_1, kL17, kA17, kS17, kL18, kA18, kS18, kC19, kG19, kP19, kR19_0, kL20, kL141, kL146, kA146, kS146, kL151, kA151, kS151, kL156, kA156, kS156, kC157, kG157, kP157, kR157_0, kR157_1, kL158, kA158, kS158, kL159, kA159, kS159, kC161, kG161, kP161, kR161_0, kR161_1, kL162, kA162, kS162, kL163, kA163, kS163, kC165, kG165, kP165, kR165_0, kR165_1, kR165_2, kR165_3, kL166, kA166, kS166, kL167, kA167, kS167, kL168, kA168, kS168, kL169, kA169, kS169, kC170, kG170, kP170, kR170_0, kR170_1, kR170_2, kL171, kA171, kS171, kL172, kA172, kS172, kL173, kA173, kS173, kC174, kG174, kP174, kR174_0, kR174_1, kR174_2, kR174_3, kR174_4, kL175, kA175, kS175, kL176, kA176, kS176, kL177, kA177, kS177, kL178, kA178, kS178, kL179, kC180, kG180, kP180, kL181, kL182, kA182, kS182, kC183, kG183, kP183, kR183_1, kR183_3, kR183_5, kR183_6, kR183_7, kR183_8, kR183_9, kR183_21, kR183_26, kR183_27, kR183_30, kR183_31, kR183_33, kR183_34, kR183_36, kR183_37, kR183_38, kR183_39, kR183_40, kR183_41, kR183_42, kR183_43, kR183_44, kL184, kA184, kS184, kL185, kA185, kS185, kL186, kA186, kS186, kL187, kA187, kS187, kL188, kA188, kS188, kL189, kL190, kL191, kA191, kS191, kL192, kA192, kS192, kL193, kA193, kS193, kL194, kA194, kS194, kL195, kA195, kS195, kL196, kA196, kS196, kL197, kA197, kS197, kL198, kA198, kS198, kL199, kA199, kS199, kL200, kA200, kS200, kL201, kL202, kA202, kS202, kL203, kA203, kS203, kL204, kA204, kS204, kL205, kL206, kA206, kS206, states12_ok hS hG, nn_le, show ¬ (gSt g ≤ s) by omega, hl, hbr, show ((-1 : Int32) < 0) = True from eq_true (by decide)]
        rw [← nI_succ]
        cases hw : lW g F s with
        | false =>
          exact ⟨_, rfl, .inl ⟨rfl, fun t ht => by
            by_cases z : t = s
            · rw [z]; exact hw
            · exact h1 t (by omega)⟩⟩
        | true =>
          refine ⟨_, rfl, .inr ⟨bk g F s, s, rfl, by omega, hw, rfl, fun t ht htl => ?_⟩⟩
          by_cases z : t = s
          · rw [z]; exact Nat.le_refl _
          · rw [h1 t (by omega)] at htl; cases htl
      · have hrb : r ≤ 32 := by rw [← h3]; exact bk_b g F t0
        have hle : (nI r ≤ nI (bk g F s)) = (r ≤ bk g F s) := nn_le (by omega) (by omega)
        simp only [f_X12_fewestBroken_b4]
        simp (disch := first | assumption | omega) only [Option.bind_some, Option.map_some, xw_gR, xw_gN, xw_al, xw_ck, xw_uI, xw_ur, xup_at, xur_at, if_true, if_false, reduceIte, and_true, true_and, and_false, false_and, not_true_eq_false, not_false_eq_true, Nat.reduceEqDiff, eq_self, Nat.reduceAdd, Nat.reduceMul, kC1, kG1, kP1, kR1_0, kR1_1, kR1_2, kR1_3, kR1_4, kR1_5, kR1_6, kR1_7, kR1_8, kR1_9, kR1_10, kR1_11, kR1_12, kR1_13, kC2, kG2, kP2, kR2_0, kR2_1, kC3, kG3, kP3, kR3_0, kR3_1, kR3_2, kR3_3, kL4, kA4, kS4, kL5, kA5, kS5, kL6, kA6, kS6, kL7, kA7, kS7, kC8, kG8, kP8, kR8_0, kR8_1, kL9, kA9, kS9, kL10, kA10, kS10, kC11, kG11, kP11, kR11_0, kR11_1, kR11_2, kR11_3, kL12, kA12, kS12, kL13, kA13, kS13, kL14, kA14, kS14, kL15, kA15, kS15, kC16, kG16, kP16, kR16_0, kR16_1, kL17, kA17, kS17, kL18, kA18, kS18, kC19, kG19, kP19, kR19_0, kL20, kL141, kL146, kA146, kS146, kL151, kA151, kS151, kL156, kA156, kS156, kC157, kG157, kP157, kR157_0, kR157_1, kL158, kA158, kS158, kL159, kA159, kS159, kC161, kG161, kP161, kR161_0, kR161_1, kL162, kA162, kS162, kL163, kA163, kS163, kC165, kG165, kP165, kR165_0, kR165_1, kR165_2, kR165_3, kL166, kA166, kS166, kL167, kA167, kS167, kL168, kA168, kS168, kL169, kA169, kS169, kC170, kG170, kP170, kR170_0, kR170_1, kR170_2, kL171, kA171, kS171, kL172, kA172, kS172, kL173, kA173, kS173, kC174, kG174, kP174, kR174_0, kR174_1, kR174_2, kR174_3, kR174_4, kL175, kA175, kS175, kL176, kA176, kS176, kL177, kA177, kS177, kL178, kA178, kS178, kL179, kC180, kG180, kP180, kL181, kL182, kA182, kS182, kC183, kG183, kP183, kR183_1, kR183_3, kR183_5, kR183_6, kR183_7, kR183_8, kR183_9, kR183_21, kR183_26, kR183_27, kR183_30, kR183_31, kR183_33, kR183_34, kR183_36, kR183_37, kR183_38, kR183_39, kR183_40, kR183_41, kR183_42, kR183_43, kR183_44, kL184, kA184, kS184, kL185, kA185, kS185, kL186, kA186, kS186, kL187, kA187, kS187, kL188, kA188, kS188, kL189, kL190, kL191, kA191, kS191, kL192, kA192, kS192, kL193, kA193, kS193, kL194, kA194, kS194, kL195, kA195, kS195, kL196, kA196, kS196, kL197, kA197, kS197, kL198, kA198, kS198, kL199, kA199, kS199, kL200, kA200, kS200, kL201, kL202, kA202, kS202, kL203, kA203, kS203, kL204, kA204, kS204, kL205, kL206, kA206, kS206, states12_ok hS hG, nn_le, show ¬ (gSt g ≤ s) by omega, hl, hbr, nn_nneg]
        rw [← nI_succ]
        cases hw : lW g F s with
        | false =>
          refine ⟨_, rfl, .inr ⟨r, t0, rfl, by omega, h2, h3, fun t ht htl => ?_⟩⟩
          by_cases z : t = s
          · rw [z, hw] at htl; cases htl
          · exact h4 t (by omega) htl
        | true =>
          rw [if_pos rfl, if_neg (by decide)]
          by_cases hc : r ≤ bk g F s
          · rw [if_pos hc]
            refine ⟨_, rfl, .inr ⟨r, t0, rfl, by omega, h2, h3, fun t ht htl => ?_⟩⟩
            by_cases z : t = s
            · rw [z]; exact hc
            · exact h4 t (by omega) htl
          · rw [if_neg hc]
            refine ⟨_, rfl, .inr ⟨bk g F s, s, rfl, by omega, hw, rfl, fun t ht htl => ?_⟩⟩
            by_cases z : t = s
            · rw [z]; exact Nat.le_refl _
            · have := h4 t (by omega) htl; omega
    · rintro y hy
      rcases hy with ⟨rfl, h1⟩ | ⟨r, t0, rfl, h1, h2, h3, h4⟩
      · refine ⟨nI 0, ?_, 0, rfl, .inr ⟨rfl, h1⟩⟩
        simp only [f_X12_fewestBroken_b4]
        simp (disch := first | assumption | omega) only [Option.bind_some, Option.map_some, xw_gR, xw_gN, xw_al, xw_ck, xw_uI, xw_ur, xup_at, xur_at, if_true, if_false, reduceIte, and_true, true_and, and_false, false_and, not_true_eq_false, not_false_eq_true, Nat.reduceEqDiff, eq_self, Nat.reduceAdd, Nat.reduceMul, kC1, kG1, kP1, kR1_0, kR1_1, kR1_2, kR1_3, kR1_4, kR1_5, kR1_6, kR1_7, kR1_8, kR1_9, kR1_10, kR1_11, kR1_12, kR1_13, kC2, kG2, kP2, kR2_0, kR2_1, kC3, kG3, kP3, kR3_0, kR3_1, kR3_2, kR3_3, kL4, kA4, kS4, kL5, kA5, kS5, kL6, kA6, kS6, kL7, kA7, kS7, kC8, kG8, kP8, kR8_0, kR8_1, kL9, kA9, kS9, kL10, kA10, kS10, kC11, kG11, kP11, kR11_0, kR11_1, kR11_2, kR11_3, kL12, kA12, kS12, kL13, kA13, kS13, kL14, kA14, kS14, kL15, kA15, kS15, kC16, kG16, kP16, kR16_0, kR16_1, kL17, kA17, kS17, kL18, kA18, kS18, kC19, kG19, kP19, kR19_0, kL20, kL141, kL146, kA146, kS146, kL151, kA151, kS151, kL156, kA156, kS156, kC157, kG157, kP157, kR157_0, kR157_1, kL158, kA158, kS158, kL159, kA159, kS159, kC161, kG161, kP161, kR161_0, kR161_1, kL162, kA162, kS162, kL163, kA163, kS163, kC165, kG165, kP165, kR165_0, kR165_1, kR165_2, kR165_3, kL166, kA166, kS166, kL167, kA167, kS167, kL168, kA168, kS168, kL169, kA169, kS169, kC170, kG170, kP170, kR170_0, kR170_1, kR170_2, kL171, kA171, kS171, kL172, kA172, kS172, kL173, kA173, kS173, kC174, kG174, kP174, kR174_0, kR174_1, kR174_2, kR174_3, kR174_4, kL175, kA175, kS175, kL176, kA176, kS176, kL177, kA177, kS177, kL178, kA178, kS178, kL179, kC180, kG180, kP180, kL181, kL182, kA182, kS182, kC183, kG183, kP183, kR183_1, kR183_3, kR183_5, kR183_6, kR183_7, kR183_8, kR183_9, kR183_21, kR183_26, kR183_27, kR183_30, kR183_31, kR183_33, kR183_34, kR183_36, kR183_37, kR183_38, kR183_39, kR183_40, kR183_41, kR183_42, kR183_43, kR183_44, kL184, kA184, kS184, kL185, kA185, kS185, kL186, kA186, kS186, kL187, kA187, kS187, kL188, kA188, kS188, kL189, kL190, kL191, kA191, kS191, kL192, kA192, kS192, kL193, kA193, kS193, kL194, kA194, kS194, kL195, kA195, kS195, kL196, kA196, kS196, kL197, kA197, kS197, kL198, kA198, kS198, kL199, kA199, kS199, kL200, kA200, kS200, kL201, kL202, kA202, kS202, kL203, kA203, kS203, kL204, kA204, kS204, kL205, kL206, kA206, kS206, states12_ok hS hG, nn_le, Nat.le_refl]
        rfl
      · have hrb : r ≤ 32 := by rw [← h3]; exact bk_b g F t0
        refine ⟨nI r, ?_, r, rfl, .inl ⟨t0, h1, h2, h3, h4⟩⟩
        simp only [f_X12_fewestBroken_b4]
        simp (disch := first | assumption | omega) only [Option.bind_some, Option.map_some, xw_gR, xw_gN, xw_al, xw_ck, xw_uI, xw_ur, xup_at, xur_at, if_true, if_false, reduceIte, and_true, true_and, and_false, false_and, not_true_eq_false, not_false_eq_true, Nat.reduceEqDiff, eq_self, Nat.reduceAdd, Nat.reduceMul, kC1, kG1, kP1, kR1_0, kR1_1, kR1_2, kR1_3, kR1_4, kR1_5, kR1_6, kR1_7, kR1_8, kR1_9, kR1_10, kR1_11, kR1_12, kR1_13, kC2, kG2, kP2, kR2_0, kR2_1, kC3, kG3, kP3, kR3_0, kR3_1, kR3_2, kR3_3, kL4, kA4, kS4, kL5, kA5, kS5, kL6, kA6, kS6, kL7, kA7, kS7, kC8, kG8, kP8, kR8_0, kR8_1, kL9, kA9, kS9, kL10, kA10, kS10, kC11, kG11, kP11, kR11_0, kR11_1, kR11_2, kR11_3, kL12, kA12, kS12, kL13, kA13, kS13, kL14, kA14, kS14, kL15, kA15, kS15, kC16, kG16, kP16, kR16_0, kR16_1, kL17, kA17, kS17, kL18, kA18, kS18, kC19, kG19, kP19, kR19_0, kL20, kL141, kL146, kA146, kS146, kL151, kA151, kS151, kL156, kA156, kS156, kC157, kG157, kP157, kR157_0, kR157_1, kL158, kA158, kS158, kL159, kA159, kS159, kC161, kG161, kP161, kR161_0, kR161_1, kL162, kA162, kS162, kL163, kA163, kS163, kC165, kG165, kP165, kR165_0, kR165_1, kR165_2, kR165_3, kL166, kA166, kS166, kL167, kA167, kS167, kL168, kA168, kS168, kL169, kA169, kS169, kC170, kG170, kP170, kR170_0, kR170_1, kR170_2, kL171, kA171, kS171, kL172, kA172, kS172, kL173, kA173, kS173, kC174, kG174, kP174, kR174_0, kR174_1, kR174_2, kR174_3, kR174_4, kL175, kA175, kS175, kL176, kA176, kS176, kL177, kA177, kS177, kL178, kA178, kS178, kL179, kC180, kG180, kP180, kL181, kL182, kA182, kS182, kC183, kG183, kP183, kR183_1, kR183_3, kR183_5, kR183_6, kR183_7, kR183_8, kR183_9, kR183_21, kR183_26, kR183_27, kR183_30, kR183_31, kR183_33, kR183_34, kR183_36, kR183_37, kR183_38, kR183_39, kR183_40, kR183_41, kR183_42, kR183_43, kR183_44, kL184, kA184, kS184, kL185, kA185, kS185, kL186, kA186, kS186, kL187, kA187, kS187, kL188, kA188, kS188, kL189, kL190, kL191, kA191, kS191, kL192, kA192, kS192, kL193, kA193, kS193, kL194, kA194, kS194, kL195, kA195, kS195, kL196, kA196, kS196, kL197, kA197, kS197, kL198, kA198, kS198, kL199, kA199, kS199, kL200, kA200, kS200, kL201, kL202, kA202, kS202, kL203, kA203, kS203, kL204, kA204, kS204, kL205, kL206, kA206, kS206, states12_ok hS hG, nn_le, Nat.le_refl]
        rw [if_pos (by rw [show (0 : Int32) = nI 0 from rfl, nn_le (by omega) (by omega)]; omega)]
        rfl
  obtain ⟨y, h1, r, rfl, h2⟩ := key
  exact ⟨r, h2, h1⟩
end FEW
theorem op_count : Op_count INV := by
  intro n σ hn ⟨g, gT, gP, st, H⟩ v
  have hS := H.shp
  have hG := H.grd
  have hg := hG.1
  have h16 := (gAll_b g hg).2.2.1
  have hr4 := (gAll_b g hg).2.2.2.1
  obtain ⟨F, hF⟩ : ∃ F, F = xI σ 191 := ⟨_, rfl⟩
  have hSR := H.now.1
  have ho := H.now.2.1
  rw [← hF] at hSR ho
  obtain ⟨b, o3, o4, o5⟩ := ho.2.2.1
  have hb : b < 65536 := Nat.lt_of_lt_of_le o3 (Nat.pow_le_pow_right (n := 2) (by decide) h16)
  have hb4 : xI σ 16 4 = nI b := hSR.2.2.2.1.trans o4
  obtain ⟨-, -, ⟨p, u, e3, e4, e5, e6⟩, e7, e8⟩ := id hSR
  obtain ⟨m, hm, t1, t2, t3⟩ := H.tap
  obtain ⟨q, nx, ea, hq, hnx, hea, p1, p2, p3, p4, p8⟩ := H.pst
  obtain ⟨f0, d0, f01, -, f02, f03, -⟩ := H.slt 0 (by decide)
  obtain ⟨f1, d1, f11, -, f12, f13, -⟩ := H.slt 1 (by decide)
  obtain ⟨f2, d2, f21, -, f22, f23, -⟩ := H.slt 2 (by decide)
  obtain ⟨τ, l1, H1, hB, fr⟩ := breaksNow_ok (by omega) H
  rw [← hF] at hB
  have h64 : xI σ 191 64 = nI b := by rw [← hF]; exact o4
  have fs1 : f_X11_countFullSlots (xw σ (xI σ)) 1 = some (nI (f0 + f1 + f2)) := by
    unfold f_X11_countFullSlots
    have sa : ∀ i, i < 3 → xaR (xw σ (xI σ)) 25 141 (nI i) = some (142 + 5 * i) := fun i hi => slA hS hi
    refine xforE (fun j : Nat => (nI (if j = 0 then 0 else if j = 1 then f0 else if j = 2 then f0 + f1 else f0 + f1 + f2), nI j)) 3 rfl (fun j hj => ?_) ?_
    · have hz : ∀ f : Nat, f < 2 → (nI f = 0) = (f = 0) := fun f hf => nn_eq (b := 0) (by omega) (by decide)
      rcases (show j = 0 ∨ j = 1 ∨ j = 2 by omega) with rfl | rfl | rfl
      · simp only [f_X11_countFullSlots_b4]
        simp (disch := first | assumption | omega) only [Option.bind_some, Option.map_some, xw_gR, xw_gN, xw_al, xw_ck, xw_uI, xw_ur, xup_at, xur_at, if_true, if_false, reduceIte, and_true, true_and, and_false, false_and, not_true_eq_false, not_false_eq_true, Nat.reduceEqDiff, eq_self, Nat.reduceAdd, Nat.reduceMul, kC1, kG1, kP1, kR1_0, kR1_1, kR1_2, kR1_3, kR1_4, kR1_5, kR1_6, kR1_7, kR1_8, kR1_9, kR1_10, kR1_11, kR1_12, kR1_13, kC2, kG2, kP2, kR2_0, kR2_1, kC3, kG3, kP3, kR3_0, kR3_1, kR3_2, kR3_3, kL4, kA4, kS4, kL5, kA5, kS5, kL6, kA6, kS6, kL7, kA7, kS7, kC8, kG8, kP8, kR8_0, kR8_1, kL9, kA9, kS9, kL10, kA10, kS10, kC11, kG11, kP11, kR11_0, kR11_1, kR11_2, kR11_3, kL12, kA12, kS12, kL13, kA13, kS13, kL14, kA14, kS14, kL15, kA15, kS15, kC16, kG16, kP16, kR16_0, kR16_1, kL17, kA17, kS17, kL18, kA18, kS18, kC19, kG19, kP19, kR19_0, kL20, kL141, kL146, kA146, kS146, kL151, kA151, kS151, kL156, kA156, kS156, kC157, kG157, kP157, kR157_0, kR157_1, kL158, kA158, kS158, kL159, kA159, kS159, kC161, kG161, kP161, kR161_0, kR161_1, kL162, kA162, kS162, kL163, kA163, kS163, kC165, kG165, kP165, kR165_0, kR165_1, kR165_2, kR165_3, kL166, kA166, kS166, kL167, kA167, kS167, kL168, kA168, kS168, kL169, kA169, kS169, kC170, kG170, kP170, kR170_0, kR170_1, kR170_2, kL171, kA171, kS171, kL172, kA172, kS172, kL173, kA173, kS173, kC174, kG174, kP174, kR174_0, kR174_1, kR174_2, kR174_3, kR174_4, kL175, kA175, kS175, kL176, kA176, kS176, kL177, kA177, kS177, kL178, kA178, kS178, kL179, kC180, kG180, kP180, kL181, kL182, kA182, kS182, kC183, kG183, kP183, kR183_1, kR183_3, kR183_5, kR183_6, kR183_7, kR183_8, kR183_9, kR183_21, kR183_26, kR183_27, kR183_30, kR183_31, kR183_33, kR183_34, kR183_36, kR183_37, kR183_38, kR183_39, kR183_40, kR183_41, kR183_42, kR183_43, kR183_44, kL184, kA184, kS184, kL185, kA185, kS185, kL186, kA186, kS186, kL187, kA187, kS187, kL188, kA188, kS188, kL189, kL190, kL191, kA191, kS191, kL192, kA192, kS192, kL193, kA193, kS193, kL194, kA194, kS194, kL195, kA195, kS195, kL196, kA196, kS196, kL197, kA197, kS197, kL198, kA198, kS198, kL199, kA199, kS199, kL200, kA200, kS200, kL201, kL202, kA202, kS202, kL203, kA203, kS203, kL204, kA204, kS204, kL205, kL206, kA206, kS206, nn_le, show ¬ (3 ≤ 0) by omega, sa 0 (by decide), slG hS (show 0 < 3 by decide)]
        have g0 : xI σ (142 + 5 * 0) 2 = nI f0 := f02
        have : xI σ 142 2 = nI f0 := g0
        rcases (show f0 = 0 ∨ f0 = 1 by omega) with z | z <;> subst z <;> first | (rw [slG (I := xI σ) hS (i := 0) (by decide), f02]; rfl) | (simp (disch := first | assumption | omega) only [Option.bind_some, Option.map_some, xw_gR, xw_gN, xw_al, xw_ck, xw_uI, xw_ur, xup_at, xur_at, if_true, if_false, reduceIte, and_true, true_and, and_false, false_and, not_true_eq_false, not_false_eq_true, Nat.reduceEqDiff, eq_self, Nat.reduceAdd, Nat.reduceMul, kC1, kG1, kP1, kR1_0, kR1_1, kR1_2, kR1_3, kR1_4, kR1_5, kR1_6, kR1_7, kR1_8, kR1_9, kR1_10, kR1_11, kR1_12, kR1_13, kC2, kG2, kP2, kR2_0, kR2_1, kC3, kG3, kP3, kR3_0, kR3_1, kR3_2, kR3_3, kL4, kA4, kS4, kL5, kA5, kS5, kL6, kA6, kS6, kL7, kA7, kS7, kC8, kG8, kP8, kR8_0, kR8_1, kL9, kA9, kS9, kL10, kA10, kS10, kC11, kG11, kP11, kR11_0, kR11_1, kR11_2, kR11_3, kL12, kA12, kS12, kL13, kA13, kS13, kL14, kA14, kS14, kL15, kA15, kS15, kC16, kG16, kP16, kR16_0, kR16_1, kL17, kA17, kS17, kL18, kA18, kS18, kC19, kG19, kP19, kR19_0, kL20, kL141, kL146, kA146, kS146, kL151, kA151, kS151, kL156, kA156, kS156, kC157, kG157, kP157, kR157_0, kR157_1, kL158, kA158, kS158, kL159, kA159, kS159, kC161, kG161, kP161, kR161_0, kR161_1, kL162, kA162, kS162, kL163, kA163, kS163, kC165, kG165, kP165, kR165_0, kR165_1, kR165_2, kR165_3, kL166, kA166, kS166, kL167, kA167, kS167, kL168, kA168, kS168, kL169, kA169, kS169, kC170, kG170, kP170, kR170_0, kR170_1, kR170_2, kL171, kA171, kS171, kL172, kA172, kS172, kL173, kA173, kS173, kC174, kG174, kP174, kR174_0, kR174_1, kR174_2, kR174_3, kR174_4, kL175, kA175, kS175, kL176, kA176, kS176, kL177, kA177, kS177, kL178, kA178, kS178, kL179, kC180, kG180, kP180, kL181, kL182, kA182, kS182, kC183, kG183, kP183, kR183_1, kR183_3, kR183_5, kR183_6, kR183_7, kR183_8, kR183_9, kR183_21, kR183_26, kR183_27, kR183_30, kR183_31, kR183_33, kR183_34, kR183_36, kR183_37, kR183_38, kR183_39, kR183_40, kR183_41, kR183_42, kR183_43, kR183_44, kL184, kA184, kS184, kL185, kA185, kS185, kL186, kA186, kS186, kL187, kA187, kS187, kL188, kA188, kS188, kL189, kL190, kL191, kA191, kS191, kL192, kA192, kS192, kL193, kA193, kS193, kL194, kA194, kS194, kL195, kA195, kS195, kL196, kA196, kS196, kL197, kA197, kS197, kL198, kA198, kS198, kL199, kA199, kS199, kL200, kA200, kS200, kL201, kL202, kA202, kS202, kL203, kA203, kS203, kL204, kA204, kS204, kL205, kL206, kA206, kS206, xw_gI (slT hS (i := 0) (by decide)), this]; rfl)
      · simp only [f_X11_countFullSlots_b4]
        simp (disch := first | assumption | omega) only [Option.bind_some, Option.map_some, xw_gR, xw_gN, xw_al, xw_ck, xw_uI, xw_ur, xup_at, xur_at, if_true, if_false, reduceIte, and_true, true_and, and_false, false_and, not_true_eq_false, not_false_eq_true, Nat.reduceEqDiff, eq_self, Nat.reduceAdd, Nat.reduceMul, kC1, kG1, kP1, kR1_0, kR1_1, kR1_2, kR1_3, kR1_4, kR1_5, kR1_6, kR1_7, kR1_8, kR1_9, kR1_10, kR1_11, kR1_12, kR1_13, kC2, kG2, kP2, kR2_0, kR2_1, kC3, kG3, kP3, kR3_0, kR3_1, kR3_2, kR3_3, kL4, kA4, kS4, kL5, kA5, kS5, kL6, kA6, kS6, kL7, kA7, kS7, kC8, kG8, kP8, kR8_0, kR8_1, kL9, kA9, kS9, kL10, kA10, kS10, kC11, kG11, kP11, kR11_0, kR11_1, kR11_2, kR11_3, kL12, kA12, kS12, kL13, kA13, kS13, kL14, kA14, kS14, kL15, kA15, kS15, kC16, kG16, kP16, kR16_0, kR16_1, kL17, kA17, kS17, kL18, kA18, kS18, kC19, kG19, kP19, kR19_0, kL20, kL141, kL146, kA146, kS146, kL151, kA151, kS151, kL156, kA156, kS156, kC157, kG157, kP157, kR157_0, kR157_1, kL158, kA158, kS158, kL159, kA159, kS159, kC161, kG161, kP161, kR161_0, kR161_1, kL162, kA162, kS162, kL163, kA163, kS163, kC165, kG165, kP165, kR165_0, kR165_1, kR165_2, kR165_3, kL166, kA166, kS166, kL167, kA167, kS167, kL168, kA168, kS168, kL169, kA169, kS169, kC170, kG170, kP170, kR170_0, kR170_1, kR170_2, kL171, kA171, kS171, kL172, kA172, kS172, kL173, kA173, kS173, kC174, kG174, kP174, kR174_0, kR174_1, kR174_2, kR174_3, kR174_4, kL175, kA175, kS175, kL176, kA176, kS176, kL177, kA177, kS177, kL178, kA178, kS178, kL179, kC180, kG180, kP180, kL181, kL182, kA182, kS182, kC183, kG183, kP183, kR183_1, kR183_3, kR183_5, kR183_6, kR183_7, kR183_8, kR183_9, kR183_21, kR183_26, kR183_27, kR183_30, kR183_31, kR183_33, kR183_34, kR183_36, kR183_37, kR183_38, kR183_39, kR183_40, kR183_41, kR183_42, kR183_43, kR183_44, kL184, kA184, kS184, kL185, kA185, kS185, kL186, kA186, kS186, kL187, kA187, kS187, kL188, kA188, kS188, kL189, kL190, kL191, kA191, kS191, kL192, kA192, kS192, kL193, kA193, kS193, kL194, kA194, kS194, kL195, kA195, kS195, kL196, kA196, kS196, kL197, kA197, kS197, kL198, kA198, kS198, kL199, kA199, kS199, kL200, kA200, kS200, kL201, kL202, kA202, kS202, kL203, kA203, kS203, kL204, kA204, kS204, kL205, kL206, kA206, kS206, nn_le, show ¬ (3 ≤ 1) by omega, sa 1 (by decide)]
        have : xI σ 147 2 = nI f1 := f12
        rcases (show f1 = 0 ∨ f1 = 1 by omega) with z | z <;> subst z <;> (simp (disch := first | assumption | omega) only [Option.bind_some, Option.map_some, xw_gR, xw_gN, xw_al, xw_ck, xw_uI, xw_ur, xup_at, xur_at, if_true, if_false, reduceIte, and_true, true_and, and_false, false_and, not_true_eq_false, not_false_eq_true, Nat.reduceEqDiff, eq_self, Nat.reduceAdd, Nat.reduceMul, kC1, kG1, kP1, kR1_0, kR1_1, kR1_2, kR1_3, kR1_4, kR1_5, kR1_6, kR1_7, kR1_8, kR1_9, kR1_10, kR1_11, kR1_12, kR1_13, kC2, kG2, kP2, kR2_0, kR2_1, kC3, kG3, kP3, kR3_0, kR3_1, kR3_2, kR3_3, kL4, kA4, kS4, kL5, kA5, kS5, kL6, kA6, kS6, kL7, kA7, kS7, kC8, kG8, kP8, kR8_0, kR8_1, kL9, kA9, kS9, kL10, kA10, kS10, kC11, kG11, kP11, kR11_0, kR11_1, kR11_2, kR11_3, kL12, kA12, kS12, kL13, kA13, kS13, kL14, kA14, kS14, kL15, kA15, kS15, kC16, kG16, kP16, kR16_0, kR16_1, kL17, kA17, kS17, kL18, kA18, kS18, kC19, kG19, kP19, kR19_0, kL20, kL141, kL146, kA146, kS146, kL151, kA151, kS151, kL156, kA156, kS156, kC157, kG157, kP157, kR157_0, kR157_1, kL158, kA158, kS158, kL159, kA159, kS159, kC161, kG161, kP161, kR161_0, kR161_1, kL162, kA162, kS162, kL163, kA163, kS163, kC165, kG165, kP165, kR165_0, kR165_1, kR165_2, kR165_3, kL166, kA166, kS166, kL167, kA167, kS167, kL168, kA168, kS168, kL169, kA169, kS169, kC170, kG170, kP170, kR170_0, kR170_1, kR170_2, kL171, kA171, kS171, kL172, kA172, kS172, kL173, kA173, kS173, kC174, kG174, kP174, kR174_0, kR174_1, kR174_2, kR174_3, kR174_4, kL175, kA175, kS175, kL176, kA176, kS176, kL177, kA177, kS177, kL178, kA178, kS178, kL179, kC180, kG180, kP180, kL181, kL182, kA182, kS182, kC183, kG183, kP183, kR183_1, kR183_3, kR183_5, kR183_6, kR183_7, kR183_8, kR183_9, kR183_21, kR183_26, kR183_27, kR183_30, kR183_31, kR183_33, kR183_34, kR183_36, kR183_37, kR183_38, kR183_39, kR183_40, kR183_41, kR183_42, kR183_43, kR183_44, kL184, kA184, kS184, kL185, kA185, kS185, kL186, kA186, kS186, kL187, kA187, kS187, kL188, kA188, kS188, kL189, kL190, kL191, kA191, kS191, kL192, kA192, kS192, kL193, kA193, kS193, kL194, kA194, kS194, kL195, kA195, kS195, kL196, kA196, kS196, kL197, kA197, kS197, kL198, kA198, kS198, kL199, kA199, kS199, kL200, kA200, kS200, kL201, kL202, kA202, kS202, kL203, kA203, kS203, kL204, kA204, kS204, kL205, kL206, kA206, kS206, xw_gI (slT hS (i := 1) (by decide)), this]; first | rfl | (rw [if_neg (by decide), ← nI_succ]; rfl))
      · simp only [f_X11_countFullSlots_b4]
        simp (disch := first | assumption | omega) only [Option.bind_some, Option.map_some, xw_gR, xw_gN, xw_al, xw_ck, xw_uI, xw_ur, xup_at, xur_at, if_true, if_false, reduceIte, and_true, true_and, and_false, false_and, not_true_eq_false, not_false_eq_true, Nat.reduceEqDiff, eq_self, Nat.reduceAdd, Nat.reduceMul, kC1, kG1, kP1, kR1_0, kR1_1, kR1_2, kR1_3, kR1_4, kR1_5, kR1_6, kR1_7, kR1_8, kR1_9, kR1_10, kR1_11, kR1_12, kR1_13, kC2, kG2, kP2, kR2_0, kR2_1, kC3, kG3, kP3, kR3_0, kR3_1, kR3_2, kR3_3, kL4, kA4, kS4, kL5, kA5, kS5, kL6, kA6, kS6, kL7, kA7, kS7, kC8, kG8, kP8, kR8_0, kR8_1, kL9, kA9, kS9, kL10, kA10, kS10, kC11, kG11, kP11, kR11_0, kR11_1, kR11_2, kR11_3, kL12, kA12, kS12, kL13, kA13, kS13, kL14, kA14, kS14, kL15, kA15, kS15, kC16, kG16, kP16, kR16_0, kR16_1, kL17, kA17, kS17, kL18, kA18, kS18, kC19, kG19, kP19, kR19_0, kL20, kL141, kL146, kA146, kS146, kL151, kA151, kS151, kL156, kA156, kS156, kC157, kG157, kP157, kR157_0, kR157_1, kL158, kA158, kS158, kL159, kA159, kS159, kC161, kG161, kP161, kR161_0, kR161_1, kL162, kA162, kS162, kL163, kA163, kS163, kC165, kG165, kP165, kR165_0, kR165_1, kR165_2, kR165_3, kL166, kA166, kS166, kL167, kA167, kS167, kL168, kA168, kS168, kL169, kA169, kS169, kC170, kG170, kP170, kR170_0, kR170_1, kR170_2, kL171, kA171, kS171, kL172, kA172, kS172, kL173, kA173, kS173, kC174, kG174, kP174, kR174_0, kR174_1, kR174_2, kR174_3, kR174_4, kL175, kA175, kS175, kL176, kA176, kS176, kL177, kA177, kS177, kL178, kA178, kS178, kL179, kC180, kG180, kP180, kL181, kL182, kA182, kS182, kC183, kG183, kP183, kR183_1, kR183_3, kR183_5, kR183_6, kR183_7, kR183_8, kR183_9, kR183_21, kR183_26, kR183_27, kR183_30, kR183_31, kR183_33, kR183_34, kR183_36, kR183_37, kR183_38, kR183_39, kR183_40, kR183_41, kR183_42, kR183_43, kR183_44, kL184, kA184, kS184, kL185, kA185, kS185, kL186, kA186, kS186, kL187, kA187, kS187, kL188, kA188, kS188, kL189, kL190, kL191, kA191, kS191, kL192, kA192, kS192, kL193, kA193, kS193, kL194, kA194, kS194, kL195, kA195, kS195, kL196, kA196, kS196, kL197, kA197, kS197, kL198, kA198, kS198, kL199, kA199, kS199, kL200, kA200, kS200, kL201, kL202, kA202, kS202, kL203, kA203, kS203, kL204, kA204, kS204, kL205, kL206, kA206, kS206, nn_le, show ¬ (3 ≤ 2) by omega, sa 2 (by decide)]
        have : xI σ 152 2 = nI f2 := f22
        rcases (show f2 = 0 ∨ f2 = 1 by omega) with z | z <;> subst z <;> (simp (disch := first | assumption | omega) only [Option.bind_some, Option.map_some, xw_gR, xw_gN, xw_al, xw_ck, xw_uI, xw_ur, xup_at, xur_at, if_true, if_false, reduceIte, and_true, true_and, and_false, false_and, not_true_eq_false, not_false_eq_true, Nat.reduceEqDiff, eq_self, Nat.reduceAdd, Nat.reduceMul, kC1, kG1, kP1, kR1_0, kR1_1, kR1_2, kR1_3, kR1_4, kR1_5, kR1_6, kR1_7, kR1_8, kR1_9, kR1_10, kR1_11, kR1_12, kR1_13, kC2, kG2, kP2, kR2_0, kR2_1, kC3, kG3, kP3, kR3_0, kR3_1, kR3_2, kR3_3, kL4, kA4, kS4, kL5, kA5, kS5, kL6, kA6, kS6, kL7, kA7, kS7, kC8, kG8, kP8, kR8_0, kR8_1, kL9, kA9, kS9, kL10, kA10, kS10, kC11, kG11, kP11, kR11_0, kR11_1, kR11_2, kR11_3, kL12, kA12, kS12, kL13, kA13, kS13, kL14, kA14, kS14, kL15, kA15, kS15, kC16, kG16, kP16, kR16_0, kR16_1, kL17, kA17, kS17, kL18, kA18, kS18, kC19, kG19, kP19, kR19_0, kL20, kL141, kL146, kA146, kS146, kL151, kA151, kS151, kL156, kA156, kS156, kC157, kG157, kP157, kR157_0, kR157_1, kL158, kA158, kS158, kL159, kA159, kS159, kC161, kG161, kP161, kR161_0, kR161_1, kL162, kA162, kS162, kL163, kA163, kS163, kC165, kG165, kP165, kR165_0, kR165_1, kR165_2, kR165_3, kL166, kA166, kS166, kL167, kA167, kS167, kL168, kA168, kS168, kL169, kA169, kS169, kC170, kG170, kP170, kR170_0, kR170_1, kR170_2, kL171, kA171, kS171, kL172, kA172, kS172, kL173, kA173, kS173, kC174, kG174, kP174, kR174_0, kR174_1, kR174_2, kR174_3, kR174_4, kL175, kA175, kS175, kL176, kA176, kS176, kL177, kA177, kS177, kL178, kA178, kS178, kL179, kC180, kG180, kP180, kL181, kL182, kA182, kS182, kC183, kG183, kP183, kR183_1, kR183_3, kR183_5, kR183_6, kR183_7, kR183_8, kR183_9, kR183_21, kR183_26, kR183_27, kR183_30, kR183_31, kR183_33, kR183_34, kR183_36, kR183_37, kR183_38, kR183_39, kR183_40, kR183_41, kR183_42, kR183_43, kR183_44, kL184, kA184, kS184, kL185, kA185, kS185, kL186, kA186, kS186, kL187, kA187, kS187, kL188, kA188, kS188, kL189, kL190, kL191, kA191, kS191, kL192, kA192, kS192, kL193, kA193, kS193, kL194, kA194, kS194, kL195, kA195, kS195, kL196, kA196, kS196, kL197, kA197, kS197, kL198, kA198, kS198, kL199, kA199, kS199, kL200, kA200, kS200, kL201, kL202, kA202, kS202, kL203, kA203, kS203, kL204, kA204, kS204, kL205, kL206, kA206, kS206, xw_gI (slT hS (i := 2) (by decide)), this]; first | rfl | (rw [if_neg (by decide), ← nI_succ]; rfl))
    · simp only [f_X11_countFullSlots_b4]
      simp (disch := first | assumption | omega) only [Option.bind_some, Option.map_some, xw_gR, xw_gN, xw_al, xw_ck, xw_uI, xw_ur, xup_at, xur_at, if_true, if_false, reduceIte, and_true, true_and, and_false, false_and, not_true_eq_false, not_false_eq_true, Nat.reduceEqDiff, eq_self, Nat.reduceAdd, Nat.reduceMul, kC1, kG1, kP1, kR1_0, kR1_1, kR1_2, kR1_3, kR1_4, kR1_5, kR1_6, kR1_7, kR1_8, kR1_9, kR1_10, kR1_11, kR1_12, kR1_13, kC2, kG2, kP2, kR2_0, kR2_1, kC3, kG3, kP3, kR3_0, kR3_1, kR3_2, kR3_3, kL4, kA4, kS4, kL5, kA5, kS5, kL6, kA6, kS6, kL7, kA7, kS7, kC8, kG8, kP8, kR8_0, kR8_1, kL9, kA9, kS9, kL10, kA10, kS10, kC11, kG11, kP11, kR11_0, kR11_1, kR11_2, kR11_3, kL12, kA12, kS12, kL13, kA13, kS13, kL14, kA14, kS14, kL15, kA15, kS15, kC16, kG16, kP16, kR16_0, kR16_1, kL17, kA17, kS17, kL18, kA18, kS18, kC19, kG19, kP19, kR19_0, kL20, kL141, kL146, kA146, kS146, kL151, kA151, kS151, kL156, kA156, kS156, kC157, kG157, kP157, kR157_0, kR157_1, kL158, kA158, kS158, kL159, kA159, kS159, kC161, kG161, kP161, kR161_0, kR161_1, kL162, kA162, kS162, kL163, kA163, kS163, kC165, kG165, kP165, kR165_0, kR165_1, kR165_2, kR165_3, kL166, kA166, kS166, kL167, kA167, kS167, kL168, kA168, kS168, kL169, kA169, kS169, kC170, kG170, kP170, kR170_0, kR170_1, kR170_2, kL171, kA171, kS171, kL172, kA172, kS172, kL173, kA173, kS173, kC174, kG174, kP174, kR174_0, kR174_1, kR174_2, kR174_3, kR174_4, kL175, kA175, kS175, kL176, kA176, kS176, kL177, kA177, kS177, kL178, kA178, kS178, kL179, kC180, kG180, kP180, kL181, kL182, kA182, kS182, kC183, kG183, kP183, kR183_1, kR183_3, kR183_5, kR183_6, kR183_7, kR183_8, kR183_9, kR183_21, kR183_26, kR183_27, kR183_30, kR183_31, kR183_33, kR183_34, kR183_36, kR183_37, kR183_38, kR183_39, kR183_40, kR183_41, kR183_42, kR183_43, kR183_44, kL184, kA184, kS184, kL185, kA185, kS185, kL186, kA186, kS186, kL187, kA187, kS187, kL188, kA188, kS188, kL189, kL190, kL191, kA191, kS191, kL192, kA192, kS192, kL193, kA193, kS193, kL194, kA194, kS194, kL195, kA195, kS195, kL196, kA196, kS196, kL197, kA197, kS197, kL198, kA198, kS198, kL199, kA199, kS199, kL200, kA200, kS200, kL201, kL202, kA202, kS202, kL203, kA203, kS203, kL204, kA204, kS204, kL205, kL206, kA206, kS206, nn_le, Nat.le_refl]
  obtain ⟨r, hfw, few2⟩ := fewest12 (σ := σ) (I := xI σ) hS hG hF.symm ho
  have few1 := fewest11 (σ := τ) (I := xI τ) H1.shp hg hB hfw
  have A : f_X11_count σ 1 v = xsw v 0 [some (nI g.1, σ), some (nI g.2.1, σ), some (nI b, σ), some (nI (fb_ct (lW g F) (gSt g)), σ), some (nI p, σ), some (nI (fb_ct (fun t => (gTo g t).isSome) 32), σ), some (nI m, σ), some (nI q, σ), some (nI (f0 + f1 + f2), σ), some (F 65, σ), some (nI (fb_ct (lst g b) (gSz g)), σ), some (nI (mxC g b (gSz g)), σ), some (nI g.2.2, σ), some (nI r, τ), some (nI (fb_ct (fun i => decide (sqv g F i = 1)) (gSz g)), σ)] (some (-1, σ)) := by
    show f_X11_count (xw σ (xI σ)) 1 v = _
    have l1' : f_X11_breaksNow (xw σ (xI σ)) 1 = some (170, τ) := l1
    have e13 : f_X11_count_j192 τ 170 = some (nI r, τ) := by
      unfold f_X11_count_j192
      rw [xck_ok (sT170 H1.shp), Option.bind_some]
      have := few1
      rw [xw_self] at this
      rw [this]; rfl
    unfold f_X11_count
    simp (disch := first | assumption | omega) only [Option.bind_some, Option.map_some, xw_gR, xw_gN, xw_al, xw_ck, xw_uI, xw_ur, xup_at, xur_at, if_true, if_false, reduceIte, and_true, true_and, and_false, false_and, not_true_eq_false, not_false_eq_true, Nat.reduceEqDiff, eq_self, Nat.reduceAdd, Nat.reduceMul, kC1, kG1, kP1, kR1_0, kR1_1, kR1_2, kR1_3, kR1_4, kR1_5, kR1_6, kR1_7, kR1_8, kR1_9, kR1_10, kR1_11, kR1_12, kR1_13, kC2, kG2, kP2, kR2_0, kR2_1, kC3, kG3, kP3, kR3_0, kR3_1, kR3_2, kR3_3, kL4, kA4, kS4, kL5, kA5, kS5, kL6, kA6, kS6, kL7, kA7, kS7, kC8, kG8, kP8, kR8_0, kR8_1, kL9, kA9, kS9, kL10, kA10, kS10, kC11, kG11, kP11, kR11_0, kR11_1, kR11_2, kR11_3, kL12, kA12, kS12, kL13, kA13, kS13, kL14, kA14, kS14, kL15, kA15, kS15, kC16, kG16, kP16, kR16_0, kR16_1, kL17, kA17, kS17, kL18, kA18, kS18, kC19, kG19, kP19, kR19_0, kL20, kL141, kL146, kA146, kS146, kL151, kA151, kS151, kL156, kA156, kS156, kC157, kG157, kP157, kR157_0, kR157_1, kL158, kA158, kS158, kL159, kA159, kS159, kC161, kG161, kP161, kR161_0, kR161_1, kL162, kA162, kS162, kL163, kA163, kS163, kC165, kG165, kP165, kR165_0, kR165_1, kR165_2, kR165_3, kL166, kA166, kS166, kL167, kA167, kS167, kL168, kA168, kS168, kL169, kA169, kS169, kC170, kG170, kP170, kR170_0, kR170_1, kR170_2, kL171, kA171, kS171, kL172, kA172, kS172, kL173, kA173, kS173, kC174, kG174, kP174, kR174_0, kR174_1, kR174_2, kR174_3, kR174_4, kL175, kA175, kS175, kL176, kA176, kS176, kL177, kA177, kS177, kL178, kA178, kS178, kL179, kC180, kG180, kP180, kL181, kL182, kA182, kS182, kC183, kG183, kP183, kR183_1, kR183_3, kR183_5, kR183_6, kR183_7, kR183_8, kR183_9, kR183_21, kR183_26, kR183_27, kR183_30, kR183_31, kR183_33, kR183_34, kR183_36, kR183_37, kR183_38, kR183_39, kR183_40, kR183_41, kR183_42, kR183_43, kR183_44, kL184, kA184, kS184, kL185, kA185, kS185, kL186, kA186, kS186, kL187, kA187, kS187, kL188, kA188, kS188, kL189, kL190, kL191, kA191, kS191, kL192, kA192, kS192, kL193, kA193, kS193, kL194, kA194, kS194, kL195, kA195, kS195, kL196, kA196, kS196, kL197, kA197, kS197, kL198, kA198, kS198, kL199, kA199, kS199, kL200, kA200, kS200, kL201, kL202, kA202, kS202, kL203, kA203, kS203, kL204, kA204, kS204, kL205, kL206, kA206, kS206, hG.2.1, hG.2.2.1, hb4, countStates_ok hS hG ho hSR, e3, ties11_ok hS hG, t1, p2, fs1, e8, clusters11_ok hS hG hb, greatest11_ok hS hG hb, hG.2.2.2.1, l1', xnz_ok, e13, odds11_ok hS hG hSR]
    rfl
  have a0 : xaI (xw σ (xI σ)) 22 195 (0 : Int32) = some (nI f0) := by rw [← f03]; exact kA195 hS (i := 0) (by decide)
  have a1 : xaI (xw σ (xI σ)) 22 195 (1 : Int32) = some (nI f1) := by rw [← f13]; exact kA195 hS (i := 1) (by decide)
  have a2 : xaI (xw σ (xI σ)) 22 195 (2 : Int32) = some (nI f2) := by rw [← f23]; exact kA195 hS (i := 2) (by decide)
  have s8 : (if nI f0 = 0 then f_X12_count_j133 (xw σ (xI σ)) 183 (0 : Int32) else f_X12_count_j133 (xw σ (xI σ)) 183 (1 : Int32)) = some (nI (f0 + f1 + f2)) := by
    unfold f_X12_count_j133 f_X12_count_j147
    simp (disch := first | assumption | omega) only [Option.bind_some, Option.map_some, xw_gR, xw_gN, xw_al, xw_ck, xw_uI, xw_ur, xup_at, xur_at, if_true, if_false, reduceIte, and_true, true_and, and_false, false_and, not_true_eq_false, not_false_eq_true, Nat.reduceEqDiff, eq_self, Nat.reduceAdd, Nat.reduceMul, kC1, kG1, kP1, kR1_0, kR1_1, kR1_2, kR1_3, kR1_4, kR1_5, kR1_6, kR1_7, kR1_8, kR1_9, kR1_10, kR1_11, kR1_12, kR1_13, kC2, kG2, kP2, kR2_0, kR2_1, kC3, kG3, kP3, kR3_0, kR3_1, kR3_2, kR3_3, kL4, kA4, kS4, kL5, kA5, kS5, kL6, kA6, kS6, kL7, kA7, kS7, kC8, kG8, kP8, kR8_0, kR8_1, kL9, kA9, kS9, kL10, kA10, kS10, kC11, kG11, kP11, kR11_0, kR11_1, kR11_2, kR11_3, kL12, kA12, kS12, kL13, kA13, kS13, kL14, kA14, kS14, kL15, kA15, kS15, kC16, kG16, kP16, kR16_0, kR16_1, kL17, kA17, kS17, kL18, kA18, kS18, kC19, kG19, kP19, kR19_0, kL20, kL141, kL146, kA146, kS146, kL151, kA151, kS151, kL156, kA156, kS156, kC157, kG157, kP157, kR157_0, kR157_1, kL158, kA158, kS158, kL159, kA159, kS159, kC161, kG161, kP161, kR161_0, kR161_1, kL162, kA162, kS162, kL163, kA163, kS163, kC165, kG165, kP165, kR165_0, kR165_1, kR165_2, kR165_3, kL166, kA166, kS166, kL167, kA167, kS167, kL168, kA168, kS168, kL169, kA169, kS169, kC170, kG170, kP170, kR170_0, kR170_1, kR170_2, kL171, kA171, kS171, kL172, kA172, kS172, kL173, kA173, kS173, kC174, kG174, kP174, kR174_0, kR174_1, kR174_2, kR174_3, kR174_4, kL175, kA175, kS175, kL176, kA176, kS176, kL177, kA177, kS177, kL178, kA178, kS178, kL179, kC180, kG180, kP180, kL181, kL182, kA182, kS182, kC183, kG183, kP183, kR183_1, kR183_3, kR183_5, kR183_6, kR183_7, kR183_8, kR183_9, kR183_21, kR183_26, kR183_27, kR183_30, kR183_31, kR183_33, kR183_34, kR183_36, kR183_37, kR183_38, kR183_39, kR183_40, kR183_41, kR183_42, kR183_43, kR183_44, kL184, kA184, kS184, kL185, kA185, kS185, kL186, kA186, kS186, kL187, kA187, kS187, kL188, kA188, kS188, kL189, kL190, kL191, kA191, kS191, kL192, kA192, kS192, kL193, kA193, kS193, kL194, kA194, kS194, kL195, kA195, kS195, kL196, kA196, kS196, kL197, kA197, kS197, kL198, kA198, kS198, kL199, kA199, kS199, kL200, kA200, kS200, kL201, kL202, kA202, kS202, kL203, kA203, kS203, kL204, kA204, kS204, kL205, kL206, kA206, kS206, a1, a2]
    rcases (show f0 = 0 ∨ f0 = 1 by omega) with z | z <;> rcases (show f1 = 0 ∨ f1 = 1 by omega) with y | y <;> rcases (show f2 = 0 ∨ f2 = 1 by omega) with w | w <;> subst z y w <;> decide
  have s12 : (if nI (g.2.2 % 2) = 0 then f_X12_count_j194 (xw σ (xI σ)) 183 (0 : Int32) else f_X12_count_j194 (xw σ (xI σ)) 183 (1 : Int32)) = some (nI g.2.2) := by
    unfold f_X12_count_j194
    simp (disch := first | assumption | omega) only [Option.bind_some, Option.map_some, xw_gR, xw_gN, xw_al, xw_ck, xw_uI, xw_ur, xup_at, xur_at, if_true, if_false, reduceIte, and_true, true_and, and_false, false_and, not_true_eq_false, not_false_eq_true, Nat.reduceEqDiff, eq_self, Nat.reduceAdd, Nat.reduceMul, kC1, kG1, kP1, kR1_0, kR1_1, kR1_2, kR1_3, kR1_4, kR1_5, kR1_6, kR1_7, kR1_8, kR1_9, kR1_10, kR1_11, kR1_12, kR1_13, kC2, kG2, kP2, kR2_0, kR2_1, kC3, kG3, kP3, kR3_0, kR3_1, kR3_2, kR3_3, kL4, kA4, kS4, kL5, kA5, kS5, kL6, kA6, kS6, kL7, kA7, kS7, kC8, kG8, kP8, kR8_0, kR8_1, kL9, kA9, kS9, kL10, kA10, kS10, kC11, kG11, kP11, kR11_0, kR11_1, kR11_2, kR11_3, kL12, kA12, kS12, kL13, kA13, kS13, kL14, kA14, kS14, kL15, kA15, kS15, kC16, kG16, kP16, kR16_0, kR16_1, kL17, kA17, kS17, kL18, kA18, kS18, kC19, kG19, kP19, kR19_0, kL20, kL141, kL146, kA146, kS146, kL151, kA151, kS151, kL156, kA156, kS156, kC157, kG157, kP157, kR157_0, kR157_1, kL158, kA158, kS158, kL159, kA159, kS159, kC161, kG161, kP161, kR161_0, kR161_1, kL162, kA162, kS162, kL163, kA163, kS163, kC165, kG165, kP165, kR165_0, kR165_1, kR165_2, kR165_3, kL166, kA166, kS166, kL167, kA167, kS167, kL168, kA168, kS168, kL169, kA169, kS169, kC170, kG170, kP170, kR170_0, kR170_1, kR170_2, kL171, kA171, kS171, kL172, kA172, kS172, kL173, kA173, kS173, kC174, kG174, kP174, kR174_0, kR174_1, kR174_2, kR174_3, kR174_4, kL175, kA175, kS175, kL176, kA176, kS176, kL177, kA177, kS177, kL178, kA178, kS178, kL179, kC180, kG180, kP180, kL181, kL182, kA182, kS182, kC183, kG183, kP183, kR183_1, kR183_3, kR183_5, kR183_6, kR183_7, kR183_8, kR183_9, kR183_21, kR183_26, kR183_27, kR183_30, kR183_31, kR183_33, kR183_34, kR183_36, kR183_37, kR183_38, kR183_39, kR183_40, kR183_41, kR183_42, kR183_43, kR183_44, kL184, kA184, kS184, kL185, kA185, kS185, kL186, kA186, kS186, kL187, kA187, kS187, kL188, kA188, kS188, kL189, kL190, kL191, kA191, kS191, kL192, kA192, kS192, kL193, kA193, kS193, kL194, kA194, kS194, kL195, kA195, kS195, kL196, kA196, kS196, kL197, kA197, kS197, kL198, kA198, kS198, kL199, kA199, kS199, kL200, kA200, kS200, kL201, kL202, kA202, kS202, kL203, kA203, kS203, kL204, kA204, kS204, kL205, kL206, kA206, kS206, hG.2.2.2.2.2.2.2.2.2.2.2.1]
    rcases (show g.2.2 = 0 ∨ g.2.2 = 1 ∨ g.2.2 = 2 ∨ g.2.2 = 3 by omega) with z | z | z | z <;> rw [z] <;> decide
  have B : f_X12_count σ 183 v = xsw v 0 [some (nI g.1), some (nI g.2.1), some (nI b), some (nI (fb_ct (lW g F) (gSt g))), some (nI p), some (nI (fb_ct (fun t => (gTo g t).isSome) 32)), some (nI m), some (nI q), some (nI (f0 + f1 + f2)), some (F 65), some (nI (fb_ct (lst g b) (gSz g))), some (nI (mxC g b (gSz g))), some (nI g.2.2), some (nI r), some (nI (fb_ct (fun i => decide (sqv g F i = 1)) (gSz g)))] (some (-1)) := by
    show f_X12_count (xw σ (xI σ)) 183 v = _
    have h65 : xI σ 191 65 = F 65 := by rw [hF]
    unfold f_X12_count
    simp (disch := first | assumption | omega) only [Option.bind_some, Option.map_some, xw_gR, xw_gN, xw_al, xw_ck, xw_uI, xw_ur, xup_at, xur_at, if_true, if_false, reduceIte, and_true, true_and, and_false, false_and, not_true_eq_false, not_false_eq_true, Nat.reduceEqDiff, eq_self, Nat.reduceAdd, Nat.reduceMul, kC1, kG1, kP1, kR1_0, kR1_1, kR1_2, kR1_3, kR1_4, kR1_5, kR1_6, kR1_7, kR1_8, kR1_9, kR1_10, kR1_11, kR1_12, kR1_13, kC2, kG2, kP2, kR2_0, kR2_1, kC3, kG3, kP3, kR3_0, kR3_1, kR3_2, kR3_3, kL4, kA4, kS4, kL5, kA5, kS5, kL6, kA6, kS6, kL7, kA7, kS7, kC8, kG8, kP8, kR8_0, kR8_1, kL9, kA9, kS9, kL10, kA10, kS10, kC11, kG11, kP11, kR11_0, kR11_1, kR11_2, kR11_3, kL12, kA12, kS12, kL13, kA13, kS13, kL14, kA14, kS14, kL15, kA15, kS15, kC16, kG16, kP16, kR16_0, kR16_1, kL17, kA17, kS17, kL18, kA18, kS18, kC19, kG19, kP19, kR19_0, kL20, kL141, kL146, kA146, kS146, kL151, kA151, kS151, kL156, kA156, kS156, kC157, kG157, kP157, kR157_0, kR157_1, kL158, kA158, kS158, kL159, kA159, kS159, kC161, kG161, kP161, kR161_0, kR161_1, kL162, kA162, kS162, kL163, kA163, kS163, kC165, kG165, kP165, kR165_0, kR165_1, kR165_2, kR165_3, kL166, kA166, kS166, kL167, kA167, kS167, kL168, kA168, kS168, kL169, kA169, kS169, kC170, kG170, kP170, kR170_0, kR170_1, kR170_2, kL171, kA171, kS171, kL172, kA172, kS172, kL173, kA173, kS173, kC174, kG174, kP174, kR174_0, kR174_1, kR174_2, kR174_3, kR174_4, kL175, kA175, kS175, kL176, kA176, kS176, kL177, kA177, kS177, kL178, kA178, kS178, kL179, kC180, kG180, kP180, kL181, kL182, kA182, kS182, kC183, kG183, kP183, kR183_1, kR183_3, kR183_5, kR183_6, kR183_7, kR183_8, kR183_9, kR183_21, kR183_26, kR183_27, kR183_30, kR183_31, kR183_33, kR183_34, kR183_36, kR183_37, kR183_38, kR183_39, kR183_40, kR183_41, kR183_42, kR183_43, kR183_44, kL184, kA184, kS184, kL185, kA185, kS185, kL186, kA186, kS186, kL187, kA187, kS187, kL188, kA188, kS188, kL189, kL190, kL191, kA191, kS191, kL192, kA192, kS192, kL193, kA193, kS193, kL194, kA194, kS194, kL195, kA195, kS195, kL196, kA196, kS196, kL197, kA197, kS197, kL198, kA198, kS198, kL199, kA199, kS199, kL200, kA200, kS200, kL201, kL202, kA202, kS202, kL203, kA203, kS203, kL204, kA204, kS204, kL205, kL206, kA206, kS206, hG.2.2.2.2.2.2.2.2.1, hG.2.2.2.2.2.2.2.2.2.1, hG.2.2.2.2.2.2.2.2.2.2.1, show (64 : Int32) = nI 64 from rfl, h64, lawfulMany_ok hS hG hF.symm ho, pinned12_ok hS hG hF.symm ho e5, ties12_ok hS hG, t2, p4, a0, s8, show (65 : Int32) = nI 65 from rfl, h65, clusters12_ok hS hG h64 hb, greatest12_ok hS hG h64 hb, s12, few2, odds12_ok hS hG hF.symm]
  have Bτ : f_X12_count τ 183 (nI 13) = some (nI r) := by
    have rτ : xI τ 191 = F := by rw [hF]; funext k; exact fr 191 k (by omega)
    obtain ⟨r', hfw', few'⟩ := fewest12 (σ := τ) (I := xI τ) H1.shp H1.grd rτ ho
    have e1 := fewest11 (σ := τ) (I := xI τ) H1.shp hg hB hfw'
    rw [few1] at e1
    show f_X12_count (xw τ (xI τ)) 183 (nI 13) = _
    unfold f_X12_count
    rw [xsw_n (by decide)]
    show ((xck (xw τ (xI τ)) 183 12).bind fun _ => (f_X12_fewestBroken (xw τ (xI τ)) 183).bind fun v3 => some v3) = _
    rw [xw_ck, xck_ok (sT183 H1.shp), Option.bind_some, few', Option.bind_some]
    exact e1.symm
  rcases sw_c v 15 with ⟨w, hw, hw2, rfl⟩ | hd
  · rw [xsw_n hw2] at A B
    by_cases h13 : w = 13
    · subst h13
      exact ⟨_, _, A, Bτ, INV_i H1.nop⟩
    · rcases (show w = 0 ∨ w = 1 ∨ w = 2 ∨ w = 3 ∨ w = 4 ∨ w = 5 ∨ w = 6 ∨ w = 7 ∨ w = 8 ∨ w = 9 ∨ w = 10 ∨ w = 11 ∨ w = 12 ∨ w = 14 by omega) with rfl | rfl | rfl | rfl | rfl | rfl | rfl | rfl | rfl | rfl | rfl | rfl | rfl | rfl <;> exact ⟨_, _, A, B, INV_i H.nop⟩
  · exact ⟨_, _, A.trans (hd _ _ _ (Nat.le_refl 15)), B.trans (hd _ _ _ (Nat.le_refl 15)), INV_i H.nop⟩
end
section
/-! joined: in how many ways, of a held setup -/
def wyI (I : Nat → Nat → Int32) (W : Nat) (g : GD) (F : Nat → Int32) (d N s : Nat) : Nat → Nat → Int32 := fun c k => if c = W ∧ k < N then nI (fb_ct (lE g F ((k : Int) - (d : Int))) s) else I c k
theorem wyI_out {I : Nat → Nat → Int32} {W : Nat} {g : GD} {F : Nat → Int32} {d N s c k : Nat} (h : c ≠ W) : wyI I W g F d N s c k = I c k := by
  unfold wyI; rw [if_neg (fun z => h z.1)]
theorem wyI_no {I : Nat → Nat → Int32} {W : Nat} {g : GD} {F : Nat → Int32} {d N s : Nat} (h : lW g F s = false) : wyI I W g F d N (s + 1) = wyI I W g F d N s := by
  funext c k
  unfold wyI
  rw [fb_ct_succ]
  unfold lE
  rw [h]
  rfl
theorem wyI_yes {I : Nat → Nat → Int32} {W : Nat} {g : GD} {F : Nat → Int32} {d N s e : Nat} (h : lW g F s = true) (he : eE g (zR F) s = (e : Int) - (d : Int)) (he2 : e < N) : xup (wyI I W g F d N s) W e (nI (fb_ct (lE g F ((e : Int) - (d : Int))) s) + 1) = wyI I W g F d N (s + 1) := by
  funext c k
  simp only [xup_at, wyI]
  by_cases h1 : c = W
  · subst h1
    by_cases h2 : k = e
    · subst h2
      have e1 : fb_ct (lE g F ((k : Int) - (d : Int))) (s + 1) = fb_ct (lE g F ((k : Int) - (d : Int))) s + 1 := by
        rw [fb_ct_succ]
        unfold lE
        rw [h, he]; simp
      simp [he2, e1, nI_succ]
    · have e1 : fb_ct (lE g F ((k : Int) - (d : Int))) (s + 1) = fb_ct (lE g F ((k : Int) - (d : Int))) s := by
        rw [fb_ct_succ]
        have : lE g F ((k : Int) - (d : Int)) s = false := by
          unfold lE
          rw [h, he]
          have : ¬ ((e : Int) - (d : Int) = (k : Int) - (d : Int)) := by omega
          simp [this]
        rw [this]; simp
      simp [h2, e1]
  · simp [h1]
section HELD
variable {σ : XS} {I : Nat → Nat → Int32} {g : GD} {F : Nat → Int32} {c m : Nat}
theorem countWays_ok (hS : Shp σ) (hG : GRD I g) (ho : RO g F) (hE : EnO σ 161 c m) (hm : 2 ^ gSz g ≤ m) (hv : ∀ s, s < 2 ^ gSz g → I c s = iI (eE g (zR F) s)) {W a : Nat} (hW : σ.1 W = (20, 289)) (ha : a ∈ suA) (hSR : SR g I a F) (hWa : W < 160) (hWg : W ≠ 173 ∧ ¬ (11 ≤ W ∧ W ≤ 15)) (hWs : W ≠ a ∧ W ≠ a + 1 ∧ W ≠ a + 2) :
    f_X11_countWays (xw σ I) 1 W 161 a = some (xw σ (wyI I W g F 144 289 (gSt g))) := by
  have hg := hG.1
  have hSt := (gSt_b hg).1
  have hEb := hE.b
  have hWl : xal σ W = some (nI 289) := by
    rw [xal_ok (by unfold xT; rw [hW]; decide)]
    unfold xlen
    rw [hW]
  have e0 : xur I W (fun j => if j < 289 then 0 else I W j) = wyI I W g F 144 289 0 := by
    funext c k
    unfold xur wyI
    by_cases h : c = W
    · subst h
      by_cases h1 : k < 289
      · simp [h1]; rfl
      · simp [h1]
    · simp [h]
  have hSc : ∀ s, SR g (wyI I W g F 144 289 s) a F := fun s => SR_m hg (fun k _ _ => wyI_out (by omega)) (fun k _ => wyI_out (by omega)) (fun k _ => wyI_out (by omega)) (fun k _ => rfl) hSR
  unfold f_X11_countWays
  simp (disch := first | assumption | omega) only [Option.bind_some, Option.map_some, xw_gR, xw_gN, xw_al, xw_ck, xw_uI, xw_ur, xup_at, xur_at, if_true, if_false, reduceIte, and_true, true_and, and_false, false_and, not_true_eq_false, not_false_eq_true, Nat.reduceEqDiff, eq_self, Nat.reduceAdd, Nat.reduceMul, kC1, kG1, kP1, kR1_0, kR1_1, kR1_2, kR1_3, kR1_4, kR1_5, kR1_6, kR1_7, kR1_8, kR1_9, kR1_10, kR1_11, kR1_12, kR1_13, kC2, kG2, kP2, kR2_0, kR2_1, kC3, kG3, kP3, kR3_0, kR3_1, kR3_2, kR3_3, kL4, kA4, kS4, kL5, kA5, kS5, kL6, kA6, kS6, kL7, kA7, kS7, kC8, kG8, kP8, kR8_0, kR8_1, kL9, kA9, kS9, kL10, kA10, kS10, kC11, kG11, kP11, kR11_0, kR11_1, kR11_2, kR11_3, kL12, kA12, kS12, kL13, kA13, kS13, kL14, kA14, kS14, kL15, kA15, kS15, kC16, kG16, kP16, kR16_0, kR16_1, kL17, kA17, kS17, kL18, kA18, kS18, kC19, kG19, kP19, kR19_0, kL20, kL141, kL146, kA146, kS146, kL151, kA151, kS151, kL156, kA156, kS156, kC157, kG157, kP157, kR157_0, kR157_1, kL158, kA158, kS158, kL159, kA159, kS159, kC161, kG161, kP161, kR161_0, kR161_1, kL162, kA162, kS162, kL163, kA163, kS163, kC165, kG165, kP165, kR165_0, kR165_1, kR165_2, kR165_3, kL166, kA166, kS166, kL167, kA167, kS167, kL168, kA168, kS168, kL169, kA169, kS169, kC170, kG170, kP170, kR170_0, kR170_1, kR170_2, kL171, kA171, kS171, kL172, kA172, kS172, kL173, kA173, kS173, kC174, kG174, kP174, kR174_0, kR174_1, kR174_2, kR174_3, kR174_4, kL175, kA175, kS175, kL176, kA176, kS176, kL177, kA177, kS177, kL178, kA178, kS178, kL179, kC180, kG180, kP180, kL181, kL182, kA182, kS182, kC183, kG183, kP183, kR183_1, kR183_3, kR183_5, kR183_6, kR183_7, kR183_8, kR183_9, kR183_21, kR183_26, kR183_27, kR183_30, kR183_31, kR183_33, kR183_34, kR183_36, kR183_37, kR183_38, kR183_39, kR183_40, kR183_41, kR183_42, kR183_43, kR183_44, kL184, kA184, kS184, kL185, kA185, kS185, kL186, kA186, kS186, kL187, kA187, kS187, kL188, kA188, kS188, kL189, kL190, kL191, kA191, kS191, kL192, kA192, kS192, kL193, kA193, kS193, kL194, kA194, kS194, kL195, kA195, kS195, kL196, kA196, kS196, kL197, kA197, kS197, kL198, kA198, kS198, kL199, kA199, kS199, kL200, kA200, kS200, kL201, kL202, kA202, kS202, kL203, kA203, kS203, kL204, kA204, kS204, kL205, kL206, kA206, kS206, states11_ok hS hG, fillI_ok hW, e0]
  refine xforE (fun s : Nat => (nI s, xw σ (wyI I W g F 144 289 s))) (gSt g) rfl (fun s hs => ?_) ?_
  · have hs2 := (gSt_pos hs).2
    have hof : f_X2_of (xw σ (wyI I W g F 144 289 s)) 161 (nI s) = some (iI (eE g (zR F) s)) := by
      rw [of_at hS hE (by omega), wyI_out (by omega), hv s hs2]
    have hbE := eE_b hg ho s
    obtain ⟨e, he, he2⟩ : ∃ e : Nat, eE g (zR F) s = (e : Int) - 144 ∧ e < 289 := ⟨(eE g (zR F) s + 144).toNat, by omega, by omega⟩
    have e144' : iI (eE g (zR F) s) + (144 : Int32) = nI e := by rw [he]; exact e144 e
    have kv : wyI I W g F 144 289 s W e = nI (fb_ct (lE g F ((e : Int) - 144)) s) := by unfold wyI; rw [if_pos ⟨rfl, he2⟩]; rfl
    simp only [f_X11_countWays_b17]
    rw [if_neg (by rw [nn_le (by omega) (by omega)]; omega)]
    simp (disch := first | assumption | omega) only [Option.bind_some, Option.map_some, xw_gR, xw_gN, xw_al, xw_ck, xw_uI, xw_ur, xup_at, xur_at, if_true, if_false, reduceIte, and_true, true_and, and_false, false_and, not_true_eq_false, not_false_eq_true, Nat.reduceEqDiff, eq_self, Nat.reduceAdd, Nat.reduceMul, kC1, kG1, kP1, kR1_0, kR1_1, kR1_2, kR1_3, kR1_4, kR1_5, kR1_6, kR1_7, kR1_8, kR1_9, kR1_10, kR1_11, kR1_12, kR1_13, kC2, kG2, kP2, kR2_0, kR2_1, kC3, kG3, kP3, kR3_0, kR3_1, kR3_2, kR3_3, kL4, kA4, kS4, kL5, kA5, kS5, kL6, kA6, kS6, kL7, kA7, kS7, kC8, kG8, kP8, kR8_0, kR8_1, kL9, kA9, kS9, kL10, kA10, kS10, kC11, kG11, kP11, kR11_0, kR11_1, kR11_2, kR11_3, kL12, kA12, kS12, kL13, kA13, kS13, kL14, kA14, kS14, kL15, kA15, kS15, kC16, kG16, kP16, kR16_0, kR16_1, kL17, kA17, kS17, kL18, kA18, kS18, kC19, kG19, kP19, kR19_0, kL20, kL141, kL146, kA146, kS146, kL151, kA151, kS151, kL156, kA156, kS156, kC157, kG157, kP157, kR157_0, kR157_1, kL158, kA158, kS158, kL159, kA159, kS159, kC161, kG161, kP161, kR161_0, kR161_1, kL162, kA162, kS162, kL163, kA163, kS163, kC165, kG165, kP165, kR165_0, kR165_1, kR165_2, kR165_3, kL166, kA166, kS166, kL167, kA167, kS167, kL168, kA168, kS168, kL169, kA169, kS169, kC170, kG170, kP170, kR170_0, kR170_1, kR170_2, kL171, kA171, kS171, kL172, kA172, kS172, kL173, kA173, kS173, kC174, kG174, kP174, kR174_0, kR174_1, kR174_2, kR174_3, kR174_4, kL175, kA175, kS175, kL176, kA176, kS176, kL177, kA177, kS177, kL178, kA178, kS178, kL179, kC180, kG180, kP180, kL181, kL182, kA182, kS182, kC183, kG183, kP183, kR183_1, kR183_3, kR183_5, kR183_6, kR183_7, kR183_8, kR183_9, kR183_21, kR183_26, kR183_27, kR183_30, kR183_31, kR183_33, kR183_34, kR183_36, kR183_37, kR183_38, kR183_39, kR183_40, kR183_41, kR183_42, kR183_43, kR183_44, kL184, kA184, kS184, kL185, kA185, kS185, kL186, kA186, kS186, kL187, kA187, kS187, kL188, kA188, kS188, kL189, kL190, kL191, kA191, kS191, kL192, kA192, kS192, kL193, kA193, kS193, kL194, kA194, kS194, kL195, kA195, kS195, kL196, kA196, kS196, kL197, kA197, kS197, kL198, kA198, kS198, kL199, kA199, kS199, kL200, kA200, kS200, kL201, kL202, kA202, kS202, kL203, kA203, kS203, kL204, kA204, kS204, kL205, kL206, kA206, kS206, hof, suC hS ha, allows_ok hS hg ha (hSc s), e144', nn_nneg, hWl, nn_le, show ¬ (289 ≤ e) by omega, xw_aI hW he2 (by decide), xw_sI hW he2 (by decide), kv]
    rw [← nI_succ]
    cases hl : lW g F s with
    | false => rw [if_pos (by decide), wyI_no hl]
    | true =>
      rw [if_neg (by decide)]
      have := wyI_yes (I := I) (W := W) (d := 144) hl he he2
      rw [nI_succ]
      rw [← this]
      rfl
  · simp only [f_X11_countWays_b17]
    rw [if_pos (by rw [nn_le (by omega) (by omega)]; exact Nat.le_refl _)]
    rfl
theorem laysMany_ok (hS : Shp σ) (hG : GRD I g) (ho : RO g F) (hr : I 199 = F) : f_X12_laysMany (xw σ I) 183 199 200 = some (xw σ (wyI I 200 g F 150 301 (gSt g))) := by
  have hg := hG.1
  have h16 := (gAll_b g hg).2.2.1
  have hSt := (gSt_b hg).1
  have K199 : σ.1 199 = (20, 66) := xw_K hS (by decide) (by decide) (by decide)
  unfold f_X12_laysMany
  refine xforE (fun j : Nat => (nI j, xw σ (fun c k => if c = 200 ∧ k < j then nI 0 else I c k))) 301 ?_ (fun j hj => ?_) ?_
  · congr 2
    funext c k
    rw [if_neg (by omega)]
  · simp only [f_X12_laysMany_b2]
    rw [if_neg (by rw [show (301 : Int32) = nI 301 from rfl, nn_le (by omega) (by omega)]; omega)]
    simp (disch := first | assumption | omega) only [Option.bind_some, Option.map_some, xw_gR, xw_gN, xw_al, xw_ck, xw_uI, xw_ur, xup_at, xur_at, if_true, if_false, reduceIte, and_true, true_and, and_false, false_and, not_true_eq_false, not_false_eq_true, Nat.reduceEqDiff, eq_self, Nat.reduceAdd, Nat.reduceMul, kC1, kG1, kP1, kR1_0, kR1_1, kR1_2, kR1_3, kR1_4, kR1_5, kR1_6, kR1_7, kR1_8, kR1_9, kR1_10, kR1_11, kR1_12, kR1_13, kC2, kG2, kP2, kR2_0, kR2_1, kC3, kG3, kP3, kR3_0, kR3_1, kR3_2, kR3_3, kL4, kA4, kS4, kL5, kA5, kS5, kL6, kA6, kS6, kL7, kA7, kS7, kC8, kG8, kP8, kR8_0, kR8_1, kL9, kA9, kS9, kL10, kA10, kS10, kC11, kG11, kP11, kR11_0, kR11_1, kR11_2, kR11_3, kL12, kA12, kS12, kL13, kA13, kS13, kL14, kA14, kS14, kL15, kA15, kS15, kC16, kG16, kP16, kR16_0, kR16_1, kL17, kA17, kS17, kL18, kA18, kS18, kC19, kG19, kP19, kR19_0, kL20, kL141, kL146, kA146, kS146, kL151, kA151, kS151, kL156, kA156, kS156, kC157, kG157, kP157, kR157_0, kR157_1, kL158, kA158, kS158, kL159, kA159, kS159, kC161, kG161, kP161, kR161_0, kR161_1, kL162, kA162, kS162, kL163, kA163, kS163, kC165, kG165, kP165, kR165_0, kR165_1, kR165_2, kR165_3, kL166, kA166, kS166, kL167, kA167, kS167, kL168, kA168, kS168, kL169, kA169, kS169, kC170, kG170, kP170, kR170_0, kR170_1, kR170_2, kL171, kA171, kS171, kL172, kA172, kS172, kL173, kA173, kS173, kC174, kG174, kP174, kR174_0, kR174_1, kR174_2, kR174_3, kR174_4, kL175, kA175, kS175, kL176, kA176, kS176, kL177, kA177, kS177, kL178, kA178, kS178, kL179, kC180, kG180, kP180, kL181, kL182, kA182, kS182, kC183, kG183, kP183, kR183_1, kR183_3, kR183_5, kR183_6, kR183_7, kR183_8, kR183_9, kR183_21, kR183_26, kR183_27, kR183_30, kR183_31, kR183_33, kR183_34, kR183_36, kR183_37, kR183_38, kR183_39, kR183_40, kR183_41, kR183_42, kR183_43, kR183_44, kL184, kA184, kS184, kL185, kA185, kS185, kL186, kA186, kS186, kL187, kA187, kS187, kL188, kA188, kS188, kL189, kL190, kL191, kA191, kS191, kL192, kA192, kS192, kL193, kA193, kS193, kL194, kA194, kS194, kL195, kA195, kS195, kL196, kA196, kS196, kL197, kA197, kS197, kL198, kA198, kS198, kL199, kA199, kS199, kL200, kA200, kS200, kL201, kL202, kA202, kS202, kL203, kA203, kS203, kL204, kA204, kS204, kL205, kL206, kA206, kS206]
    rw [nI_succ]
    congr 4
    funext c k
    simp only [xup_at]
    by_cases q : c = 200
    · subst q
      by_cases q2 : k = j
      · subst q2; simp; rfl
      · have : (k < j + 1) ↔ (k < j) := by omega
        simp [q2, this]
    · simp [q]
  · simp only [f_X12_laysMany_b2]
    rw [if_pos (by decide)]
    have e : (fun c k => if c = 200 ∧ k < 301 then nI 0 else I c k) = wyI I 200 g F 150 301 0 := by
      funext c k
      unfold wyI
      rfl
    rw [e]
    have hGc : ∀ s, GRD (wyI I 200 g F 150 301 s) g := fun s => GRD_c (fun a k z => wyI_out (by unfold sGRD at z; omega)) hG
    have key : xloop (f_X12_laysMany_b21 183 199 200) ((0 : Int32), xw σ (wyI I 200 g F 150 301 0)) = some (xw σ (wyI I 200 g F 150 301 (gSt g))) := by
      refine xforE (fun s : Nat => (nI s, xw σ (wyI I 200 g F 150 301 s))) (gSt g) rfl (fun s hs => ?_) ?_
      · have hrow : wyI I 200 g F 150 301 s 199 = F := by rw [← hr]; funext k; exact wyI_out (by decide)
        have hlb := lawfulBy_ok (σ := σ) (I := wyI I 200 g F 150 301 s) (a := 199) (s := s) (k := gSz g) hS K199 (by omega) h16 (fun i hi => by rw [hrow]; exact (ho.2.1 i (by omega)).1)
        rw [hrow] at hlb
        have hen := energy12_ok (σ := σ) (I := wyI I 200 g F 150 301 s) (a := 199) (s := s) (r := g.2.1) hS (hGc s) K199 (by omega) (Nat.le_refl _)
        rw [hrow] at hen
        have hpa := eP_all hg (zR F) s
        unfold gSz at hpa
        rw [hpa] at hen
        have hbE := eE_b hg ho s
        obtain ⟨e, he, he2⟩ : ∃ e : Nat, eE g (zR F) s = (e : Int) - 150 ∧ e < 301 := ⟨(eE g (zR F) s + 150).toNat, by omega, by omega⟩
        have e150' : (150 : Int32) + iI (eE g (zR F) s) = nI e := by rw [show (150 : Int32) = iI 150 from rfl, iI_add, iI_n]; congr 1; omega
        have kv : wyI I 200 g F 150 301 s 200 e = nI (fb_ct (lE g F ((e : Int) - 150)) s) := by unfold wyI; rw [if_pos ⟨rfl, he2⟩]; rfl
        simp only [f_X12_laysMany_b21]
        simp (disch := first | assumption | omega) only [Option.bind_some, Option.map_some, xw_gR, xw_gN, xw_al, xw_ck, xw_uI, xw_ur, xup_at, xur_at, if_true, if_false, reduceIte, and_true, true_and, and_false, false_and, not_true_eq_false, not_false_eq_true, Nat.reduceEqDiff, eq_self, Nat.reduceAdd, Nat.reduceMul, kC1, kG1, kP1, kR1_0, kR1_1, kR1_2, kR1_3, kR1_4, kR1_5, kR1_6, kR1_7, kR1_8, kR1_9, kR1_10, kR1_11, kR1_12, kR1_13, kC2, kG2, kP2, kR2_0, kR2_1, kC3, kG3, kP3, kR3_0, kR3_1, kR3_2, kR3_3, kL4, kA4, kS4, kL5, kA5, kS5, kL6, kA6, kS6, kL7, kA7, kS7, kC8, kG8, kP8, kR8_0, kR8_1, kL9, kA9, kS9, kL10, kA10, kS10, kC11, kG11, kP11, kR11_0, kR11_1, kR11_2, kR11_3, kL12, kA12, kS12, kL13, kA13, kS13, kL14, kA14, kS14, kL15, kA15, kS15, kC16, kG16, kP16, kR16_0, kR16_1, kL17, kA17, kS17, kL18, kA18, kS18, kC19, kG19, kP19, kR19_0, kL20, kL141, kL146, kA146, kS146, kL151, kA151, kS151, kL156, kA156, kS156, kC157, kG157, kP157, kR157_0, kR157_1, kL158, kA158, kS158, kL159, kA159, kS159, kC161, kG161, kP161, kR161_0, kR161_1, kL162, kA162, kS162, kL163, kA163, kS163, kC165, kG165, kP165, kR165_0, kR165_1, kR165_2, kR165_3, kL166, kA166, kS166, kL167, kA167, kS167, kL168, kA168, kS168, kL169, kA169, kS169, kC170, kG170, kP170, kR170_0, kR170_1, kR170_2, kL171, kA171, kS171, kL172, kA172, kS172, kL173, kA173, kS173, kC174, kG174, kP174, kR174_0, kR174_1, kR174_2, kR174_3, kR174_4, kL175, kA175, kS175, kL176, kA176, kS176, kL177, kA177, kS177, kL178, kA178, kS178, kL179, kC180, kG180, kP180, kL181, kL182, kA182, kS182, kC183, kG183, kP183, kR183_1, kR183_3, kR183_5, kR183_6, kR183_7, kR183_8, kR183_9, kR183_21, kR183_26, kR183_27, kR183_30, kR183_31, kR183_33, kR183_34, kR183_36, kR183_37, kR183_38, kR183_39, kR183_40, kR183_41, kR183_42, kR183_43, kR183_44, kL184, kA184, kS184, kL185, kA185, kS185, kL186, kA186, kS186, kL187, kA187, kS187, kL188, kA188, kS188, kL189, kL190, kL191, kA191, kS191, kL192, kA192, kS192, kL193, kA193, kS193, kL194, kA194, kS194, kL195, kA195, kS195, kL196, kA196, kS196, kL197, kA197, kS197, kL198, kA198, kS198, kL199, kA199, kS199, kL200, kA200, kS200, kL201, kL202, kA202, kS202, kL203, kA203, kS203, kL204, kA204, kS204, kL205, kL206, kA206, kS206, states12_ok hS (hGc s), nn_le, show ¬ (gSt g ≤ s) by omega, sites_ok hS (hGc s), hlb, (hGc s).2.2.2.2.2.2.2.2.2.1, hen, e150', kv]
        rw [← nI_succ]
        show (if (if lW g F s = true then (1 : Int32) else 0) = 0 then _ else _) = _
        cases hl : lW g F s with
        | false => rw [if_pos (by decide), wyI_no hl]
        | true =>
          rw [if_neg (by decide)]
          have := wyI_yes (I := I) (W := 200) (d := 150) hl he he2
          rw [nI_succ]
          rw [← this]
          rfl
      · simp only [f_X12_laysMany_b21]
        simp (disch := first | assumption | omega) only [Option.bind_some, Option.map_some, xw_gR, xw_gN, xw_al, xw_ck, xw_uI, xw_ur, xup_at, xur_at, if_true, if_false, reduceIte, and_true, true_and, and_false, false_and, not_true_eq_false, not_false_eq_true, Nat.reduceEqDiff, eq_self, Nat.reduceAdd, Nat.reduceMul, kC1, kG1, kP1, kR1_0, kR1_1, kR1_2, kR1_3, kR1_4, kR1_5, kR1_6, kR1_7, kR1_8, kR1_9, kR1_10, kR1_11, kR1_12, kR1_13, kC2, kG2, kP2, kR2_0, kR2_1, kC3, kG3, kP3, kR3_0, kR3_1, kR3_2, kR3_3, kL4, kA4, kS4, kL5, kA5, kS5, kL6, kA6, kS6, kL7, kA7, kS7, kC8, kG8, kP8, kR8_0, kR8_1, kL9, kA9, kS9, kL10, kA10, kS10, kC11, kG11, kP11, kR11_0, kR11_1, kR11_2, kR11_3, kL12, kA12, kS12, kL13, kA13, kS13, kL14, kA14, kS14, kL15, kA15, kS15, kC16, kG16, kP16, kR16_0, kR16_1, kL17, kA17, kS17, kL18, kA18, kS18, kC19, kG19, kP19, kR19_0, kL20, kL141, kL146, kA146, kS146, kL151, kA151, kS151, kL156, kA156, kS156, kC157, kG157, kP157, kR157_0, kR157_1, kL158, kA158, kS158, kL159, kA159, kS159, kC161, kG161, kP161, kR161_0, kR161_1, kL162, kA162, kS162, kL163, kA163, kS163, kC165, kG165, kP165, kR165_0, kR165_1, kR165_2, kR165_3, kL166, kA166, kS166, kL167, kA167, kS167, kL168, kA168, kS168, kL169, kA169, kS169, kC170, kG170, kP170, kR170_0, kR170_1, kR170_2, kL171, kA171, kS171, kL172, kA172, kS172, kL173, kA173, kS173, kC174, kG174, kP174, kR174_0, kR174_1, kR174_2, kR174_3, kR174_4, kL175, kA175, kS175, kL176, kA176, kS176, kL177, kA177, kS177, kL178, kA178, kS178, kL179, kC180, kG180, kP180, kL181, kL182, kA182, kS182, kC183, kG183, kP183, kR183_1, kR183_3, kR183_5, kR183_6, kR183_7, kR183_8, kR183_9, kR183_21, kR183_26, kR183_27, kR183_30, kR183_31, kR183_33, kR183_34, kR183_36, kR183_37, kR183_38, kR183_39, kR183_40, kR183_41, kR183_42, kR183_43, kR183_44, kL184, kA184, kS184, kL185, kA185, kS185, kL186, kA186, kS186, kL187, kA187, kS187, kL188, kA188, kS188, kL189, kL190, kL191, kA191, kS191, kL192, kA192, kS192, kL193, kA193, kS193, kL194, kA194, kS194, kL195, kA195, kS195, kL196, kA196, kS196, kL197, kA197, kS197, kL198, kA198, kS198, kL199, kA199, kS199, kL200, kA200, kS200, kL201, kL202, kA202, kS202, kL203, kA203, kS203, kL204, kA204, kS204, kL205, kL206, kA206, kS206, states12_ok hS (hGc (gSt g)), nn_le, Nat.le_refl]
    rw [key]
    rfl
end HELD
end
section
/-! the ways of a held setup, kept -/
theorem heldWays_ok {n : Nat} {σ : XS} {g : GD} {gT gP : GH} {st i : Nat} (H : IV n σ g gT gP st) (hi : i < 3) (hfull : xI σ (142 + 5 * i) 2 = nI 1) : ∃ τ, f_X11_heldWays σ 1 (142 + 5 * i) = some (146 + 5 * i, τ) ∧ IV n τ g gT gP st ∧ WAY (xI τ) (146 + 5 * i) g (fun k => xI σ 194 (66 * i + k)) ∧ (∀ a k, (a < 142 ∨ (157 ≤ a ∧ a ≤ 160) ∨ (165 ≤ a ∧ a ≤ 169) ∨ (173 ≤ a ∧ a ≤ 206)) → xI τ a k = xI σ a k) ∧ RO g (fun k => xI σ 194 (66 * i + k)) := by
  have hS := H.shp
  have hG := H.grd
  have hg := hG.1
  have h16 := (gAll_b g hg).2.2.1
  obtain ⟨f, cc, s1, s2, s3, s4, s5, s6, s7⟩ := H.slt i hi
  have hf1 : f = 1 := by
    rw [s3, nn_eq (by omega) (by omega)] at hfull; exact hfull
  subst hf1
  obtain ⟨F, hF⟩ : ∃ F, F = fun k => xI σ 194 (66 * i + k) := ⟨_, rfl⟩
  have hLV := s6 rfl
  rw [← hF] at hLV ⊢
  have hSR := hLV.1
  have ho := hLV.2.1
  by_cases hc : cc = 1
  · subst hc
    refine ⟨σ, ?_, H, ?_, fun _ _ _ => rfl, ho⟩
    · show f_X11_heldWays (xw σ (xI σ)) 1 (142 + 5 * i) = _
      unfold f_X11_heldWays
      rw [slG hS hi, Option.bind_some, s5, if_neg (by decide), xw_gR, slR1 hS hi, Option.bind_some, xnz_ok (by omega)]
      rfl
    · have := s7 rfl rfl
      rw [hF]; exact this
  · have hc0 : cc = 0 := by omega
    subst hc0
    obtain ⟨c, b, hE, hb, hcn⟩ := H.en161
    have hEb := hE.b
    have hf := SR_fill hg hSR ho
    have K1 := suK1 hS (suA_s hi)
    have K2 := suK2 hS (suA_s hi)
    obtain ⟨τ, e1, hτ⟩ := fill11_ok (I := xI σ) (k := gSz g) hS hG hE hb hcn K1 K2 (by omega) (by omega) (by omega) (by omega) (by omega) (by omega) (Nat.le_refl _) hf.1 hf.2
    have HA := H.aside hE (fun a k h => rfl) hτ
    obtain ⟨hτS, ⟨c', b', hE', q1, q2, q3, q4, q5, q6, q7, q8, q9⟩, q10, q11, q12, q13⟩ := hτ
    have hEb' := hE'.b
    have h206 := hS.1
    have fr : ∀ a k, (a < 161 ∨ (165 ≤ a ∧ a ≤ 206)) → xI τ a k = xI σ a k := fun a k h => q9 a k (by omega) (by omega) (by omega)
    have hSRτ : SR g (xI τ) (143 + 5 * i) F := SR_m hg (fun k _ _ => fr _ k (by omega)) (fun k _ => fr _ k (by omega)) (fun k _ => fr _ k (by omega)) (fun k _ => rfl) hSR
    have KW : τ.1 (146 + 5 * i) = (20, 289) := by rw [xw_K hτS (by omega) (by omega) (by omega), (slK i hi).2.1]
    have cw := countWays_ok (σ := τ) (I := xI τ) (W := 146 + 5 * i) (a := 143 + 5 * i) hτS HA.grd ho hE' (Nat.pow_le_pow_right (by decide) q3) (fun s hs => by rw [q8 s hs, eP_all hg]) KW (suA_s hi) hSRτ (by omega) (by omega) (by omega)
    obtain ⟨Q, hQ⟩ : ∃ Q, Q = xup (wyI (xI τ) (146 + 5 * i) g F 144 289 (gSt g)) (142 + 5 * i) 3 1 := ⟨_, rfl⟩
    have uQ : ∀ a k, a ≠ 146 + 5 * i → ¬ (a = 142 + 5 * i ∧ k = 3) → Q a k = xI τ a k := fun a k h1 h2 => by rw [hQ, xup_at, if_neg h2, wyI_out h1]
    have hWay : WAY Q (146 + 5 * i) g F := fun k hk => by
      rw [hQ, xup_at, if_neg (by omega)]
      unfold wyI
      rw [if_pos ⟨rfl, hk⟩]
      rfl
    have hcells := HA.cells
    refine ⟨xw τ Q, ?_, ?_, hWay, fun a k h => ?_, ho⟩
    · show f_X11_heldWays (xw σ (xI σ)) 1 (142 + 5 * i) = _
      unfold f_X11_heldWays
      simp (disch := first | assumption | omega) only [Option.bind_some, Option.map_some, xw_gR, xw_gN, xw_al, xw_ck, xw_uI, xw_ur, xup_at, xur_at, if_true, if_false, reduceIte, and_true, true_and, and_false, false_and, not_true_eq_false, not_false_eq_true, Nat.reduceEqDiff, eq_self, Nat.reduceAdd, Nat.reduceMul, kC1, kG1, kP1, kR1_0, kR1_1, kR1_2, kR1_3, kR1_4, kR1_5, kR1_6, kR1_7, kR1_8, kR1_9, kR1_10, kR1_11, kR1_12, kR1_13, kC2, kG2, kP2, kR2_0, kR2_1, kC3, kG3, kP3, kR3_0, kR3_1, kR3_2, kR3_3, kL4, kA4, kS4, kL5, kA5, kS5, kL6, kA6, kS6, kL7, kA7, kS7, kC8, kG8, kP8, kR8_0, kR8_1, kL9, kA9, kS9, kL10, kA10, kS10, kC11, kG11, kP11, kR11_0, kR11_1, kR11_2, kR11_3, kL12, kA12, kS12, kL13, kA13, kS13, kL14, kA14, kS14, kL15, kA15, kS15, kC16, kG16, kP16, kR16_0, kR16_1, kL17, kA17, kS17, kL18, kA18, kS18, kC19, kG19, kP19, kR19_0, kL20, kL141, kL146, kA146, kS146, kL151, kA151, kS151, kL156, kA156, kS156, kC157, kG157, kP157, kR157_0, kR157_1, kL158, kA158, kS158, kL159, kA159, kS159, kC161, kG161, kP161, kR161_0, kR161_1, kL162, kA162, kS162, kL163, kA163, kS163, kC165, kG165, kP165, kR165_0, kR165_1, kR165_2, kR165_3, kL166, kA166, kS166, kL167, kA167, kS167, kL168, kA168, kS168, kL169, kA169, kS169, kC170, kG170, kP170, kR170_0, kR170_1, kR170_2, kL171, kA171, kS171, kL172, kA172, kS172, kL173, kA173, kS173, kC174, kG174, kP174, kR174_0, kR174_1, kR174_2, kR174_3, kR174_4, kL175, kA175, kS175, kL176, kA176, kS176, kL177, kA177, kS177, kL178, kA178, kS178, kL179, kC180, kG180, kP180, kL181, kL182, kA182, kS182, kC183, kG183, kP183, kR183_1, kR183_3, kR183_5, kR183_6, kR183_7, kR183_8, kR183_9, kR183_21, kR183_26, kR183_27, kR183_30, kR183_31, kR183_33, kR183_34, kR183_36, kR183_37, kR183_38, kR183_39, kR183_40, kR183_41, kR183_42, kR183_43, kR183_44, kL184, kA184, kS184, kL185, kA185, kS185, kL186, kA186, kS186, kL187, kA187, kS187, kL188, kA188, kS188, kL189, kL190, kL191, kA191, kS191, kL192, kA192, kS192, kL193, kA193, kS193, kL194, kA194, kS194, kL195, kA195, kS195, kL196, kA196, kS196, kL197, kA197, kS197, kL198, kA198, kS198, kL199, kA199, kS199, kL200, kA200, kS200, kL201, kL202, kA202, kS202, kL203, kA203, kS203, kL204, kA204, kS204, kL205, kL206, kA206, kS206, slG hS hi, s5, n00, slR0 hS hi, suR0 hS (suA_s hi), suR1 hS (suA_s hi), hG.2.2.2.2.1, e1]
      show f_X11_heldWays_j39 (xw τ (xI τ)) 1 (142 + 5 * i) = _
      unfold f_X11_heldWays_j39
      rw [xw_gR, slR1 hτS hi, Option.bind_some, xw_gR, kR1_7 hτS, Option.bind_some, xw_gR, slR0 hτS hi, Option.bind_some, xw_ck, kC1 hτS, Option.bind_some, cw, Option.bind_some, slP hτS hi, Option.bind_some, ← hQ, xw_gR, slR1 hτS hi, Option.bind_some, xnz_ok (by omega)]
      rfl
    · refine ⟨hτS, HA.stn, (uQ 1 15 (by omega) (by omega)).trans HA.sts, TAP_c (fun a k z => uQ a k (by unfold sTAP at z; omega) (by unfold sTAP at z; omega)) HA.tap, ?_, GRD_c (fun a k z => uQ a k (by unfold sGRD at z; omega) (by unfold sGRD at z; omega)) HA.grd, NOW_c hg (fun a k z => uQ a k (by unfold sNOW at z; omega) (by unfold sNOW at z; omega)) HA.now, PST_c hg (fun a k z => uQ a k (by unfold sPST at z; omega) (by unfold sPST at z; omega)) (Nat.le_refl _) (fun _ _ => rfl) (fun _ _ => rfl) HA.pst, ?_, CCH_c (fun a k z => by unfold sCCH at z; rw [xw_R] at z; exact uQ a k (by omega) (by omega)) (Nat.le_refl _) (fun _ _ => rfl) (fun _ _ => rfl) HA.cch, KNW_c hg (fun a k z => uQ a k (by unfold sKNW at z; omega) (by unfold sKNW at z; omega)) HA.knw, HA.cel⟩
      · show Q 1 14 = Q 183 16
        rw [uQ _ _ (by omega) (by omega), uQ _ _ (by omega) (by omega)]; exact HA.plc
      · intro j hj
        obtain ⟨f', c'', r1, r2, r3, r4, r5, r6, r7⟩ := HA.slt j hj
        rw [xw_I]
        by_cases hji : j = i
        · subst hji
          refine ⟨f', 1, r1, by decide, by rw [uQ _ _ (by omega) (by omega)]; exact r3, by rw [uQ _ _ (by omega) (by omega)]; exact r4, by rw [hQ, xup_at, if_pos ⟨rfl, rfl⟩]; rfl, fun hh => ?_, fun hh _ => ?_⟩
          · exact LV_m (I := xI τ) hg (fun k k1 k2 => uQ _ k (by omega) (by omega)) (fun k _ => uQ _ k (by omega) (by omega)) (fun k _ => uQ _ k (by omega) (by omega)) (fun k _ => uQ 194 _ (by omega) (by omega)) (Nat.le_refl _) (fun _ _ => rfl) (fun _ _ => rfl) (r6 hh)
          · refine WAY_c (I := Q) hg (fun k _ => rfl) (fun k _ => ?_) hWay
            rw [hF, uQ 194 _ (by omega) (by omega)]
            exact fr 194 _ (by omega)
        · refine ⟨f', c'', r1, r2, by rw [uQ _ _ (by omega) (by omega)]; exact r3, by rw [uQ _ _ (by omega) (by omega)]; exact r4, by rw [uQ _ _ (by omega) (by omega)]; exact r5, fun hh => ?_, fun hh h2 => ?_⟩
          · exact LV_m (I := xI τ) hg (fun k k1 k2 => uQ _ k (by omega) (by omega)) (fun k _ => uQ _ k (by omega) (by omega)) (fun k _ => uQ _ k (by omega) (by omega)) (fun k _ => uQ 194 _ (by omega) (by omega)) (Nat.le_refl _) (fun _ _ => rfl) (fun _ _ => rfl) (r6 hh)
          · exact WAY_c (I := xI τ) hg (fun k _ => uQ _ k (by omega) (by omega)) (fun k _ => uQ 194 _ (by omega) (by omega)) (r7 hh h2)
    · rw [xw_I, uQ a k (by omega) (by omega)]; exact fr a k (by omega)
end
section
/-! rows of longs; products of counts -/
def xl (σ : XS) (L : Nat → Nat → Int64) : XS := (σ.1, σ.2.1, L, σ.2.2.2)
theorem xl_Shp {σ : XS} {L : Nat → Nat → Int64} (h : Shp σ) : Shp (xl σ L) := h
theorem xl_aL {σ : XS} {L : Nat → Nat → Int64} {I : Nat → Nat → Int32} {a n i : Nat} (h : σ.1 a = (23, n)) (hi : i < n) (hn : n < 2147483648) : xaL (xw (xl σ L) I) a (nI i) = some (L a i) := xaL_ok (σ := xw (xl σ L) I) (n := n) (congrArg Prod.fst h) (congrArg Prod.snd h) hi hn
theorem xl_sL {σ : XS} {L : Nat → Nat → Int64} {I : Nat → Nat → Int32} {a n i : Nat} {v : Int64} (h : σ.1 a = (23, n)) (hi : i < n) (hn : n < 2147483648) : xsL (xw (xl σ L) I) a (nI i) v = some (xw (xl σ (xup L a i v)) I) := xsL_ok (σ := xw (xl σ L) I) (n := n) (congrArg Prod.fst h) (congrArg Prod.snd h) hi hn
theorem IV.longs {n : Nat} {σ : XS} {g : GD} {gT gP : GH} {st : Nat} {L : Nat → Nat → Int64} (H : IV n σ g gT gP st) (h : ∀ k, L 190 k = xL σ 190 k) : IV n (xl σ L) g gT gP st := by
  obtain ⟨a, b, h1, h2, h3, h4, h5, h6, h7, h8, h9, h10, h11, h12⟩ := H.cel
  exact ⟨H.shp, H.stn, H.sts, H.tap, H.plc, H.grd, H.now, H.pst, H.slt, H.cch, H.knw, a, b, h1, h2, h3, h4, h5, h6, h7, h8, h9, h10, h11, fun k hk => (h k).trans (h12 k hk)⟩
/-- the sum over a < A of m a * t (e - a), t having N places -/
def cv (m t : Nat → Nat) (N A e : Nat) : Nat := fb_sm (fun a => if a ≤ e ∧ e < a + N then m a * t (e - a) else 0) A
theorem cv_b {m t : Nat → Nat} (hm : ∀ a, m a ≤ 65536) (ht : ∀ a, t a ≤ 65536) (N A e : Nat) : cv m t N A e ≤ A * 4294967296 := by
  unfold cv
  refine fb_sm_bound (fun a _ => ?_)
  split
  · exact Nat.mul_le_mul (hm a) (ht (e - a))
  · exact Nat.zero_le _
theorem cv_s {m t : Nat → Nat} {N A e : Nat} : cv m t N (A + 1) e = cv m t N A e + (if A ≤ e ∧ e < A + N then m A * t (e - A) else 0) := rfl
theorem cv_shift {m t m' t' : Nat → Nat} (hm : ∀ a, a < 289 → m' (6 + a) = m a) (hm0 : ∀ a, a < 6 ∨ 295 ≤ a → m' a = 0) (ht : ∀ a, a < 289 → t' (6 + a) = t a) (ht0 : ∀ a, a < 6 ∨ 295 ≤ a → t' a = 0) {e : Nat} : cv m' t' 301 301 (12 + e) = cv m t 289 289 e := by
  unfold cv
  rw [show (301 : Nat) = 6 + 295 from rfl, fb_sm_split, show (295 : Nat) = 289 + 6 from rfl, fb_sm_split]
  have z1 : fb_sm (fun a => if a ≤ 12 + e ∧ 12 + e < a + (6 + (289 + 6)) then m' a * t' (12 + e - a) else 0) 6 = 0 := by
    have := fb_sm_cong (f := fun a => if a ≤ 12 + e ∧ 12 + e < a + (6 + (289 + 6)) then m' a * t' (12 + e - a) else 0) (g := fun _ => 0) (n := 6) (fun a ha => by
      show (if _ then _ else _) = 0
      rw [hm0 a (by omega)]; split <;> simp)
    rw [this, fb_sm_const]
  have z2 : fb_sm (fun k => (fun k => (fun a => if a ≤ 12 + e ∧ 12 + e < a + (6 + (289 + 6)) then m' a * t' (12 + e - a) else 0) (6 + k)) (289 + k)) 6 = 0 := by
    have := fb_sm_cong (f := fun k => (fun k => (fun a => if a ≤ 12 + e ∧ 12 + e < a + (6 + (289 + 6)) then m' a * t' (12 + e - a) else 0) (6 + k)) (289 + k)) (g := fun _ => 0) (n := 6) (fun a ha => by
      show (if _ then m' (6 + (289 + a)) * _ else _) = 0
      rw [hm0 (6 + (289 + a)) (by omega)]; split <;> simp)
    rw [this, fb_sm_const]
  rw [z1, z2, Nat.zero_add, Nat.add_zero]
  refine fb_sm_cong (fun a ha => ?_)
  show (if 6 + a ≤ 12 + e ∧ 12 + e < 6 + a + (6 + (289 + 6)) then m' (6 + a) * t' (12 + e - (6 + a)) else 0) = _
  rw [hm a ha]
  by_cases h1 : a ≤ e ∧ e < a + 289
  · rw [if_pos h1, if_pos (by omega), show 12 + e - (6 + a) = 6 + (e - a) by omega, ht (e - a) (by omega)]
  · rw [if_neg h1]
    split
    · rw [ht0 _ (by omega), Nat.mul_zero]
    · rfl
theorem cv_out {m t m' t' : Nat → Nat} (hm0 : ∀ a, a < 6 ∨ 295 ≤ a → m' a = 0) (ht0 : ∀ a, a < 6 ∨ 295 ≤ a → t' a = 0) {e : Nat} (he : e < 12 ∨ 589 ≤ e) : cv m' t' 301 301 e = 0 := by
  unfold cv
  have := fb_sm_cong (f := fun a => if a ≤ e ∧ e < a + 301 then m' a * t' (e - a) else 0) (g := fun _ => 0) (n := 301) (fun a ha => by
    show (if _ then _ else _) = 0
    split
    · by_cases h : a < 6 ∨ 295 ≤ a
      · rw [hm0 a h, Nat.zero_mul]
      · rw [ht0 (e - a) (by omega), Nat.mul_zero]
    · rfl)
  rw [this, fb_sm_const]
/-- the row of longs as it grows: all a < A, and b < B of a = A -/
def cvR (m t : Nat → Nat) (N A B e : Nat) : Nat := cv m t N A e + (if A ≤ e ∧ e < A + B then m A * t (e - A) else 0)
def lgL (L : Nat → Nat → Int64) (r n : Nat) (f : Nat → Nat) : Nat → Nat → Int64 := fun a k => if a = r ∧ k < n then lN (f k) else L a k
theorem lgL_out {L : Nat → Nat → Int64} {r n : Nat} {f : Nat → Nat} {a k : Nat} (h : a ≠ r) : lgL L r n f a k = L a k := by unfold lgL; rw [if_neg (fun z => h z.1)]
theorem lgL_in {L : Nat → Nat → Int64} {r n : Nat} {f : Nat → Nat} {k : Nat} (h : k < n) : lgL L r n f r k = lN (f k) := by unfold lgL; rw [if_pos ⟨rfl, h⟩]
theorem lgL_cong {L : Nat → Nat → Int64} {r n : Nat} {f f' : Nat → Nat} (h : ∀ k, k < n → f k = f' k) : lgL L r n f = lgL L r n f' := by
  funext a k
  unfold lgL
  by_cases z : a = r ∧ k < n
  · rw [if_pos z, if_pos z, h k z.2]
  · rw [if_neg z, if_neg z]
theorem lgL_s {L : Nat → Nat → Int64} {r n A B : Nat} {m t : Nat → Nat} {N : Nat} (h : A + B < n) : xup (lgL L r n (cvR m t N A B)) r (A + B) (lN (cvR m t N A B (A + B) + m A * t B)) = lgL L r n (cvR m t N A (B + 1)) := by
  funext a k
  show (if a = r ∧ k = A + B then _ else lgL L r n (cvR m t N A B) a k) = _
  unfold lgL
  by_cases h1 : a = r
  · subst h1
    by_cases h2 : k = A + B
    · subst h2
      rw [if_pos ⟨rfl, rfl⟩, if_pos ⟨rfl, h⟩]
      unfold cvR
      rw [if_neg (by omega), if_pos (by omega), show A + B - A = B by omega]
      rfl
    · rw [if_neg (fun z => h2 z.2)]
      by_cases h3 : k < n
      · rw [if_pos ⟨rfl, h3⟩, if_pos ⟨rfl, h3⟩]
        unfold cvR
        congr 2
        have : (A ≤ k ∧ k < A + B) ↔ (A ≤ k ∧ k < A + (B + 1)) := by omega
        simp only [this]
      · rw [if_neg (fun z => h3 z.2), if_neg (fun z => h3 z.2)]
  · rw [if_neg (fun z => h1 z.1), if_neg (fun z => h1 z.1), if_neg (fun z => h1 z.1)]
theorem cvR_0 {m t : Nat → Nat} {N A e : Nat} : cvR m t N A 0 e = cv m t N A e := by unfold cvR; rw [if_neg (by omega), Nat.add_zero]
theorem cvR_N {m t : Nat → Nat} {N A e : Nat} : cvR m t N A N e = cv m t N (A + 1) e := rfl
theorem cvR_z {m t : Nat → Nat} {N A e : Nat} (h : m A = 0) : cv m t N (A + 1) e = cv m t N A e := by
  rw [cv_s, h, Nat.zero_mul]
  split <;> rfl
end
section
/-! joined on the heap -/
section JOIN
variable {σ : XS} {I : Nat → Nat → Int32} {L : Nat → Nat → Int64} {m t : Nat → Nat}
theorem lgL_z {r j : Nat} : xup (lgL L r j (fun _ => 0)) r j (0 : Int64) = lgL L r (j + 1) (fun _ => 0) := by
  funext a k
  show (if a = r ∧ k = j then _ else lgL L r j (fun _ => 0) a k) = _
  unfold lgL
  by_cases h1 : a = r
  · subst h1
    by_cases h2 : k = j
    · subst h2; simp; rfl
    · have : (k < j + 1) ↔ (k < j) := by omega
      simp [h2, this]
  · simp [h1]
theorem lgL_00 {r : Nat} {f : Nat → Nat} : lgL L r 0 f = L := by
  funext a k
  unfold lgL
  rw [if_neg (by omega)]
theorem fillL_ok (K : σ.1 181 = (23, 577)) : f_J7_fill_d0a16 (xw (xl σ L) I) 181 (0 : Int64) = some (xw (xl σ (lgL L 181 577 (fun _ => 0))) I) := by
  unfold f_J7_fill_d0a16
  have hl : xal (xw (xl σ L) I) 181 = some (nI 577) := by
    rw [xal_ok (σ := xw (xl σ L) I) (by show 20 ≤ (σ.1 181).1 ∧ (σ.1 181).1 ≤ 25; rw [K]; decide)]
    show some (nI (σ.1 181).2) = _
    rw [K]
  rw [hl, Option.bind_some]
  refine xforE (fun j : Nat => (nI j, xw (xl σ (lgL L 181 j (fun _ => 0))) I)) 577 (by simp only [lgL_00]; rfl) (fun j hj => ?_) ?_
  · simp only [f_J7_fill_d0a16_b6]
    rw [if_neg (by rw [nn_le (by omega) (by omega)]; omega), xl_sL K hj (by decide), Option.bind_some, lgL_z, nI_succ]
  · simp only [f_J7_fill_d0a16_b6]
    rw [if_pos (by decide)]
    rfl
theorem mul_64 {a b c : Nat} (ha : a ≤ 65536) (hb : b ≤ 65536) (hc : c ≤ 4294967296000) : lN c + (nI a).toInt64 * (nI b).toInt64 = lN (c + a * b) := by
  have : a * b ≤ 4294967296 := by
    have := Nat.mul_le_mul ha hb
    omega
  rw [nI_i64 (by omega), nI_i64 (by omega), vL_mul (by omega) (by omega) (by omega), vL_add (by omega)]
theorem cvR_b (hm : ∀ a, m a ≤ 65536) (ht : ∀ a, t a ≤ 65536) {N A B e : Nat} (hA : A ≤ 900) : cvR m t N A B e ≤ 4294967296000 := by
  have h1 := cv_b hm ht N A e
  have h2 : m A * t (e - A) ≤ 4294967296 := by
    have := Nat.mul_le_mul (hm A) (ht (e - A))
    omega
  have h3 : A * 4294967296 ≤ 3865470566400 := by omega
  have h4 : cv m t N A e ≤ 3865470566400 := Nat.le_trans h1 h3
  unfold cvR
  generalize cv m t N A e = x at *
  generalize m A * t (e - A) = y at *
  by_cases h : A ≤ e ∧ e < A + B
  · rw [if_pos h]; omega
  · rw [if_neg h]; omega
theorem joinWays_l (hS : Shp σ) {W : Nat} (hW : σ.1 W = (20, 289)) (hm : ∀ a, m a ≤ 65536) (ht : ∀ a, t a ≤ 65536) (hv : ∀ k, k < 289 → I 166 k = nI (m k)) (hw : ∀ k, k < 289 → I W k = nI (t k)) :
    f_X11_joinWays_j13 (xw (xl σ L) I) 1 166 W = some (xw (xl σ (lgL L 181 577 (cv m t 289 289))) I) := by
  have K181 : σ.1 181 = (23, 577) := xw_K hS (by decide) (by decide) (by decide)
  have K166 : σ.1 166 = (20, 289) := xw_K hS (by decide) (by decide) (by decide)
  have r12 : ∀ L', xgR (xw (xl σ L') I) 1 11 12 = some 181 := fun L' => kR1_12 (σ := xl σ L') hS
  have lW : ∀ L', xal (xw (xl σ L') I) W = some (nI 289) := fun L' => by
    rw [xal_ok (σ := xw (xl σ L') I) (by show 20 ≤ (σ.1 W).1 ∧ (σ.1 W).1 ≤ 25; rw [hW]; decide)]
    show some (nI (σ.1 W).2) = _
    rw [hW]
  have l166 : ∀ L', xal (xw (xl σ L') I) 166 = some (nI 289) := fun L' => kL166 (σ := xl σ L') hS
  have l181 : ∀ L', xal (xw (xl σ L') I) 181 = some (nI 577) := fun L' => kL181 (σ := xl σ L') hS
  unfold f_X11_joinWays_j13
  rw [r12, Option.bind_some, fillL_ok K181, Option.bind_some]
  have e0 : lgL L 181 577 (fun _ => 0) = lgL L 181 577 (cv m t 289 0) := rfl
  rw [e0]
  refine xforE (fun A : Nat => (nI A, xw (xl σ (lgL L 181 577 (cv m t 289 A))) I)) 289 rfl (fun A hA => ?_) ?_
  · simp only [f_X11_joinWays_b25]
    rw [l166, Option.bind_some, if_neg (by rw [nn_le (by omega) (by omega)]; omega)]
    have a166 : ∀ L', xaI (xw (xl σ L') I) 20 166 (nI A) = some (nI (m A)) := fun L' => by
      rw [← hv A hA]; exact xw_aI (σ := xl σ L') K166 hA (by decide)
    by_cases hz : m A = 0
    · refine (xloop_end (b := (Sum.inl (nI (A + 1), xw (xl σ (lgL L 181 577 (cv m t 289 (A + 1)))) I))) ?_)
      simp only [f_X11_joinWays_b35]
      rw [a166, Option.bind_some, hz, if_pos (show nI 0 = 0 from rfl), ← nI_succ, lgL_cong (f' := cv m t 289 A) (fun k _ => cvR_z hz)]
      rfl
    · have hmA := hm A
      have e1 : lgL L 181 577 (cv m t 289 A) = lgL L 181 577 (cvR m t 289 A 0) := lgL_cong (fun k _ => cvR_0.symm)
      rw [e1]
      refine xforE (fun B : Nat => (nI B, xw (xl σ (lgL L 181 577 (cvR m t 289 A B))) I)) 289 rfl (fun B hB => ?_) ?_
      · simp only [f_X11_joinWays_b35]
        have aW : ∀ L', xaI (xw (xl σ L') I) 20 W (nI B) = some (nI (t B)) := fun L' => by
          rw [← hw B hB]; exact xw_aI (σ := xl σ L') hW hB (by decide)
        rw [a166, Option.bind_some, if_neg (nI_ne0 (by omega) (by omega)), lW, Option.bind_some, if_neg (by rw [nn_le (by omega) (by omega)]; omega), r12, Option.bind_some, l181, Option.bind_some, nn_add, if_neg (by rw [nn_le (by omega) (by omega)]; omega), Option.bind_some, xl_aL K181 (by omega) (by decide), Option.bind_some, Option.bind_some, aW, Option.bind_some, lgL_in (by omega), mul_64 hmA (ht B) (cvR_b hm ht (by omega)), xl_sL K181 (by omega) (by decide), Option.bind_some, lgL_s (by omega), ← nI_succ]
      · simp only [f_X11_joinWays_b35]
        rw [a166, Option.bind_some, if_neg (nI_ne0 (by omega) (by omega)), lW, Option.bind_some, if_pos (by rw [nn_le (by omega) (by omega)]; exact Nat.le_refl _), ← nI_succ]
        rfl
  · simp only [f_X11_joinWays_b25]
    rw [l166, Option.bind_some, if_pos (by decide)]
    rfl
/-- the model's two loops of products -/
theorem prod12 (hS : Shp σ) (hm : ∀ a, m a ≤ 65536) (ht : ∀ a, t a ≤ 65536) (hv : ∀ k, k < 301 → I 197 k = nI (m k)) (hw : ∀ k, k < 301 → I 200 k = nI (t k)) (x2 x3 : Int32) {z : Int64 × XS} (hz : xloop (f_X12_joined_b178 (xw (xl σ (lgL L 201 601 (cv m t 301 301))) I) 183 x2 x3) ((0 : Int32), (0 : Int32)) = some z) :
    xloop (f_X12_joined_b76 183 x2 x3) ((0 : Int32), xw (xl σ L) I) = some z := by
  have K201 : σ.1 201 = (23, 601) := xw_K hS (by decide) (by decide) (by decide)
  have K197 : σ.1 197 = (20, 301) := xw_K hS (by decide) (by decide) (by decide)
  have K200 : σ.1 200 = (20, 301) := xw_K hS (by decide) (by decide) (by decide)
  have r39 : ∀ L', xgR (xw (xl σ L') I) 183 12 39 = some 201 := fun L' => kR183_39 (σ := xl σ L') hS
  have r34 : ∀ L', xgR (xw (xl σ L') I) 183 12 34 = some 197 := fun L' => kR183_34 (σ := xl σ L') hS
  have r38 : ∀ L', xgR (xw (xl σ L') I) 183 12 38 = some 200 := fun L' => kR183_38 (σ := xl σ L') hS
  have prod : xloop (f_X12_joined_b101 183 x2 x3) ((0 : Int32), xw (xl σ (lgL L 201 601 (cv m t 301 0))) I) = some z := by
    refine xforE (fun A : Nat => (nI A, xw (xl σ (lgL L 201 601 (cv m t 301 A))) I)) 301 rfl (fun A hA => ?_) ?_
    · simp only [f_X12_joined_b101]
      rw [if_neg (by rw [show (301 : Int32) = nI 301 from rfl, nn_le (by omega) (by omega)]; omega)]
      have a197 : ∀ L', xaI (xw (xl σ L') I) 20 197 (nI A) = some (nI (m A)) := fun L' => by
        rw [← hv A hA]; exact xw_aI (σ := xl σ L') K197 hA (by decide)
      by_cases hz0 : m A = 0
      · refine (xloop_end (b := (Sum.inl (nI (A + 1), xw (xl σ (lgL L 201 601 (cv m t 301 (A + 1)))) I))) ?_)
        simp only [f_X12_joined_b112]
        rw [if_neg (by decide), r34, Option.bind_some, a197, Option.bind_some, hz0, if_pos (by decide), ← nI_succ, lgL_cong (f' := cv m t 301 A) (fun k _ => cvR_z hz0)]
        rfl
      · have hmA := hm A
        have e1 : lgL L 201 601 (cv m t 301 A) = lgL L 201 601 (cvR m t 301 A 0) := lgL_cong (fun k _ => cvR_0.symm)
        rw [e1]
        refine xforE (fun B : Nat => (nI B, xw (xl σ (lgL L 201 601 (cvR m t 301 A B))) I)) 301 rfl (fun B hB => ?_) ?_
        · simp only [f_X12_joined_b112]
          have a200 : ∀ L', xaI (xw (xl σ L') I) 20 200 (nI B) = some (nI (t B)) := fun L' => by
            rw [← hw B hB]; exact xw_aI (σ := xl σ L') K200 hB (by decide)
          rw [if_neg (by rw [show (301 : Int32) = nI 301 from rfl, nn_le (by omega) (by omega)]; omega), r34, Option.bind_some, a197, Option.bind_some, if_neg (nI_nle (by omega) (by omega)), r39, Option.bind_some, nn_add, xl_aL K201 (by omega) (by decide), Option.bind_some, Option.bind_some, a197, Option.bind_some, r38, Option.bind_some, a200, Option.bind_some, lgL_in (by omega), mul_64 hmA (ht B) (cvR_b hm ht (by omega)), xl_sL K201 (by omega) (by decide), Option.bind_some, lgL_s (by omega), ← nI_succ]
        · simp only [f_X12_joined_b112]
          rw [if_pos (by decide), ← nI_succ]
          rfl
    · simp only [f_X12_joined_b101]
      rw [if_pos (by decide), hz]
      rfl
  refine xforE (fun j : Nat => (nI j, xw (xl σ (lgL L 201 j (fun _ => 0))) I)) 601 (by simp only [lgL_00]; rfl) (fun j hj => ?_) ?_
  · simp only [f_X12_joined_b76]
    rw [if_neg (by rw [show (601 : Int32) = nI 601 from rfl, nn_le (by omega) (by omega)]; omega), r39, Option.bind_some, xl_sL K201 hj (by decide), Option.bind_some, lgL_z, nI_succ]
  · simp only [f_X12_joined_b76]
    rw [if_pos (by decide)]
    have e0 : lgL L 201 601 (fun _ => 0) = lgL L 201 601 (cv m t 301 0) := rfl
    rw [e0, prod]
    rfl
end JOIN
end
section
/-! the joined strip's levels -/
section JLEV
variable {σ : XS} {L : Nat → Nat → Int64} {I : Nat → Nat → Int32} {c : Nat → Nat}
def jP (c : Nat → Nat) (k : Nat) : Bool := decide (c k ≠ 0)
theorem lz0 {m : Nat} (h : m ≤ 4294967296000) : (lg_cmp (lN m) (0 : Int64) = 0) = (m = 0) := by
  rw [lg_cmp0, show (0 : Int64) = lN 0 from rfl, vL_eq (by omega) (by omega)]
theorem jP_f {k : Nat} (h : c k = 0) : fb_ct (jP c) (k + 1) = fb_ct (jP c) k := by
  rw [fb_ct_succ]; simp [jP, h]
theorem jP_t {k : Nat} (h : c k ≠ 0) : fb_ct (jP c) (k + 1) = fb_ct (jP c) k + 1 := by
  rw [fb_ct_succ]; simp [jP, h]
theorem jP_lt {k n : Nat} (hk : k < n) (h : c k ≠ 0) : fb_ct (jP c) k < fb_ct (jP c) n := by
  have := fb_ct_mono (jP c) (show k + 1 ≤ n by omega)
  rw [jP_t h] at this
  omega
theorem cjC (hS : Shp σ) (hL : ∀ k, k < 577 → L 181 k = lN (c k)) (hc : ∀ k, c k ≤ 4294967296000) : f_X11_countJoinedLevels (xw (xl σ L) I) 1 = some (nI (fb_ct (jP c) 577)) := by
  have K181 : σ.1 181 = (23, 577) := xw_K hS (by decide) (by decide) (by decide)
  have r12 : xgR (xw (xl σ L) I) 1 11 12 = some 181 := kR1_12 (σ := xl σ L) hS
  have l181 : xal (xw (xl σ L) I) 181 = some (nI 577) := kL181 (σ := xl σ L) hS
  unfold f_X11_countJoinedLevels
  refine xforE (fun j : Nat => (nI (fb_ct (jP c) j), nI j)) 577 rfl (fun j hj => ?_) ?_
  · simp only [f_X11_countJoinedLevels_b4, lz0, hc]
    rw [r12, Option.bind_some, l181, Option.bind_some, if_neg (by rw [nn_le (by omega) (by omega)]; omega), Option.bind_some, xl_aL K181 hj (by decide), Option.bind_some, hL j hj]
    simp only [lz0 (hc j)]
    by_cases h : c j = 0
    · rw [if_pos h, jP_f h, nI_succ]
    · rw [if_neg h, jP_t h, nI_succ, nI_succ]
  · simp only [f_X11_countJoinedLevels_b4]
    rw [r12, Option.bind_some, l181, Option.bind_some, if_pos (by decide)]
    rfl
theorem cjA (hS : Shp σ) (hL : ∀ k, k < 577 → L 181 k = lN (c k)) (hc : ∀ k, c k ≤ 4294967296000) {k : Nat} (hk : k < 577) (hp : c k ≠ 0) : f_X11_joinedLevelAt (xw (xl σ L) I) 1 (nI (fb_ct (jP c) k)) = some (nI k) := by
  have K181 : σ.1 181 = (23, 577) := xw_K hS (by decide) (by decide) (by decide)
  have r12 : xgR (xw (xl σ L) I) 1 11 12 = some 181 := kR1_12 (σ := xl σ L) hS
  have l181 : xal (xw (xl σ L) I) 181 = some (nI 577) := kL181 (σ := xl σ L) hS
  have hle := fb_ct_le (jP c) k
  unfold f_X11_joinedLevelAt
  refine xforE (fun j : Nat => (nI (fb_ct (jP c) j), nI j)) k rfl (fun j hj => ?_) ?_
  · simp only [f_X11_joinedLevelAt_b4]
    rw [r12, Option.bind_some, l181, Option.bind_some, if_neg (by rw [nn_le (by omega) (by omega)]; omega), Option.bind_some, xl_aL K181 (by omega) (by decide), Option.bind_some, hL j (by omega)]
    simp only [lz0 (hc j)]
    by_cases h : c j = 0
    · rw [if_pos h, jP_f h, nI_succ]
    · have h1 := jP_lt hj h
      have h2 := fb_ct_le (jP c) j
      rw [if_neg h, if_neg (by rw [nn_eq (by omega) (by omega)]; omega), jP_t h, nI_succ, nI_succ]
  · simp only [f_X11_joinedLevelAt_b4]
    rw [r12, Option.bind_some, l181, Option.bind_some, if_neg (by rw [nn_le (by omega) (by omega)]; omega), Option.bind_some, xl_aL K181 (by omega) (by decide), Option.bind_some, hL k hk]
    simp only [lz0 (hc k)]
    rw [if_neg hp, if_pos trivial]
    rfl
theorem cjN (hS : Shp σ) (hL : ∀ k, k < 577 → L 181 k = lN (c k)) (hc : ∀ k, c k ≤ 4294967296000) {x : Int32} (hx : ∀ i, i < fb_ct (jP c) 577 → x ≠ nI i) : f_X11_joinedLevelAt (xw (xl σ L) I) 1 x = some (-1) := by
  have K181 : σ.1 181 = (23, 577) := xw_K hS (by decide) (by decide) (by decide)
  have r12 : xgR (xw (xl σ L) I) 1 11 12 = some 181 := kR1_12 (σ := xl σ L) hS
  have l181 : xal (xw (xl σ L) I) 181 = some (nI 577) := kL181 (σ := xl σ L) hS
  unfold f_X11_joinedLevelAt
  refine xforE (fun j : Nat => (nI (fb_ct (jP c) j), nI j)) 577 rfl (fun j hj => ?_) ?_
  · simp only [f_X11_joinedLevelAt_b4]
    rw [r12, Option.bind_some, l181, Option.bind_some, if_neg (by rw [nn_le (by omega) (by omega)]; omega), Option.bind_some, xl_aL K181 (by omega) (by decide), Option.bind_some, hL j (by omega)]
    simp only [lz0 (hc j)]
    by_cases h : c j = 0
    · rw [if_pos h, jP_f h, nI_succ]
    · have h1 := hx _ (jP_lt hj h)
      rw [if_neg h, if_neg (fun z => h1 z.symm), jP_t h, nI_succ, nI_succ]
  · simp only [f_X11_joinedLevelAt_b4]
    rw [r12, Option.bind_some, l181, Option.bind_some, if_pos (by decide)]
    rfl
theorem mjN (hS : Shp σ) (hL : ∀ k, k < 601 → L 201 k = lN (c k)) (hc : ∀ k, c k ≤ 4294967296000) {x y : Int32} (hx : ∀ i, i < fb_ct (jP c) 601 → x ≠ nI i) : xloop (f_X12_joined_b178 (xw (xl σ L) I) 183 x y) ((0 : Int32), (0 : Int32)) = some ((if x = -1 then (nI (fb_ct (jP c) 601)).toInt64 else -100000), xw (xl σ L) I) := by
  have K201 : σ.1 201 = (23, 601) := xw_K hS (by decide) (by decide) (by decide)
  have r39 : xgR (xw (xl σ L) I) 183 12 39 = some 201 := kR183_39 (σ := xl σ L) hS
  refine xforE (fun j : Nat => (nI (fb_ct (jP c) j), nI j)) 601 rfl (fun j hj => ?_) ?_
  · simp only [f_X12_joined_b178]
    rw [if_neg (by rw [show (601 : Int32) = nI 601 from rfl, nn_le (by omega) (by omega)]; omega), r39, Option.bind_some, xl_aL K201 (by omega) (by decide), Option.bind_some, hL j (by omega)]
    simp only [lz0 (hc j)]
    by_cases h : c j = 0
    · rw [if_pos h, jP_f h, nI_succ]
    · have h1 := hx _ (jP_lt hj h)
      rw [if_neg h, if_neg (fun z => h1 z.symm), jP_t h, nI_succ, nI_succ]
  · simp only [f_X12_joined_b178]
    rw [if_pos (by decide)]
    by_cases h : x = -1
    · rw [if_pos h, if_pos h]; rfl
    · rw [if_neg h, if_neg h]; rfl
theorem mjA (hS : Shp σ) (hL : ∀ k, k < 601 → L 201 k = lN (c k)) (hc : ∀ k, c k ≤ 4294967296000) {y : Int32} {k : Nat} (hk : k < 601) (hp : c k ≠ 0) : xloop (f_X12_joined_b178 (xw (xl σ L) I) 183 (nI (fb_ct (jP c) k)) y) ((0 : Int32), (0 : Int32)) = some ((if y = 0 then (nI k - (300 : Int32)).toInt64 else if y = 1 then lN (c k) else -100000), xw (xl σ L) I) := by
  have K201 : σ.1 201 = (23, 601) := xw_K hS (by decide) (by decide) (by decide)
  have r39 : xgR (xw (xl σ L) I) 183 12 39 = some 201 := kR183_39 (σ := xl σ L) hS
  have hle := fb_ct_le (jP c) k
  refine xforE (fun j : Nat => (nI (fb_ct (jP c) j), nI j)) k rfl (fun j hj => ?_) ?_
  · simp only [f_X12_joined_b178]
    rw [if_neg (by rw [show (601 : Int32) = nI 601 from rfl, nn_le (by omega) (by omega)]; omega), r39, Option.bind_some, xl_aL K201 (by omega) (by decide), Option.bind_some, hL j (by omega)]
    simp only [lz0 (hc j)]
    by_cases h : c j = 0
    · rw [if_pos h, jP_f h, nI_succ]
    · have h1 := jP_lt hj h
      have h2 := fb_ct_le (jP c) j
      rw [if_neg h, if_neg (by rw [nn_eq (by omega) (by omega)]; omega), jP_t h, nI_succ, nI_succ]
  · simp only [f_X12_joined_b178]
    rw [if_neg (by rw [show (601 : Int32) = nI 601 from rfl, nn_le (by omega) (by omega)]; omega), r39, Option.bind_some, xl_aL K201 (by omega) (by decide), Option.bind_some, hL k hk]
    simp only [lz0 (hc k)]
    rw [if_neg hp, if_pos trivial]
    by_cases h : y = 0
    · rw [if_pos h, if_pos h]; rfl
    · rw [if_neg h, if_neg h]
      by_cases h1 : y = 1
      · rw [if_pos h1, if_pos h1, Option.bind_some, xl_aL K201 (by omega) (by decide), Option.bind_some, hL k hk]; rfl
      · rw [if_neg h1, if_neg h1]; rfl
theorem jP_shift {c c' : Nat → Nat} (h0 : ∀ e, e < 12 → c' e = 0) (h1 : ∀ e, c' (12 + e) = c e) : ∀ e, fb_ct (jP c') (12 + e) = fb_ct (jP c) e
  | 0 => by
    have : ∀ j, j ≤ 12 → fb_ct (jP c') j = 0 := by
      intro j
      induction j with
      | zero => intro _; rfl
      | succ j ih => intro h; rw [jP_f (h0 j (by omega)), ih (by omega)]
    exact this 12 (by omega)
  | e + 1 => by
    show fb_ct (jP c') ((12 + e) + 1) = _
    rw [fb_ct_succ, fb_ct_succ, jP_shift h0 h1 e]
    unfold jP
    rw [h1]
theorem jP_top {c' : Nat → Nat} (h0 : ∀ e, 589 ≤ e → c' e = 0) : fb_ct (jP c') 601 = fb_ct (jP c') 589 := by
  have : ∀ j, fb_ct (jP c') (589 + j) = fb_ct (jP c') 589 := by
    intro j
    induction j with
    | zero => rfl
    | succ j ih => rw [show 589 + (j + 1) = (589 + j) + 1 by omega, jP_f (h0 _ (by omega)), ih]
  exact this 12
end JLEV
/-- the model's copy of a held setup -/
theorem jcopy {σ : XS} {I : Nat → Nat → Int32} (hS : Shp σ) {i : Nat} (hi : i < 3) (x2 x3 : Int32) {z : Int64 × XS} {τ : XS} (h1 : f_X12_laysMany (xw σ (rcI I 199 0 194 (66 * i) 66)) 183 199 200 = some τ) (h2 : xloop (f_X12_joined_b76 183 x2 x3) ((0 : Int32), τ) = some z) : xloop (f_X12_joined_b29 183 (nI i) x2 x3) ((0 : Int32), xw σ I) = some z := by
  refine xforE (fun j : Nat => (nI j, xw σ (rcI I 199 0 194 (66 * i) j))) 66 (by simp only [rcI_0]; rfl) (fun j hj => ?_) ?_
  · simp only [f_X12_joined_b29]
    rw [if_neg (by rw [show (66 : Int32) = nI 66 from rfl, nn_le (by omega) (by omega)]; omega)]
    simp (disch := first | assumption | omega) only [Option.bind_some, Option.map_some, xw_gR, xw_gN, xw_al, xw_ck, xw_uI, xw_ur, xup_at, xur_at, if_true, if_false, reduceIte, and_true, true_and, and_false, false_and, not_true_eq_false, not_false_eq_true, Nat.reduceEqDiff, eq_self, Nat.reduceAdd, Nat.reduceMul, kC1, kG1, kP1, kR1_0, kR1_1, kR1_2, kR1_3, kR1_4, kR1_5, kR1_6, kR1_7, kR1_8, kR1_9, kR1_10, kR1_11, kR1_12, kR1_13, kC2, kG2, kP2, kR2_0, kR2_1, kC3, kG3, kP3, kR3_0, kR3_1, kR3_2, kR3_3, kL4, kA4, kS4, kL5, kA5, kS5, kL6, kA6, kS6, kL7, kA7, kS7, kC8, kG8, kP8, kR8_0, kR8_1, kL9, kA9, kS9, kL10, kA10, kS10, kC11, kG11, kP11, kR11_0, kR11_1, kR11_2, kR11_3, kL12, kA12, kS12, kL13, kA13, kS13, kL14, kA14, kS14, kL15, kA15, kS15, kC16, kG16, kP16, kR16_0, kR16_1, kL17, kA17, kS17, kL18, kA18, kS18, kC19, kG19, kP19, kR19_0, kL20, kL141, kL146, kA146, kS146, kL151, kA151, kS151, kL156, kA156, kS156, kC157, kG157, kP157, kR157_0, kR157_1, kL158, kA158, kS158, kL159, kA159, kS159, kC161, kG161, kP161, kR161_0, kR161_1, kL162, kA162, kS162, kL163, kA163, kS163, kC165, kG165, kP165, kR165_0, kR165_1, kR165_2, kR165_3, kL166, kA166, kS166, kL167, kA167, kS167, kL168, kA168, kS168, kL169, kA169, kS169, kC170, kG170, kP170, kR170_0, kR170_1, kR170_2, kL171, kA171, kS171, kL172, kA172, kS172, kL173, kA173, kS173, kC174, kG174, kP174, kR174_0, kR174_1, kR174_2, kR174_3, kR174_4, kL175, kA175, kS175, kL176, kA176, kS176, kL177, kA177, kS177, kL178, kA178, kS178, kL179, kC180, kG180, kP180, kL181, kL182, kA182, kS182, kC183, kG183, kP183, kR183_1, kR183_3, kR183_5, kR183_6, kR183_7, kR183_8, kR183_9, kR183_21, kR183_26, kR183_27, kR183_30, kR183_31, kR183_33, kR183_34, kR183_36, kR183_37, kR183_38, kR183_39, kR183_40, kR183_41, kR183_42, kR183_43, kR183_44, kL184, kA184, kS184, kL185, kA185, kS185, kL186, kA186, kS186, kL187, kA187, kS187, kL188, kA188, kS188, kL189, kL190, kL191, kA191, kS191, kL192, kA192, kS192, kL193, kA193, kS193, kL194, kA194, kS194, kL195, kA195, kS195, kL196, kA196, kS196, kL197, kA197, kS197, kL198, kA198, kS198, kL199, kA199, kS199, kL200, kA200, kS200, kL201, kL202, kA202, kS202, kL203, kA203, kS203, kL204, kA204, kS204, kL205, kL206, kA206, kS206, nn_add, nn_mul, show (66 : Int32) = nI 66 from rfl, rcI_src (show 194 ≠ 199 by decide)]
    have e := rcI_s (I := I) (d := 199) (x := 0) (s := 194) (y := 66 * i) (n := j)
    rw [Nat.zero_add] at e
    rw [e, nI_succ]
  · simp only [f_X12_joined_b29]
    rw [if_pos (by decide)]
    simp (disch := first | assumption | omega) only [Option.bind_some, Option.map_some, xw_gR, xw_gN, xw_al, xw_ck, xw_uI, xw_ur, xup_at, xur_at, if_true, if_false, reduceIte, and_true, true_and, and_false, false_and, not_true_eq_false, not_false_eq_true, Nat.reduceEqDiff, eq_self, Nat.reduceAdd, Nat.reduceMul, kC1, kG1, kP1, kR1_0, kR1_1, kR1_2, kR1_3, kR1_4, kR1_5, kR1_6, kR1_7, kR1_8, kR1_9, kR1_10, kR1_11, kR1_12, kR1_13, kC2, kG2, kP2, kR2_0, kR2_1, kC3, kG3, kP3, kR3_0, kR3_1, kR3_2, kR3_3, kL4, kA4, kS4, kL5, kA5, kS5, kL6, kA6, kS6, kL7, kA7, kS7, kC8, kG8, kP8, kR8_0, kR8_1, kL9, kA9, kS9, kL10, kA10, kS10, kC11, kG11, kP11, kR11_0, kR11_1, kR11_2, kR11_3, kL12, kA12, kS12, kL13, kA13, kS13, kL14, kA14, kS14, kL15, kA15, kS15, kC16, kG16, kP16, kR16_0, kR16_1, kL17, kA17, kS17, kL18, kA18, kS18, kC19, kG19, kP19, kR19_0, kL20, kL141, kL146, kA146, kS146, kL151, kA151, kS151, kL156, kA156, kS156, kC157, kG157, kP157, kR157_0, kR157_1, kL158, kA158, kS158, kL159, kA159, kS159, kC161, kG161, kP161, kR161_0, kR161_1, kL162, kA162, kS162, kL163, kA163, kS163, kC165, kG165, kP165, kR165_0, kR165_1, kR165_2, kR165_3, kL166, kA166, kS166, kL167, kA167, kS167, kL168, kA168, kS168, kL169, kA169, kS169, kC170, kG170, kP170, kR170_0, kR170_1, kR170_2, kL171, kA171, kS171, kL172, kA172, kS172, kL173, kA173, kS173, kC174, kG174, kP174, kR174_0, kR174_1, kR174_2, kR174_3, kR174_4, kL175, kA175, kS175, kL176, kA176, kS176, kL177, kA177, kS177, kL178, kA178, kS178, kL179, kC180, kG180, kP180, kL181, kL182, kA182, kS182, kC183, kG183, kP183, kR183_1, kR183_3, kR183_5, kR183_6, kR183_7, kR183_8, kR183_9, kR183_21, kR183_26, kR183_27, kR183_30, kR183_31, kR183_33, kR183_34, kR183_36, kR183_37, kR183_38, kR183_39, kR183_40, kR183_41, kR183_42, kR183_43, kR183_44, kL184, kA184, kS184, kL185, kA185, kS185, kL186, kA186, kS186, kL187, kA187, kS187, kL188, kA188, kS188, kL189, kL190, kL191, kA191, kS191, kL192, kA192, kS192, kL193, kA193, kS193, kL194, kA194, kS194, kL195, kA195, kS195, kL196, kA196, kS196, kL197, kA197, kS197, kL198, kA198, kS198, kL199, kA199, kS199, kL200, kA200, kS200, kL201, kL202, kA202, kS202, kL203, kA203, kS203, kL204, kA204, kS204, kL205, kL206, kA206, kS206, h1]
    rw [h2]
    rfl
theorem op_joined : Op_joined INV := by
  intro n σ hn ⟨g, gT, gP, st, H⟩ a b c
  have hS := H.shp
  by_cases hno : a < 0 ∨ 2 < a
  · refine ⟨-100000, σ, σ, ?_, ?_, INV_i H.nop⟩
    · show f_X11_joined (xw σ (xI σ)) 1 a b c = _
      unfold f_X11_joined
      simp (disch := first | assumption | omega) only [Option.bind_some, Option.map_some, xw_gR, xw_gN, xw_al, xw_ck, xw_uI, xw_ur, xup_at, xur_at, if_true, if_false, reduceIte, and_true, true_and, and_false, false_and, not_true_eq_false, not_false_eq_true, Nat.reduceEqDiff, eq_self, Nat.reduceAdd, Nat.reduceMul, kC1, kG1, kP1, kR1_0, kR1_1, kR1_2, kR1_3, kR1_4, kR1_5, kR1_6, kR1_7, kR1_8, kR1_9, kR1_10, kR1_11, kR1_12, kR1_13, kC2, kG2, kP2, kR2_0, kR2_1, kC3, kG3, kP3, kR3_0, kR3_1, kR3_2, kR3_3, kL4, kA4, kS4, kL5, kA5, kS5, kL6, kA6, kS6, kL7, kA7, kS7, kC8, kG8, kP8, kR8_0, kR8_1, kL9, kA9, kS9, kL10, kA10, kS10, kC11, kG11, kP11, kR11_0, kR11_1, kR11_2, kR11_3, kL12, kA12, kS12, kL13, kA13, kS13, kL14, kA14, kS14, kL15, kA15, kS15, kC16, kG16, kP16, kR16_0, kR16_1, kL17, kA17, kS17, kL18, kA18, kS18, kC19, kG19, kP19, kR19_0, kL20, kL141, kL146, kA146, kS146, kL151, kA151, kS151, kL156, kA156, kS156, kC157, kG157, kP157, kR157_0, kR157_1, kL158, kA158, kS158, kL159, kA159, kS159, kC161, kG161, kP161, kR161_0, kR161_1, kL162, kA162, kS162, kL163, kA163, kS163, kC165, kG165, kP165, kR165_0, kR165_1, kR165_2, kR165_3, kL166, kA166, kS166, kL167, kA167, kS167, kL168, kA168, kS168, kL169, kA169, kS169, kC170, kG170, kP170, kR170_0, kR170_1, kR170_2, kL171, kA171, kS171, kL172, kA172, kS172, kL173, kA173, kS173, kC174, kG174, kP174, kR174_0, kR174_1, kR174_2, kR174_3, kR174_4, kL175, kA175, kS175, kL176, kA176, kS176, kL177, kA177, kS177, kL178, kA178, kS178, kL179, kC180, kG180, kP180, kL181, kL182, kA182, kS182, kC183, kG183, kP183, kR183_1, kR183_3, kR183_5, kR183_6, kR183_7, kR183_8, kR183_9, kR183_21, kR183_26, kR183_27, kR183_30, kR183_31, kR183_33, kR183_34, kR183_36, kR183_37, kR183_38, kR183_39, kR183_40, kR183_41, kR183_42, kR183_43, kR183_44, kL184, kA184, kS184, kL185, kA185, kS185, kL186, kA186, kS186, kL187, kA187, kS187, kL188, kA188, kS188, kL189, kL190, kL191, kA191, kS191, kL192, kA192, kS192, kL193, kA193, kS193, kL194, kA194, kS194, kL195, kA195, kS195, kL196, kA196, kS196, kL197, kA197, kS197, kL198, kA198, kS198, kL199, kA199, kS199, kL200, kA200, kS200, kL201, kL202, kA202, kS202, kL203, kA203, kS203, kL204, kA204, kS204, kL205, kL206, kA206, kS206, slotAt_no hS hno]
      rfl
    · show f_X12_joined (xw σ (xI σ)) 183 a b c = _
      unfold f_X12_joined
      rw [in_02, if_pos hno]
      rfl
  obtain ⟨i, hi3, rfl⟩ : ∃ i, i < 3 ∧ a = nI i := by
    obtain ⟨i, hi, rfl⟩ := nn_of (fun z => hno (.inl z))
    refine ⟨i, ?_, rfl⟩
    have : ¬ (nI 2 < nI i) := fun z => hno (.inr z)
    rw [nn_lt (by omega) hi] at this
    omega
  have hz : (142 + 5 * i = 0) = False := eq_false (by omega)
  obtain ⟨f, cc, s1, s2, s3, s4, s5, s6, s7⟩ := H.slt i hi3
  rcases (show f = 0 ∨ f = 1 by omega) with rfl | rfl
  · refine ⟨-100000, σ, σ, ?_, ?_, INV_i H.nop⟩
    · show f_X11_joined (xw σ (xI σ)) 1 (nI i) b c = _
      unfold f_X11_joined
      simp (disch := first | assumption | omega) only [Option.bind_some, Option.map_some, xw_gR, xw_gN, xw_al, xw_ck, xw_uI, xw_ur, xup_at, xur_at, if_true, if_false, reduceIte, and_true, true_and, and_false, false_and, not_true_eq_false, not_false_eq_true, Nat.reduceEqDiff, eq_self, Nat.reduceAdd, Nat.reduceMul, kC1, kG1, kP1, kR1_0, kR1_1, kR1_2, kR1_3, kR1_4, kR1_5, kR1_6, kR1_7, kR1_8, kR1_9, kR1_10, kR1_11, kR1_12, kR1_13, kC2, kG2, kP2, kR2_0, kR2_1, kC3, kG3, kP3, kR3_0, kR3_1, kR3_2, kR3_3, kL4, kA4, kS4, kL5, kA5, kS5, kL6, kA6, kS6, kL7, kA7, kS7, kC8, kG8, kP8, kR8_0, kR8_1, kL9, kA9, kS9, kL10, kA10, kS10, kC11, kG11, kP11, kR11_0, kR11_1, kR11_2, kR11_3, kL12, kA12, kS12, kL13, kA13, kS13, kL14, kA14, kS14, kL15, kA15, kS15, kC16, kG16, kP16, kR16_0, kR16_1, kL17, kA17, kS17, kL18, kA18, kS18, kC19, kG19, kP19, kR19_0, kL20, kL141, kL146, kA146, kS146, kL151, kA151, kS151, kL156, kA156, kS156, kC157, kG157, kP157, kR157_0, kR157_1, kL158, kA158, kS158, kL159, kA159, kS159, kC161, kG161, kP161, kR161_0, kR161_1, kL162, kA162, kS162, kL163, kA163, kS163, kC165, kG165, kP165, kR165_0, kR165_1, kR165_2, kR165_3, kL166, kA166, kS166, kL167, kA167, kS167, kL168, kA168, kS168, kL169, kA169, kS169, kC170, kG170, kP170, kR170_0, kR170_1, kR170_2, kL171, kA171, kS171, kL172, kA172, kS172, kL173, kA173, kS173, kC174, kG174, kP174, kR174_0, kR174_1, kR174_2, kR174_3, kR174_4, kL175, kA175, kS175, kL176, kA176, kS176, kL177, kA177, kS177, kL178, kA178, kS178, kL179, kC180, kG180, kP180, kL181, kL182, kA182, kS182, kC183, kG183, kP183, kR183_1, kR183_3, kR183_5, kR183_6, kR183_7, kR183_8, kR183_9, kR183_21, kR183_26, kR183_27, kR183_30, kR183_31, kR183_33, kR183_34, kR183_36, kR183_37, kR183_38, kR183_39, kR183_40, kR183_41, kR183_42, kR183_43, kR183_44, kL184, kA184, kS184, kL185, kA185, kS185, kL186, kA186, kS186, kL187, kA187, kS187, kL188, kA188, kS188, kL189, kL190, kL191, kA191, kS191, kL192, kA192, kS192, kL193, kA193, kS193, kL194, kA194, kS194, kL195, kA195, kS195, kL196, kA196, kS196, kL197, kA197, kS197, kL198, kA198, kS198, kL199, kA199, kS199, kL200, kA200, kS200, kL201, kL202, kA202, kS202, kL203, kA203, kS203, kL204, kA204, kS204, kL205, kL206, kA206, kS206, slotAt_ok hS hi3, hz, slG hS hi3, s3, show (nI 0 = 0) = True from eq_true rfl]
      rfl
    · show f_X12_joined (xw σ (xI σ)) 183 (nI i) b c = _
      unfold f_X12_joined
      rw [in_02, if_neg hno]
      simp (disch := first | assumption | omega) only [Option.bind_some, Option.map_some, xw_gR, xw_gN, xw_al, xw_ck, xw_uI, xw_ur, xup_at, xur_at, if_true, if_false, reduceIte, and_true, true_and, and_false, false_and, not_true_eq_false, not_false_eq_true, Nat.reduceEqDiff, eq_self, Nat.reduceAdd, Nat.reduceMul, kC1, kG1, kP1, kR1_0, kR1_1, kR1_2, kR1_3, kR1_4, kR1_5, kR1_6, kR1_7, kR1_8, kR1_9, kR1_10, kR1_11, kR1_12, kR1_13, kC2, kG2, kP2, kR2_0, kR2_1, kC3, kG3, kP3, kR3_0, kR3_1, kR3_2, kR3_3, kL4, kA4, kS4, kL5, kA5, kS5, kL6, kA6, kS6, kL7, kA7, kS7, kC8, kG8, kP8, kR8_0, kR8_1, kL9, kA9, kS9, kL10, kA10, kS10, kC11, kG11, kP11, kR11_0, kR11_1, kR11_2, kR11_3, kL12, kA12, kS12, kL13, kA13, kS13, kL14, kA14, kS14, kL15, kA15, kS15, kC16, kG16, kP16, kR16_0, kR16_1, kL17, kA17, kS17, kL18, kA18, kS18, kC19, kG19, kP19, kR19_0, kL20, kL141, kL146, kA146, kS146, kL151, kA151, kS151, kL156, kA156, kS156, kC157, kG157, kP157, kR157_0, kR157_1, kL158, kA158, kS158, kL159, kA159, kS159, kC161, kG161, kP161, kR161_0, kR161_1, kL162, kA162, kS162, kL163, kA163, kS163, kC165, kG165, kP165, kR165_0, kR165_1, kR165_2, kR165_3, kL166, kA166, kS166, kL167, kA167, kS167, kL168, kA168, kS168, kL169, kA169, kS169, kC170, kG170, kP170, kR170_0, kR170_1, kR170_2, kL171, kA171, kS171, kL172, kA172, kS172, kL173, kA173, kS173, kC174, kG174, kP174, kR174_0, kR174_1, kR174_2, kR174_3, kR174_4, kL175, kA175, kS175, kL176, kA176, kS176, kL177, kA177, kS177, kL178, kA178, kS178, kL179, kC180, kG180, kP180, kL181, kL182, kA182, kS182, kC183, kG183, kP183, kR183_1, kR183_3, kR183_5, kR183_6, kR183_7, kR183_8, kR183_9, kR183_21, kR183_26, kR183_27, kR183_30, kR183_31, kR183_33, kR183_34, kR183_36, kR183_37, kR183_38, kR183_39, kR183_40, kR183_41, kR183_42, kR183_43, kR183_44, kL184, kA184, kS184, kL185, kA185, kS185, kL186, kA186, kS186, kL187, kA187, kS187, kL188, kA188, kS188, kL189, kL190, kL191, kA191, kS191, kL192, kA192, kS192, kL193, kA193, kS193, kL194, kA194, kS194, kL195, kA195, kS195, kL196, kA196, kS196, kL197, kA197, kS197, kL198, kA198, kS198, kL199, kA199, kS199, kL200, kA200, kS200, kL201, kL202, kA202, kS202, kL203, kA203, kS203, kL204, kA204, kS204, kL205, kL206, kA206, kS206, one0, s4, show (nI 0 = 0) = True from eq_true rfl]
      rfl
  obtain ⟨τ, e1, H1, -, L1, u1, -⟩ := levelsNow_ok (by omega) H
  have hf1 : xI τ (142 + 5 * i) 2 = nI 1 := by rw [u1 _ _ (by omega)]; exact s3
  obtain ⟨υ, e2, H2, W2, u2, ho⟩ := heldWays_ok H1 hi3 hf1
  have hS2 := H2.shp
  have hg := H2.grd.1
  have r191 : xI υ 191 = xI τ 191 := by funext k; exact u2 191 k (by omega)
  have r194 : ∀ k, xI υ 194 k = xI τ 194 k := fun k => u2 194 k (by omega)
  obtain ⟨F, hF⟩ : ∃ F, F = fun k => xI τ 194 (66 * i + k) := ⟨_, rfl⟩
  rw [← hF] at W2 ho
  have ho1 : RO g (xI τ 191) := H1.now.2.1
  obtain ⟨m, hm⟩ : ∃ m : Nat → Nat, m = fun k : Nat => lC g (xI τ 191) ((k : Int) - 144) := ⟨_, rfl⟩
  obtain ⟨t, ht⟩ : ∃ t : Nat → Nat, t = fun k : Nat => lC g F ((k : Int) - 144) := ⟨_, rfl⟩
  have hmb : ∀ k, m k ≤ 65536 := fun k => by rw [hm]; exact lC_b hg _ _
  have htb : ∀ k, t k ≤ 65536 := fun k => by rw [ht]; exact lC_b hg _ _
  have KW : υ.1 (146 + 5 * i) = (20, 289) := by rw [xw_K hS2 (by omega) (by omega) (by omega), (slK i hi3).2.1]
  have e3 := joinWays_l (σ := υ) (L := xL υ) (I := xI υ) hS2 KW hmb htb (fun k hk => by rw [u2 166 k (by omega), L1.1 k hk, hm]) (fun k hk => by rw [W2 k hk, ht])
  obtain ⟨C, hC⟩ : ∃ C : Nat → Nat, C = cv m t 289 289 := ⟨_, rfl⟩
  rw [← hC] at e3
  have hCb : ∀ k, C k ≤ 4294967296000 := fun k => by
    rw [hC]; have := cv_b hmb htb 289 289 k; omega
  obtain ⟨LL, hLL⟩ : ∃ LL, LL = lgL (xL υ) 181 577 C := ⟨_, rfl⟩
  rw [← hLL] at e3
  have hL1 : ∀ k, k < 577 → LL 181 k = lN (C k) := fun k hk => by rw [hLL]; exact lgL_in hk
  have H3 : IV n (xw (xl υ LL) (xI υ)) g gT gP st := H2.longs (fun k => by rw [hLL]; exact lgL_out (by decide))
  obtain ⟨I', e4, H4, K4, u4⟩ := knows_ok H3
  have A : f_X11_joined σ 1 (nI i) b c = f_X11_joined_j30 (xw (xl υ LL) (xI υ)) 1 b c := by
    show f_X11_joined (xw σ (xI σ)) 1 (nI i) b c = _
    unfold f_X11_joined
    have j1 : f_X11_joinWays σ 1 (142 + 5 * i) = some (xw (xl υ LL) (xI υ)) := by
      unfold f_X11_joinWays f_X11_joinWays_j4
      rw [xck_ok (sT1 hS), Option.bind_some, e1, Option.bind_some]
      dsimp only
      rw [xnz_ok (by decide), Option.bind_some, show xgR τ 165 4 0 = some 166 from kR165_0 H1.shp, Option.bind_some, xck_ok (sT1 H1.shp), Option.bind_some, e2, Option.bind_some]
      dsimp only
      rw [xnz_ok (by omega), Option.bind_some]
      exact e3
    rw [xw_ck, kC1 hS, Option.bind_some, slotAt_ok hS hi3, Option.bind_some, if_neg (by omega), slG hS hi3, Option.bind_some, s3, if_neg (by decide), Option.bind_some]
    show ((f_X11_joinWays σ 1 (142 + 5 * i)).bind _) = _
    rw [j1, Option.bind_some]
  obtain ⟨J, hJ⟩ : ∃ J, J = rcI I' 199 0 194 (66 * i) 66 := ⟨_, rfl⟩
  have uJ : ∀ a k, a ≠ 199 → J a k = I' a k := fun a k h => by rw [hJ, rcI_out (by omega)]
  have v4 : ∀ a k, (a < 183 ∨ 206 < a ∨ a = 184 ∨ a = 191 ∨ (193 ≤ a ∧ a ≤ 195) ∨ (a = 183 ∧ (k = 2 ∨ (16 ≤ k ∧ k ≤ 20) ∨ k = 28 ∨ k = 29))) → I' a k = xI υ a k := fun a k h => u4 a k (by omega) (by omega)
  have f199 : ∀ k, k < 66 → J 199 k = F k := fun k hk => by
    have := rcI_in (I := I') (d := 199) (x := 0) (s := 194) (y := 66 * i) (n := 66) hk
    rw [Nat.zero_add] at this
    rw [hJ, this, v4 _ _ (by omega), r194, hF]
  have f191 : ∀ k, I' 191 k = xI τ 191 k := fun k => by rw [v4 _ _ (by omega), r191]
  have hoF : RO g (J 199) := RO_congr hg f199 ho
  have hGJ : GRD J g := GRD_c (fun a k z => uJ a k (by unfold sGRD at z; omega)) H4.grd
  have l1 := laysMany_ok (σ := xl υ LL) (I := J) (F := J 199) hS2 hGJ hoF rfl
  obtain ⟨Q, hQ⟩ : ∃ Q, Q = wyI J 200 g (J 199) 150 301 (gSt g) := ⟨_, rfl⟩
  rw [← hQ] at l1
  have uQ : ∀ a k, a ≠ 200 → Q a k = J a k := fun a k h => by rw [hQ, wyI_out h]
  obtain ⟨m', hm'⟩ : ∃ m' : Nat → Nat, m' = fun k : Nat => lC g (xI τ 191) ((k : Int) - 150) := ⟨_, rfl⟩
  obtain ⟨t', ht'⟩ : ∃ t' : Nat → Nat, t' = fun k : Nat => lC g F ((k : Int) - 150) := ⟨_, rfl⟩
  have cF := (ct_congr hg (F := F) (F' := J 199) (fun k hk => f199 k (by omega))).2.2.2.1
  have cM := (ct_congr hg (F := xI τ 191) (F' := I' 191) (fun k hk => f191 k)).2.2.2.1
  have hmb' : ∀ k, m' k ≤ 65536 := fun k => by rw [hm']; exact lC_b hg _ _
  have htb' : ∀ k, t' k ≤ 65536 := fun k => by rw [ht']; exact lC_b hg _ _
  have q1 : ∀ k, k < 301 → Q 197 k = nI (m' k) := fun k hk => by
    rw [uQ _ _ (by omega), uJ _ _ (by omega), K4.2.1 k hk, hm', cM]
  have q2 : ∀ k, k < 301 → Q 200 k = nI (t' k) := fun k hk => by
    rw [hQ]; unfold wyI; rw [if_pos ⟨rfl, hk⟩, ht', ← cF]; rfl
  have m0 : ∀ a, a < 6 ∨ 295 ≤ a → m' a = 0 := fun a h => by rw [hm']; exact lC_big hg ho1 (e := (a : Int) - 150) (by omega)
  have t0 : ∀ a, a < 6 ∨ 295 ≤ a → t' a = 0 := fun a h => by rw [ht']; exact lC_big hg ho (e := (a : Int) - 150) (by omega)
  have m6 : ∀ a, a < 289 → m' (6 + a) = m a := fun a h => by rw [hm', hm]; dsimp only; congr 1; omega
  have t6 : ∀ a, a < 289 → t' (6 + a) = t a := fun a h => by rw [ht', ht]; dsimp only; congr 1; omega
  obtain ⟨C', hC'⟩ : ∃ C' : Nat → Nat, C' = cv m' t' 301 301 := ⟨_, rfl⟩
  have c1 : ∀ e, C' (12 + e) = C e := fun e => by rw [hC', hC]; exact cv_shift m6 m0 t6 t0
  have c2 : ∀ e, e < 12 → C' e = 0 := fun e h => by rw [hC']; exact cv_out (m := m) (t := t) m0 t0 (.inl h)
  have c3 : ∀ e, 589 ≤ e → C' e = 0 := fun e h => by rw [hC']; exact cv_out (m := m) (t := t) m0 t0 (.inr h)
  have cb : ∀ k, C' k ≤ 4294967296000 := fun k => by
    rw [hC']; have := cv_b hmb' htb' 301 301 k; omega
  obtain ⟨MM, hMM⟩ : ∃ MM, MM = lgL LL 201 601 C' := ⟨_, rfl⟩
  have hL2 : ∀ k, k < 601 → MM 201 k = lN (C' k) := fun k hk => by rw [hMM]; exact lgL_in hk
  have B : ∀ z, xloop (f_X12_joined_b178 (xw (xl υ MM) Q) 183 b c) ((0 : Int32), (0 : Int32)) = some z → f_X12_joined (xw (xl υ LL) (xI υ)) 183 (nI i) b c = some z := by
    intro z hz
    rw [hMM, hC'] at hz
    have p := prod12 (σ := υ) (L := LL) (I := Q) hS2 hmb' htb' q1 q2 b c hz
    have s4' : xI υ 195 i = nI 1 := by rw [u2 _ _ (by omega), u1 _ _ (by omega)]; exact s4
    rw [hJ] at l1
    have k := jcopy (σ := xl υ LL) (I := I') hS2 hi3 b c l1 p
    unfold f_X12_joined
    rw [in_02, if_neg hno, Option.bind_some, if_neg (by decide), show xgR (xw (xl υ LL) (xI υ)) 183 12 31 = some 195 from kR183_31 (σ := xl υ LL) hS2, Option.bind_some, show xaI (xw (xl υ LL) (xI υ)) 22 195 (nI i) = some (xI υ 195 i) from kA195 (σ := xl υ LL) hS2 (by omega), Option.bind_some, s4', if_neg (by decide), xck_ok (sT183 H3.shp), Option.bind_some, e4, Option.bind_some]
    exact k
  have HE : IV n (xw (xl υ MM) Q) g gT gP st := by
    have h5 : IV n (xw (xl υ MM) I') g gT gP st := (IV.longs (L := MM) H4 (fun k => by rw [hMM]; exact lgL_out (by decide)))
    refine h5.model (I' := Q) (fun a k h => ?_) (KNW_c hg (I := I') (fun a k q => ?_) h5.knw)
    · rw [uQ a k (by omega), uJ a k (by omega)]; rfl
    · rw [uQ a k (by unfold sKNW at q; omega), uJ a k (by unfold sKNW at q; omega)]
  have hN := jP_top c3
  rw [show 589 = 12 + 577 from rfl, jP_shift c2 c1] at hN
  by_cases hb : ∃ j, j < fb_ct (jP C) 577 ∧ b = nI j
  · obtain ⟨j, hj, rfl⟩ := hb
    obtain ⟨k, hk, hp, hki⟩ := fb_ct_kth hj
    have hle := fb_ct_le (jP C) 577
    have hp' : C k ≠ 0 := by unfold jP at hp; simpa using hp
    have hne : ¬ (nI j = (-1 : Int32)) := fun z => by
      have := congrArg Int32.toInt z
      rw [nI_toInt (by omega)] at this
      have e : (-1 : Int32).toInt = -1 := rfl
      omega
    have a1 := cjA (σ := υ) (L := LL) (I := xI υ) hS2 hL1 hCb hk hp'
    have a2 := mjA (σ := υ) (L := MM) (I := Q) (y := c) hS2 hL2 cb (k := 12 + k) (by omega) (by rw [c1]; exact hp')
    rw [jP_shift c2 c1, hki, c1] at a2
    rw [hki] at a1
    have e300 : nI (12 + k) - (300 : Int32) = nI k - (288 : Int32) := by
      rw [iI_n, iI_n, show (300 : Int32) = iI 300 from rfl, show (288 : Int32) = iI 288 from rfl, iI_sub, iI_sub]; congr 1; omega
    rw [e300] at a2
    refine ⟨_, xw (xl υ LL) (xI υ), _, ?_, B _ a2, INV_i HE.nop⟩
    rw [A]
    unfold f_X11_joined_j30
    rw [if_neg hne, xck_ok (sT1 H3.shp), Option.bind_some, a1, Option.bind_some, if_neg (nI_pos (by omega)), show xgR (xw (xl υ LL) (xI υ)) 1 11 12 = some 181 from kR1_12 (σ := xl υ LL) hS2, Option.bind_some, show xal (xw (xl υ LL) (xI υ)) 181 = some (nI 577) from kL181 (σ := xl υ LL) hS2, Option.bind_some, if_pos (by rw [nn_lt (by omega) (by omega)]; exact hk), Option.bind_some, xl_aL (xw_K hS2 (by decide) (by decide) (by decide)) hk (by decide), Option.bind_some, hL1 k hk]
    by_cases h : c = 0
    · rw [if_pos h, if_pos h]
    · rw [if_neg h, if_neg h]
      by_cases h1 : c = 1
      · rw [if_pos h1, if_pos h1]
      · rw [if_neg h1, if_neg h1]
  · have hb1 : ∀ j, j < fb_ct (jP C) 577 → b ≠ nI j := fun j h1 h2 => hb ⟨j, h1, h2⟩
    have a2 := mjN (σ := υ) (L := MM) (I := Q) (x := b) (y := c) hS2 hL2 cb (by rw [hN]; exact hb1)
    rw [hN] at a2
    refine ⟨_, xw (xl υ LL) (xI υ), _, ?_, B _ a2, INV_i HE.nop⟩
    rw [A]
    unfold f_X11_joined_j30
    by_cases h : b = -1
    · rw [if_pos h, if_pos h, xck_ok (sT1 H3.shp), Option.bind_some, cjC hS2 hL1 hCb]
      rfl
    · rw [if_neg h, if_neg h, xck_ok (sT1 H3.shp), Option.bind_some, cjN hS2 hL1 hCb hb1, Option.bind_some, if_pos (by decide)]
end
