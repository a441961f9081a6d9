/-! value -/
def vW (x : Nat) : Nat → Nat
  | 0 => 1
  | j + 1 => vW x j * x % 1000003
def vS (g : GD) (F : Nat → Int32) (x k0 : Nat) : Nat → Nat
  | 0 => 0
  | j + 1 => (vS g F x k0 j + lC g F (((k0 + j : Nat) : Int) - 144) * vW x j) % 1000003
theorem vW_b (x : Nat) : ∀ j, vW x j < 1000003
  | 0 => by show 1 < 1000003; decide
  | j + 1 => Nat.mod_lt _ (by decide)
theorem vS_b (g : GD) (F : Nat → Int32) (x k0 : Nat) : ∀ j, vS g F x k0 j < 1000003
  | 0 => by show 0 < 1000003; decide
  | j + 1 => Nat.mod_lt _ (by decide)
theorem vS_no {g : GD} {F : Nat → Int32} {x k0 j : Nat} (h : lvP g F (k0 + j) = false) : vS g F x k0 (j + 1) = vS g F x k0 j := by
  have : lC g F (((k0 + j : Nat) : Int) - 144) = 0 := by
    unfold lvP at h
    rw [decide_eq_false_iff_not] at h
    omega
  rw [vS, this, Nat.zero_mul, Nat.add_zero, Nat.mod_eq_of_lt (vS_b g F x k0 j)]
theorem vS_end {g : GD} {F : Nat → Int32} {x k0 j : Nat} (h : fb_ct (lvP g F) (k0 + j) = lvN g F) : ∀ m, k0 + j + m ≤ 289 → vS g F x k0 (j + m) = vS g F x k0 j := by
  intro m
  induction m with
  | zero => intro _; rfl
  | succ m ih =>
    intro hm
    rw [← ih (by omega)]
    apply vS_no
    cases hq : lvP g F (k0 + (j + m)) with
    | false => rfl
    | true =>
      have h1 := lvl_lt (g := g) (F := F) (k := k0 + (j + m)) (by omega) hq
      have h2 := fb_ct_mono (lvP g F) (show k0 + j ≤ k0 + (j + m) by omega)
      omega
section VAL
variable {σ : XS} {J : Nat → Nat → Int32} {g : GD} {F : Nat → Int32}
theorem mul_b {a b : Nat} (ha : a ≤ 65536) (hb : b < 1000003) : a * b ≤ 65536 * 1000003 := Nat.mul_le_mul ha (by omega)
theorem value11 (hS : Shp σ) (hg : g ∈ gAll) (hL : LVK J g F) {x k0 : Nat} (hx : x < 1000003) (hk : k0 < 289) : xloop (f_X11_value_b39 (xw σ J) (nI x) 165) ((0 : Int64), (1 : Int64), iI ((k0 : Int) - 144)) = some (nI (vS g F x k0 (289 - k0)), xw σ J) := by
  refine xforE (fun j : Nat => (lN (vS g F x k0 j), lN (vW x j), iI (((k0 + j : Nat) : Int) - 144))) (289 - k0) rfl (fun j hj => ?_) ?_
  · simp only [f_X11_value_b39]
    have hC := lC_b hg F (((k0 + j : Nat) : Int) - 144)
    have h1 := vS_b g F x k0 j
    have h2 := vW_b x j
    have h3 := mul_b hC h2
    have h4 : vW x j * x ≤ 1000003 * 1000003 := Nat.mul_le_mul (by omega) (by omega)
    rw [if_neg (by rw [show (144 : Int32) = iI 144 from rfl, iI_lt (by omega) (by omega) (by omega) (by omega)]; omega)]
    simp (disch := first | assumption | omega) only [Option.bind_some, Option.map_some, xw_gR, xw_gN, xw_al, xw_ck, xw_uI, xw_ur, xup_at, xur_at, if_true, if_false, reduceIte, and_true, true_and, and_false, false_and, not_true_eq_false, not_false_eq_true, Nat.reduceEqDiff, eq_self, Nat.reduceAdd, Nat.reduceMul, kC1, kG1, kP1, kR1_0, kR1_1, kR1_2, kR1_3, kR1_4, kR1_5, kR1_6, kR1_7, kR1_8, kR1_9, kR1_10, kR1_11, kR1_12, kR1_13, kC2, kG2, kP2, kR2_0, kR2_1, kC3, kG3, kP3, kR3_0, kR3_1, kR3_2, kR3_3, kL4, kA4, kS4, kL5, kA5, kS5, kL6, kA6, kS6, kL7, kA7, kS7, kC8, kG8, kP8, kR8_0, kR8_1, kL9, kA9, kS9, kL10, kA10, kS10, kC11, kG11, kP11, kR11_0, kR11_1, kR11_2, kR11_3, kL12, kA12, kS12, kL13, kA13, kS13, kL14, kA14, kS14, kL15, kA15, kS15, kC16, kG16, kP16, kR16_0, kR16_1, kL17, kA17, kS17, kL18, kA18, kS18, kC19, kG19, kP19, kR19_0, kL20, kL141, kL146, kA146, kS146, kL151, kA151, kS151, kL156, kA156, kS156, kC157, kG157, kP157, kR157_0, kR157_1, kL158, kA158, kS158, kL159, kA159, kS159, kC161, kG161, kP161, kR161_0, kR161_1, kL162, kA162, kS162, kL163, kA163, kS163, kC165, kG165, kP165, kR165_0, kR165_1, kR165_2, kR165_3, kL166, kA166, kS166, kL167, kA167, kS167, kL168, kA168, kS168, kL169, kA169, kS169, kC170, kG170, kP170, kR170_0, kR170_1, kR170_2, kL171, kA171, kS171, kL172, kA172, kS172, kL173, kA173, kS173, kC174, kG174, kP174, kR174_0, kR174_1, kR174_2, kR174_3, kR174_4, kL175, kA175, kS175, kL176, kA176, kS176, kL177, kA177, kS177, kL178, kA178, kS178, kL179, kC180, kG180, kP180, kL181, kL182, kA182, kS182, kC183, kG183, kP183, kR183_1, kR183_3, kR183_5, kR183_6, kR183_7, kR183_8, kR183_9, kR183_21, kR183_26, kR183_27, kR183_30, kR183_31, kR183_33, kR183_34, kR183_36, kR183_37, kR183_38, kR183_39, kR183_40, kR183_41, kR183_42, kR183_43, kR183_44, kL184, kA184, kS184, kL185, kA185, kS185, kL186, kA186, kS186, kL187, kA187, kS187, kL188, kA188, kS188, kL189, kL190, kL191, kA191, kS191, kL192, kA192, kS192, kL193, kA193, kS193, kL194, kA194, kS194, kL195, kA195, kS195, kL196, kA196, kS196, kL197, kA197, kS197, kL198, kA198, kS198, kL199, kA199, kS199, kL200, kA200, kS200, kL201, kL202, kA202, kS202, kL203, kA203, kS203, kL204, kA204, kS204, kL205, kL206, kA206, kS206, waysOf_ok hS hL (show k0 + j < 289 by omega), nI_i64]
    rw [vL_mul (by omega) (by omega) (by omega), vL_add (by omega), show (1000003 : Int64) = lN 1000003 from rfl, vL_rem (by omega) (by omega), vL_mul (by omega) (by omega) (by omega), vL_rem (by omega) (by omega), show (1 : Int32) = iI 1 from rfl, iI_add]
    show _ = some (Sum.inl (lN (vS g F x k0 (j + 1)), lN (vW x (j + 1)), iI (((k0 + (j + 1) : Nat) : Int) - 144)))
    rw [vS, vW]
    congr 5
    omega
  · simp only [f_X11_value_b39]
    have h1 := vS_b g F x k0 (289 - k0)
    rw [if_pos (by rw [show (144 : Int32) = iI 144 from rfl, iI_lt (by omega) (by omega) (by omega) (by omega)]; omega), vL_i32 (by omega)]
    rfl
theorem value12 (hS : Shp σ) (hg : g ∈ gAll) (hK : KNK J g F) {x k0 : Nat} (hx : x < 1000003) (hk : k0 < 289) (h0 : fb_ct (lvP g F) k0 = 0) : xloop (f_X12_value_b44 (xw σ J) 183 (nI x)) ((0 : Int64), (1 : Int64), (0 : Int32), iI ((k0 : Int) - 144)) = some (nI (vS g F x k0 (289 - k0)), xw σ J) := by
  have hlb := lvN_b g F
  obtain ⟨M, hM, hM1, hM2⟩ := fb_first (p := fun j => fb_ct (lvP g F) (k0 + j) = lvN g F) (n := 289 - k0 + 1) ⟨289 - k0, by omega, by rw [show k0 + (289 - k0) = 289 by omega]; rfl⟩
  have hend := vS_end (x := x) hM1 (289 - k0 - M) (by omega)
  rw [show M + (289 - k0 - M) = 289 - k0 by omega] at hend
  rw [hend]
  refine xforE (fun j : Nat => (lN (vS g F x k0 j), lN (vW x j), nI (fb_ct (lvP g F) (k0 + j)), iI (((k0 + j : Nat) : Int) - 144))) M ?_ (fun j hj => ?_) ?_
  · rw [show k0 + 0 = k0 from rfl, h0]; rfl
  · have hC := lC_b hg F (((k0 + j : Nat) : Int) - 144)
    have h1 := vS_b g F x k0 j
    have h2 := vW_b x j
    have h3 := mul_b hC h2
    have h4 : vW x j * x ≤ 1000003 * 1000003 := Nat.mul_le_mul (by omega) (by omega)
    have hlt : fb_ct (lvP g F) (k0 + j) < lvN g F := by
      have hne := hM2 j hj
      have := fb_ct_mono (lvP g F) (show k0 + j ≤ 289 by omega)
      have e : fb_ct (lvP g F) 289 = lvN g F := rfl
      omega
    obtain ⟨k', hk', hp', hki'⟩ := lvl_at hlt
    have q0 := hK.2.2.2 k' hk' hp'
    rw [hki'] at q0
    have hw : (lN (vW x j) * (nI x).toInt64) - (lN (vW x j) * (nI x).toInt64) / (1000003 : Int64) * (1000003 : Int64) = lN (vW x (j + 1)) := by
      rw [nI_i64 (by omega), vL_mul (by omega) (by omega) (by omega), show (1000003 : Int64) = lN 1000003 from rfl, vL_rem (by omega) (by omega), vW]
    have hnx : iI (((k0 + j : Nat) : Int) - 144) + (1 : Int32) = iI (((k0 + (j + 1) : Nat) : Int) - 144) := by
      rw [show (1 : Int32) = iI 1 from rfl, iI_add]; congr 1; omega
    have hcmp : (iI (((k0 + j : Nat) : Int) - 144) = iI ((k' : Int) - 144)) = (k0 + j = k') := by
      rw [iI_eq (by omega) (by omega) (by omega) (by omega)]
      apply propext; omega
    simp only [f_X12_value_b44]
    simp (disch := first | assumption | omega) only [Option.bind_some, Option.map_some, xw_gR, xw_gN, xw_al, xw_ck, xw_uI, xw_ur, xup_at, xur_at, if_true, if_false, reduceIte, and_true, true_and, and_false, false_and, not_true_eq_false, not_false_eq_true, Nat.reduceEqDiff, eq_self, Nat.reduceAdd, Nat.reduceMul, kC1, kG1, kP1, kR1_0, kR1_1, kR1_2, kR1_3, kR1_4, kR1_5, kR1_6, kR1_7, kR1_8, kR1_9, kR1_10, kR1_11, kR1_12, kR1_13, kC2, kG2, kP2, kR2_0, kR2_1, kC3, kG3, kP3, kR3_0, kR3_1, kR3_2, kR3_3, kL4, kA4, kS4, kL5, kA5, kS5, kL6, kA6, kS6, kL7, kA7, kS7, kC8, kG8, kP8, kR8_0, kR8_1, kL9, kA9, kS9, kL10, kA10, kS10, kC11, kG11, kP11, kR11_0, kR11_1, kR11_2, kR11_3, kL12, kA12, kS12, kL13, kA13, kS13, kL14, kA14, kS14, kL15, kA15, kS15, kC16, kG16, kP16, kR16_0, kR16_1, kL17, kA17, kS17, kL18, kA18, kS18, kC19, kG19, kP19, kR19_0, kL20, kL141, kL146, kA146, kS146, kL151, kA151, kS151, kL156, kA156, kS156, kC157, kG157, kP157, kR157_0, kR157_1, kL158, kA158, kS158, kL159, kA159, kS159, kC161, kG161, kP161, kR161_0, kR161_1, kL162, kA162, kS162, kL163, kA163, kS163, kC165, kG165, kP165, kR165_0, kR165_1, kR165_2, kR165_3, kL166, kA166, kS166, kL167, kA167, kS167, kL168, kA168, kS168, kL169, kA169, kS169, kC170, kG170, kP170, kR170_0, kR170_1, kR170_2, kL171, kA171, kS171, kL172, kA172, kS172, kL173, kA173, kS173, kC174, kG174, kP174, kR174_0, kR174_1, kR174_2, kR174_3, kR174_4, kL175, kA175, kS175, kL176, kA176, kS176, kL177, kA177, kS177, kL178, kA178, kS178, kL179, kC180, kG180, kP180, kL181, kL182, kA182, kS182, kC183, kG183, kP183, kR183_1, kR183_3, kR183_5, kR183_6, kR183_7, kR183_8, kR183_9, kR183_21, kR183_26, kR183_27, kR183_30, kR183_31, kR183_33, kR183_34, kR183_36, kR183_37, kR183_38, kR183_39, kR183_40, kR183_41, kR183_42, kR183_43, kR183_44, kL184, kA184, kS184, kL185, kA185, kS185, kL186, kA186, kS186, kL187, kA187, kS187, kL188, kA188, kS188, kL189, kL190, kL191, kA191, kS191, kL192, kA192, kS192, kL193, kA193, kS193, kL194, kA194, kS194, kL195, kA195, kS195, kL196, kA196, kS196, kL197, kA197, kS197, kL198, kA198, kS198, kL199, kA199, kS199, kL200, kA200, kS200, kL201, kL202, kA202, kS202, kL203, kA203, kS203, kL204, kA204, kS204, kL205, kL206, kA206, kS206, hK.2.2.1, nn_le, show ¬ (lvN g F ≤ fb_ct (lvP g F) (k0 + j)) by omega, q0, hcmp]
    by_cases hp : lvP g F (k0 + j) = true
    · have hkk : k0 + j = k' := fb_ct_kth_one hp hp' hki'.symm
      rw [if_pos hkk]
      have hm := many12 hK (show k0 + j < 289 by omega)
      simp (disch := first | assumption | omega) only [Option.bind_some, Option.map_some, xw_gR, xw_gN, xw_al, xw_ck, xw_uI, xw_ur, xup_at, xur_at, if_true, if_false, reduceIte, and_true, true_and, and_false, false_and, not_true_eq_false, not_false_eq_true, Nat.reduceEqDiff, eq_self, Nat.reduceAdd, Nat.reduceMul, kC1, kG1, kP1, kR1_0, kR1_1, kR1_2, kR1_3, kR1_4, kR1_5, kR1_6, kR1_7, kR1_8, kR1_9, kR1_10, kR1_11, kR1_12, kR1_13, kC2, kG2, kP2, kR2_0, kR2_1, kC3, kG3, kP3, kR3_0, kR3_1, kR3_2, kR3_3, kL4, kA4, kS4, kL5, kA5, kS5, kL6, kA6, kS6, kL7, kA7, kS7, kC8, kG8, kP8, kR8_0, kR8_1, kL9, kA9, kS9, kL10, kA10, kS10, kC11, kG11, kP11, kR11_0, kR11_1, kR11_2, kR11_3, kL12, kA12, kS12, kL13, kA13, kS13, kL14, kA14, kS14, kL15, kA15, kS15, kC16, kG16, kP16, kR16_0, kR16_1, kL17, kA17, kS17, kL18, kA18, kS18, kC19, kG19, kP19, kR19_0, kL20, kL141, kL146, kA146, kS146, kL151, kA151, kS151, kL156, kA156, kS156, kC157, kG157, kP157, kR157_0, kR157_1, kL158, kA158, kS158, kL159, kA159, kS159, kC161, kG161, kP161, kR161_0, kR161_1, kL162, kA162, kS162, kL163, kA163, kS163, kC165, kG165, kP165, kR165_0, kR165_1, kR165_2, kR165_3, kL166, kA166, kS166, kL167, kA167, kS167, kL168, kA168, kS168, kL169, kA169, kS169, kC170, kG170, kP170, kR170_0, kR170_1, kR170_2, kL171, kA171, kS171, kL172, kA172, kS172, kL173, kA173, kS173, kC174, kG174, kP174, kR174_0, kR174_1, kR174_2, kR174_3, kR174_4, kL175, kA175, kS175, kL176, kA176, kS176, kL177, kA177, kS177, kL178, kA178, kS178, kL179, kC180, kG180, kP180, kL181, kL182, kA182, kS182, kC183, kG183, kP183, kR183_1, kR183_3, kR183_5, kR183_6, kR183_7, kR183_8, kR183_9, kR183_21, kR183_26, kR183_27, kR183_30, kR183_31, kR183_33, kR183_34, kR183_36, kR183_37, kR183_38, kR183_39, kR183_40, kR183_41, kR183_42, kR183_43, kR183_44, kL184, kA184, kS184, kL185, kA185, kS185, kL186, kA186, kS186, kL187, kA187, kS187, kL188, kA188, kS188, kL189, kL190, kL191, kA191, kS191, kL192, kA192, kS192, kL193, kA193, kS193, kL194, kA194, kS194, kL195, kA195, kS195, kL196, kA196, kS196, kL197, kA197, kS197, kL198, kA198, kS198, kL199, kA199, kS199, kL200, kA200, kS200, kL201, kL202, kA202, kS202, kL203, kA203, kS203, kL204, kA204, kS204, kL205, kL206, kA206, kS206, e150, hm, nI_i64]
      unfold f_X12_value_j90
      rw [hw, hnx, vL_mul (by omega) (by omega) (by rw [Nat.mul_comm]; omega), vL_add (by rw [Nat.mul_comm]; omega), show (1000003 : Int64) = lN 1000003 from rfl, vL_rem (by rw [Nat.mul_comm]; omega) (by omega)]
      have e1 : vS g F x k0 (j + 1) = (vS g F x k0 j + vW x j * lC g F (((k0 + j : Nat) : Int) - 144)) % 1000003 := by rw [vS, Nat.mul_comm]
      have e2 : fb_ct (lvP g F) (k0 + (j + 1)) = fb_ct (lvP g F) (k0 + j) + 1 := by
        show fb_ct (lvP g F) (k0 + j + 1) = _
        rw [fb_ct_succ, hp]; rfl
      rw [e1, e2, nI_succ]
    · have hp : lvP g F (k0 + j) = false := Bool.not_eq_true _ ▸ hp
      have hkk : ¬ (k0 + j = k') := fun z => by rw [z, hp'] at hp; cases hp
      rw [if_neg hkk]
      unfold f_X12_value_j90
      have e2 : fb_ct (lvP g F) (k0 + (j + 1)) = fb_ct (lvP g F) (k0 + j) := by
        show fb_ct (lvP g F) (k0 + j + 1) = _
        rw [fb_ct_succ, hp]; rfl
      rw [hw, hnx, vS_no hp, e2]
  · simp only [f_X12_value_b44]
    have h1 := vS_b g F x k0 M
    simp (disch := first | assumption | omega) only [Option.bind_some, Option.map_some, xw_gR, xw_gN, xw_al, xw_ck, xw_uI, xw_ur, xup_at, xur_at, if_true, if_false, reduceIte, and_true, true_and, and_false, false_and, not_true_eq_false, not_false_eq_true, Nat.reduceEqDiff, eq_self, Nat.reduceAdd, Nat.reduceMul, kC1, kG1, kP1, kR1_0, kR1_1, kR1_2, kR1_3, kR1_4, kR1_5, kR1_6, kR1_7, kR1_8, kR1_9, kR1_10, kR1_11, kR1_12, kR1_13, kC2, kG2, kP2, kR2_0, kR2_1, kC3, kG3, kP3, kR3_0, kR3_1, kR3_2, kR3_3, kL4, kA4, kS4, kL5, kA5, kS5, kL6, kA6, kS6, kL7, kA7, kS7, kC8, kG8, kP8, kR8_0, kR8_1, kL9, kA9, kS9, kL10, kA10, kS10, kC11, kG11, kP11, kR11_0, kR11_1, kR11_2, kR11_3, kL12, kA12, kS12, kL13, kA13, kS13, kL14, kA14, kS14, kL15, kA15, kS15, kC16, kG16, kP16, kR16_0, kR16_1, kL17, kA17, kS17, kL18, kA18, kS18, kC19, kG19, kP19, kR19_0, kL20, kL141, kL146, kA146, kS146, kL151, kA151, kS151, kL156, kA156, kS156, kC157, kG157, kP157, kR157_0, kR157_1, kL158, kA158, kS158, kL159, kA159, kS159, kC161, kG161, kP161, kR161_0, kR161_1, kL162, kA162, kS162, kL163, kA163, kS163, kC165, kG165, kP165, kR165_0, kR165_1, kR165_2, kR165_3, kL166, kA166, kS166, kL167, kA167, kS167, kL168, kA168, kS168, kL169, kA169, kS169, kC170, kG170, kP170, kR170_0, kR170_1, kR170_2, kL171, kA171, kS171, kL172, kA172, kS172, kL173, kA173, kS173, kC174, kG174, kP174, kR174_0, kR174_1, kR174_2, kR174_3, kR174_4, kL175, kA175, kS175, kL176, kA176, kS176, kL177, kA177, kS177, kL178, kA178, kS178, kL179, kC180, kG180, kP180, kL181, kL182, kA182, kS182, kC183, kG183, kP183, kR183_1, kR183_3, kR183_5, kR183_6, kR183_7, kR183_8, kR183_9, kR183_21, kR183_26, kR183_27, kR183_30, kR183_31, kR183_33, kR183_34, kR183_36, kR183_37, kR183_38, kR183_39, kR183_40, kR183_41, kR183_42, kR183_43, kR183_44, kL184, kA184, kS184, kL185, kA185, kS185, kL186, kA186, kS186, kL187, kA187, kS187, kL188, kA188, kS188, kL189, kL190, kL191, kA191, kS191, kL192, kA192, kS192, kL193, kA193, kS193, kL194, kA194, kS194, kL195, kA195, kS195, kL196, kA196, kS196, kL197, kA197, kS197, kL198, kA198, kS198, kL199, kA199, kS199, kL200, kA200, kS200, kL201, kL202, kA202, kS202, kL203, kA203, kS203, kL204, kA204, kS204, kL205, kL206, kA206, kS206, hK.2.2.1, nn_le, hM1, Nat.le_refl, vL_i32]
end VAL
theorem op_value : Op_value INV := by
  intro n σ hn ⟨g, gT, gP, st, H⟩ x
  have inP : f_X12_in x 0 1000002 = some (if x < 0 ∨ 1000002 < x then 0 else 1) := by
    unfold f_X12_in
    by_cases h1 : x < 0
    · simp [h1]
    · by_cases h2 : (1000002 : Int32) < x <;> simp [h1, h2]
  by_cases hx0 : x < 0
  · refine ⟨-1, σ, σ, ?_, ?_, g, gT, gP, st, H.nop⟩
    · unfold f_X11_value; rw [if_pos hx0]
    · unfold f_X12_value; rw [inP, if_pos (.inl hx0)]; rfl
  obtain ⟨y, hy, rfl⟩ := nn_of hx0
  by_cases hyP : y < 1000003
  · obtain ⟨τ, I', e1, e2, H1, H2, hS, hG1, hG2, ho, hSR, hE, hL, hK, r1, r2, u1, u2⟩ := both_ready (by omega) H
    have hg := hG1.1
    have hlb := lvN_b g (xI σ 191)
    have A : f_X11_value σ 1 (nI y) = f_X11_value_j17 (xw τ (xI τ)) (nI y) 165 := by
      unfold f_X11_value
      rw [if_neg hx0, if_pos (by rw [show (1000003 : Int32) = nI 1000003 from rfl, nn_lt (by omega) (by omega)]; exact hyP), xck_ok (sT1 H.shp), Option.bind_some, e1, Option.bind_some]
      dsimp only
      rw [xnz_ok (by decide), Option.bind_some]
      rfl
    have hin : ¬ (nI y < 0 ∨ 1000002 < nI y) := by
      rintro (z | z)
      · exact hx0 z
      · rw [show (1000002 : Int32) = nI 1000002 from rfl, nn_lt (by omega) (by omega)] at z; omega
    by_cases h0 : lvN g (xI σ 191) = 0
    · refine ⟨0, τ, xw τ I', ?_, ?_, INV_i H2.nop⟩
      · rw [A]
        unfold f_X11_value_j17
        simp (disch := first | assumption | omega) only [Option.bind_some, Option.map_some, xw_gR, xw_gN, xw_al, xw_ck, xw_uI, xw_ur, xup_at, xur_at, if_true, if_false, reduceIte, and_true, true_and, and_false, false_and, not_true_eq_false, not_false_eq_true, Nat.reduceEqDiff, eq_self, Nat.reduceAdd, Nat.reduceMul, kC1, kG1, kP1, kR1_0, kR1_1, kR1_2, kR1_3, kR1_4, kR1_5, kR1_6, kR1_7, kR1_8, kR1_9, kR1_10, kR1_11, kR1_12, kR1_13, kC2, kG2, kP2, kR2_0, kR2_1, kC3, kG3, kP3, kR3_0, kR3_1, kR3_2, kR3_3, kL4, kA4, kS4, kL5, kA5, kS5, kL6, kA6, kS6, kL7, kA7, kS7, kC8, kG8, kP8, kR8_0, kR8_1, kL9, kA9, kS9, kL10, kA10, kS10, kC11, kG11, kP11, kR11_0, kR11_1, kR11_2, kR11_3, kL12, kA12, kS12, kL13, kA13, kS13, kL14, kA14, kS14, kL15, kA15, kS15, kC16, kG16, kP16, kR16_0, kR16_1, kL17, kA17, kS17, kL18, kA18, kS18, kC19, kG19, kP19, kR19_0, kL20, kL141, kL146, kA146, kS146, kL151, kA151, kS151, kL156, kA156, kS156, kC157, kG157, kP157, kR157_0, kR157_1, kL158, kA158, kS158, kL159, kA159, kS159, kC161, kG161, kP161, kR161_0, kR161_1, kL162, kA162, kS162, kL163, kA163, kS163, kC165, kG165, kP165, kR165_0, kR165_1, kR165_2, kR165_3, kL166, kA166, kS166, kL167, kA167, kS167, kL168, kA168, kS168, kL169, kA169, kS169, kC170, kG170, kP170, kR170_0, kR170_1, kR170_2, kL171, kA171, kS171, kL172, kA172, kS172, kL173, kA173, kS173, kC174, kG174, kP174, kR174_0, kR174_1, kR174_2, kR174_3, kR174_4, kL175, kA175, kS175, kL176, kA176, kS176, kL177, kA177, kS177, kL178, kA178, kS178, kL179, kC180, kG180, kP180, kL181, kL182, kA182, kS182, kC183, kG183, kP183, kR183_1, kR183_3, kR183_5, kR183_6, kR183_7, kR183_8, kR183_9, kR183_21, kR183_26, kR183_27, kR183_30, kR183_31, kR183_33, kR183_34, kR183_36, kR183_37, kR183_38, kR183_39, kR183_40, kR183_41, kR183_42, kR183_43, kR183_44, kL184, kA184, kS184, kL185, kA185, kS185, kL186, kA186, kS186, kL187, kA187, kS187, kL188, kA188, kS188, kL189, kL190, kL191, kA191, kS191, kL192, kA192, kS192, kL193, kA193, kS193, kL194, kA194, kS194, kL195, kA195, kS195, kL196, kA196, kS196, kL197, kA197, kS197, kL198, kA198, kS198, kL199, kA199, kS199, kL200, kA200, kS200, kL201, kL202, kA202, kS202, kL203, kA203, kS203, kL204, kA204, kS204, kL205, kL206, kA206, kS206, hL.2.2.2.1, h0, show (nI 0 = 0) = True from eq_true rfl]
        rfl
      · unfold f_X12_value
        rw [inP, if_neg hin, Option.bind_some, if_neg (by decide), xck_ok (sT183 hS), Option.bind_some, e2, Option.bind_some]
        simp (disch := first | assumption | omega) only [Option.bind_some, Option.map_some, xw_gR, xw_gN, xw_al, xw_ck, xw_uI, xw_ur, xup_at, xur_at, if_true, if_false, reduceIte, and_true, true_and, and_false, false_and, not_true_eq_false, not_false_eq_true, Nat.reduceEqDiff, eq_self, Nat.reduceAdd, Nat.reduceMul, kC1, kG1, kP1, kR1_0, kR1_1, kR1_2, kR1_3, kR1_4, kR1_5, kR1_6, kR1_7, kR1_8, kR1_9, kR1_10, kR1_11, kR1_12, kR1_13, kC2, kG2, kP2, kR2_0, kR2_1, kC3, kG3, kP3, kR3_0, kR3_1, kR3_2, kR3_3, kL4, kA4, kS4, kL5, kA5, kS5, kL6, kA6, kS6, kL7, kA7, kS7, kC8, kG8, kP8, kR8_0, kR8_1, kL9, kA9, kS9, kL10, kA10, kS10, kC11, kG11, kP11, kR11_0, kR11_1, kR11_2, kR11_3, kL12, kA12, kS12, kL13, kA13, kS13, kL14, kA14, kS14, kL15, kA15, kS15, kC16, kG16, kP16, kR16_0, kR16_1, kL17, kA17, kS17, kL18, kA18, kS18, kC19, kG19, kP19, kR19_0, kL20, kL141, kL146, kA146, kS146, kL151, kA151, kS151, kL156, kA156, kS156, kC157, kG157, kP157, kR157_0, kR157_1, kL158, kA158, kS158, kL159, kA159, kS159, kC161, kG161, kP161, kR161_0, kR161_1, kL162, kA162, kS162, kL163, kA163, kS163, kC165, kG165, kP165, kR165_0, kR165_1, kR165_2, kR165_3, kL166, kA166, kS166, kL167, kA167, kS167, kL168, kA168, kS168, kL169, kA169, kS169, kC170, kG170, kP170, kR170_0, kR170_1, kR170_2, kL171, kA171, kS171, kL172, kA172, kS172, kL173, kA173, kS173, kC174, kG174, kP174, kR174_0, kR174_1, kR174_2, kR174_3, kR174_4, kL175, kA175, kS175, kL176, kA176, kS176, kL177, kA177, kS177, kL178, kA178, kS178, kL179, kC180, kG180, kP180, kL181, kL182, kA182, kS182, kC183, kG183, kP183, kR183_1, kR183_3, kR183_5, kR183_6, kR183_7, kR183_8, kR183_9, kR183_21, kR183_26, kR183_27, kR183_30, kR183_31, kR183_33, kR183_34, kR183_36, kR183_37, kR183_38, kR183_39, kR183_40, kR183_41, kR183_42, kR183_43, kR183_44, kL184, kA184, kS184, kL185, kA185, kS185, kL186, kA186, kS186, kL187, kA187, kS187, kL188, kA188, kS188, kL189, kL190, kL191, kA191, kS191, kL192, kA192, kS192, kL193, kA193, kS193, kL194, kA194, kS194, kL195, kA195, kS195, kL196, kA196, kS196, kL197, kA197, kS197, kL198, kA198, kS198, kL199, kA199, kS199, kL200, kA200, kS200, kL201, kL202, kA202, kS202, kL203, kA203, kS203, kL204, kA204, kS204, kL205, kL206, kA206, kS206, hK.2.2.1, h0, show (nI 0 = 0) = True from eq_true rfl]
        refine xloop_end ?_
        simp only [f_X12_value_b44]
        simp (disch := first | assumption | omega) only [Option.bind_some, Option.map_some, xw_gR, xw_gN, xw_al, xw_ck, xw_uI, xw_ur, xup_at, xur_at, if_true, if_false, reduceIte, and_true, true_and, and_false, false_and, not_true_eq_false, not_false_eq_true, Nat.reduceEqDiff, eq_self, Nat.reduceAdd, Nat.reduceMul, kC1, kG1, kP1, kR1_0, kR1_1, kR1_2, kR1_3, kR1_4, kR1_5, kR1_6, kR1_7, kR1_8, kR1_9, kR1_10, kR1_11, kR1_12, kR1_13, kC2, kG2, kP2, kR2_0, kR2_1, kC3, kG3, kP3, kR3_0, kR3_1, kR3_2, kR3_3, kL4, kA4, kS4, kL5, kA5, kS5, kL6, kA6, kS6, kL7, kA7, kS7, kC8, kG8, kP8, kR8_0, kR8_1, kL9, kA9, kS9, kL10, kA10, kS10, kC11, kG11, kP11, kR11_0, kR11_1, kR11_2, kR11_3, kL12, kA12, kS12, kL13, kA13, kS13, kL14, kA14, kS14, kL15, kA15, kS15, kC16, kG16, kP16, kR16_0, kR16_1, kL17, kA17, kS17, kL18, kA18, kS18, kC19, kG19, kP19, kR19_0, kL20, kL141, kL146, kA146, kS146, kL151, kA151, kS151, kL156, kA156, kS156, kC157, kG157, kP157, kR157_0, kR157_1, kL158, kA158, kS158, kL159, kA159, kS159, kC161, kG161, kP161, kR161_0, kR161_1, kL162, kA162, kS162, kL163, kA163, kS163, kC165, kG165, kP165, kR165_0, kR165_1, kR165_2, kR165_3, kL166, kA166, kS166, kL167, kA167, kS167, kL168, kA168, kS168, kL169, kA169, kS169, kC170, kG170, kP170, kR170_0, kR170_1, kR170_2, kL171, kA171, kS171, kL172, kA172, kS172, kL173, kA173, kS173, kC174, kG174, kP174, kR174_0, kR174_1, kR174_2, kR174_3, kR174_4, kL175, kA175, kS175, kL176, kA176, kS176, kL177, kA177, kS177, kL178, kA178, kS178, kL179, kC180, kG180, kP180, kL181, kL182, kA182, kS182, kC183, kG183, kP183, kR183_1, kR183_3, kR183_5, kR183_6, kR183_7, kR183_8, kR183_9, kR183_21, kR183_26, kR183_27, kR183_30, kR183_31, kR183_33, kR183_34, kR183_36, kR183_37, kR183_38, kR183_39, kR183_40, kR183_41, kR183_42, kR183_43, kR183_44, kL184, kA184, kS184, kL185, kA185, kS185, kL186, kA186, kS186, kL187, kA187, kS187, kL188, kA188, kS188, kL189, kL190, kL191, kA191, kS191, kL192, kA192, kS192, kL193, kA193, kS193, kL194, kA194, kS194, kL195, kA195, kS195, kL196, kA196, kS196, kL197, kA197, kS197, kL198, kA198, kS198, kL199, kA199, kS199, kL200, kA200, kS200, kL201, kL202, kA202, kS202, kL203, kA203, kS203, kL204, kA204, kS204, kL205, kL206, kA206, kS206, hK.2.2.1, h0, show (nI 0 ≤ 0) = True from eq_true (by decide)]
        rfl
    · have hn0 : (nI (lvN g (xI σ 191)) = 0) = False := eq_false (nI_ne0 (by omega) (by omega))
      obtain ⟨k, hk, hp, hki⟩ := lv_first (g := g) (F := xI σ 191) (by omega)
      have q0 : I' 198 0 = iI ((k : Int) - 144) := by rw [← hki]; exact hK.2.2.2 k hk hp
      have hen := energyOf_ok (σ := τ) (J := xI τ) hS hL hk hp
      rw [hki, show nI 0 = (0 : Int32) from rfl] at hen
      refine ⟨nI (vS g (xI σ 191) y k (289 - k)), τ, xw τ I', ?_, ?_, INV_i H2.nop⟩
      · rw [A]
        unfold f_X11_value_j17
        simp (disch := first | assumption | omega) only [Option.bind_some, Option.map_some, xw_gR, xw_gN, xw_al, xw_ck, xw_uI, xw_ur, xup_at, xur_at, if_true, if_false, reduceIte, and_true, true_and, and_false, false_and, not_true_eq_false, not_false_eq_true, Nat.reduceEqDiff, eq_self, Nat.reduceAdd, Nat.reduceMul, kC1, kG1, kP1, kR1_0, kR1_1, kR1_2, kR1_3, kR1_4, kR1_5, kR1_6, kR1_7, kR1_8, kR1_9, kR1_10, kR1_11, kR1_12, kR1_13, kC2, kG2, kP2, kR2_0, kR2_1, kC3, kG3, kP3, kR3_0, kR3_1, kR3_2, kR3_3, kL4, kA4, kS4, kL5, kA5, kS5, kL6, kA6, kS6, kL7, kA7, kS7, kC8, kG8, kP8, kR8_0, kR8_1, kL9, kA9, kS9, kL10, kA10, kS10, kC11, kG11, kP11, kR11_0, kR11_1, kR11_2, kR11_3, kL12, kA12, kS12, kL13, kA13, kS13, kL14, kA14, kS14, kL15, kA15, kS15, kC16, kG16, kP16, kR16_0, kR16_1, kL17, kA17, kS17, kL18, kA18, kS18, kC19, kG19, kP19, kR19_0, kL20, kL141, kL146, kA146, kS146, kL151, kA151, kS151, kL156, kA156, kS156, kC157, kG157, kP157, kR157_0, kR157_1, kL158, kA158, kS158, kL159, kA159, kS159, kC161, kG161, kP161, kR161_0, kR161_1, kL162, kA162, kS162, kL163, kA163, kS163, kC165, kG165, kP165, kR165_0, kR165_1, kR165_2, kR165_3, kL166, kA166, kS166, kL167, kA167, kS167, kL168, kA168, kS168, kL169, kA169, kS169, kC170, kG170, kP170, kR170_0, kR170_1, kR170_2, kL171, kA171, kS171, kL172, kA172, kS172, kL173, kA173, kS173, kC174, kG174, kP174, kR174_0, kR174_1, kR174_2, kR174_3, kR174_4, kL175, kA175, kS175, kL176, kA176, kS176, kL177, kA177, kS177, kL178, kA178, kS178, kL179, kC180, kG180, kP180, kL181, kL182, kA182, kS182, kC183, kG183, kP183, kR183_1, kR183_3, kR183_5, kR183_6, kR183_7, kR183_8, kR183_9, kR183_21, kR183_26, kR183_27, kR183_30, kR183_31, kR183_33, kR183_34, kR183_36, kR183_37, kR183_38, kR183_39, kR183_40, kR183_41, kR183_42, kR183_43, kR183_44, kL184, kA184, kS184, kL185, kA185, kS185, kL186, kA186, kS186, kL187, kA187, kS187, kL188, kA188, kS188, kL189, kL190, kL191, kA191, kS191, kL192, kA192, kS192, kL193, kA193, kS193, kL194, kA194, kS194, kL195, kA195, kS195, kL196, kA196, kS196, kL197, kA197, kS197, kL198, kA198, kS198, kL199, kA199, kS199, kL200, kA200, kS200, kL201, kL202, kA202, kS202, kL203, kA203, kS203, kL204, kA204, kS204, kL205, kL206, kA206, kS206, hL.2.2.2.1, hn0, hen]
        exact value11 hS hg hL hyP hk
      · unfold f_X12_value
        rw [inP, if_neg hin, Option.bind_some, if_neg (by decide), xck_ok (sT183 hS), Option.bind_some, e2, Option.bind_some]
        have z0 : xaI (xw τ I') 20 198 (0 : Int32) = some (I' 198 0) := kA198 hS (i := 0) (by decide)
        simp (disch := first | assumption | omega) only [Option.bind_some, Option.map_some, xw_gR, xw_gN, xw_al, xw_ck, xw_uI, xw_ur, xup_at, xur_at, if_true, if_false, reduceIte, and_true, true_and, and_false, false_and, not_true_eq_false, not_false_eq_true, Nat.reduceEqDiff, eq_self, Nat.reduceAdd, Nat.reduceMul, kC1, kG1, kP1, kR1_0, kR1_1, kR1_2, kR1_3, kR1_4, kR1_5, kR1_6, kR1_7, kR1_8, kR1_9, kR1_10, kR1_11, kR1_12, kR1_13, kC2, kG2, kP2, kR2_0, kR2_1, kC3, kG3, kP3, kR3_0, kR3_1, kR3_2, kR3_3, kL4, kA4, kS4, kL5, kA5, kS5, kL6, kA6, kS6, kL7, kA7, kS7, kC8, kG8, kP8, kR8_0, kR8_1, kL9, kA9, kS9, kL10, kA10, kS10, kC11, kG11, kP11, kR11_0, kR11_1, kR11_2, kR11_3, kL12, kA12, kS12, kL13, kA13, kS13, kL14, kA14, kS14, kL15, kA15, kS15, kC16, kG16, kP16, kR16_0, kR16_1, kL17, kA17, kS17, kL18, kA18, kS18, kC19, kG19, kP19, kR19_0, kL20, kL141, kL146, kA146, kS146, kL151, kA151, kS151, kL156, kA156, kS156, kC157, kG157, kP157, kR157_0, kR157_1, kL158, kA158, kS158, kL159, kA159, kS159, kC161, kG161, kP161, kR161_0, kR161_1, kL162, kA162, kS162, kL163, kA163, kS163, kC165, kG165, kP165, kR165_0, kR165_1, kR165_2, kR165_3, kL166, kA166, kS166, kL167, kA167, kS167, kL168, kA168, kS168, kL169, kA169, kS169, kC170, kG170, kP170, kR170_0, kR170_1, kR170_2, kL171, kA171, kS171, kL172, kA172, kS172, kL173, kA173, kS173, kC174, kG174, kP174, kR174_0, kR174_1, kR174_2, kR174_3, kR174_4, kL175, kA175, kS175, kL176, kA176, kS176, kL177, kA177, kS177, kL178, kA178, kS178, kL179, kC180, kG180, kP180, kL181, kL182, kA182, kS182, kC183, kG183, kP183, kR183_1, kR183_3, kR183_5, kR183_6, kR183_7, kR183_8, kR183_9, kR183_21, kR183_26, kR183_27, kR183_30, kR183_31, kR183_33, kR183_34, kR183_36, kR183_37, kR183_38, kR183_39, kR183_40, kR183_41, kR183_42, kR183_43, kR183_44, kL184, kA184, kS184, kL185, kA185, kS185, kL186, kA186, kS186, kL187, kA187, kS187, kL188, kA188, kS188, kL189, kL190, kL191, kA191, kS191, kL192, kA192, kS192, kL193, kA193, kS193, kL194, kA194, kS194, kL195, kA195, kS195, kL196, kA196, kS196, kL197, kA197, kS197, kL198, kA198, kS198, kL199, kA199, kS199, kL200, kA200, kS200, kL201, kL202, kA202, kS202, kL203, kA203, kS203, kL204, kA204, kS204, kL205, kL206, kA206, kS206, hK.2.2.1, hn0, z0, q0]
        exact value12 hS hg hK hyP hk hki
  · refine ⟨-1, σ, σ, ?_, ?_, g, gT, gP, st, H.nop⟩
    · unfold f_X11_value
      rw [if_neg hx0, if_neg (by rw [show (1000003 : Int32) = nI 1000003 from rfl, nn_lt (by omega) (by omega)]; exact hyP)]
    · unfold f_X12_value
      rw [inP, if_pos (.inr (by rw [show (1000002 : Int32) = nI 1000002 from rfl, nn_lt (by omega) (by omega)]; omega))]; rfl
