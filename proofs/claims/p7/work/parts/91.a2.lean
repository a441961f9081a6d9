/-! levels told on both sides -/
theorem lvl_at {g : GD} {F : Nat → Int32} {i : Nat} (h : i < lvN g F) : ∃ k, k < 289 ∧ lvP g F k = true ∧ fb_ct (lvP g F) k = i := fb_ct_kth h
theorem lvN_b (g : GD) (F : Nat → Int32) : lvN g F ≤ 289 := fb_ct_le _ _
def isL (g : GD) (F : Nat → Int32) (x : Int32) : Bool := decide (0 ≤ x.toInt) && decide (x.toInt < (lvN g F : Int))
theorem isL_t {g : GD} {F : Nat → Int32} {x : Int32} (h : isL g F x = true) : ∃ i, i < lvN g F ∧ x = nI i := by
  unfold isL at h
  simp only [Bool.and_eq_true, decide_eq_true_eq] at h
  refine ⟨x.toInt.toNat, by omega, ?_⟩
  rw [iI_n, Int.toNat_of_nonneg h.1]
  exact iI_of x
theorem isL_n {g : GD} {F : Nat → Int32} {i : Nat} (h : i < lvN g F) : isL g F (nI i) = true := by
  have := lvN_b g F
  unfold isL
  rw [nI_toInt (by omega), Bool.and_eq_true, decide_eq_true_eq, decide_eq_true_eq]
  omega
theorem isL_in {g : GD} {F : Nat → Int32} (x : Int32) : f_X12_in x 0 (nI (lvN g F) - 1) = some (if isL g F x then 1 else 0) := by
  have hb := lvN_b g F
  unfold f_X12_in
  have e : nI (lvN g F) - 1 = iI ((lvN g F : Int) - 1) := by rw [iI_n, show (1 : Int32) = iI 1 from rfl, iI_sub]
  have hr := x.toInt_lt
  have hl := x.le_toInt
  have c1 : (x < 0) = (x.toInt < 0) := propext (fa_lt _ _)
  have c2 : (iI ((lvN g F : Int) - 1) < x) = ((lvN g F : Int) - 1 < x.toInt) := by
    rw [fa_lt, iI_ti (by omega) (by omega)]
  unfold isL
  simp only [e, c1, c2]
  by_cases h1 : x.toInt < 0
  · have : ¬ (0 ≤ x.toInt) := by omega
    simp [h1, this]
  · by_cases h2 : (lvN g F : Int) - 1 < x.toInt
    · have a : ¬ (x.toInt < (lvN g F : Int)) := by omega
      simp [h1, h2, a]
    · have a : (x.toInt < (lvN g F : Int)) := by omega
      have b : 0 ≤ x.toInt := by omega
      simp [h1, h2, a, b]
theorem lC_b {g : GD} (hg : g ∈ gAll) (F : Nat → Int32) (e : Int) : lC g F e ≤ 65536 := Nat.le_trans (fb_ct_le _ _) (gSt_b hg).1
theorem lU_b {g : GD} (hg : g ∈ gAll) (F : Nat → Int32) (e : Int) (u : Nat) : lU g F e u ≤ 65536 := Nat.le_trans (fb_ct_le _ _) (gSt_b hg).1
/-- an energy's own state -/
theorem knE {g : GD} (hg : g ∈ gAll) {F : Nat → Int32} (ho : RO g F) {e : Int} (h1 : -144 ≤ e) (h2 : e ≤ 144) (s : Nat) : ((if lW g F s then iI (eE g (zR F) s) else nI 100000) = iI e) = (lE g F e s = true) := by
  have hb := eE_b hg ho s
  unfold lE
  cases lW g F s with
  | false =>
    rw [if_neg (by decide), iI_n, iI_eq (by omega) (by omega) (by omega) (by omega)]
    have : ¬ ((100000 : Int) = e) := by omega
    simp [this]
  | true =>
    rw [if_pos rfl, iI_eq (by omega) (by omega) (by omega) (by omega)]
    simp
theorem knF {g : GD} (hg : g ∈ gAll) {F : Nat → Int32} (ho : RO g F) (s : Nat) : ((100000 : Int32) ≤ (if lW g F s then iI (eE g (zR F) s) else nI 100000)) = (lW g F s = false) := by
  have hb := eE_b hg ho s
  cases lW g F s with
  | false =>
    rw [if_neg (by decide), show (100000 : Int32) = nI 100000 from rfl, nn_le (by omega) (by omega)]
    simp
  | true =>
    rw [if_pos rfl, show (100000 : Int32) = iI 100000 from rfl, iI_le (by omega) (by omega) (by omega) (by omega)]
    have : ¬ ((100000 : Int) ≤ eE g (zR F) s) := by omega
    simp [this]
section LEV
variable {σ : XS} {J : Nat → Nat → Int32} {g : GD} {F : Nat → Int32}
theorem hasLevel_ok (hS : Shp σ) (hL : LVK J g F) (x : Int32) : f_X4_hasLevel (xw σ J) 165 x = some (if isL g F x then 1 else 0) := by
  have hb := lvN_b g F
  unfold f_X4_hasLevel
  by_cases h0 : x < 0
  · rw [if_pos h0]
    have : isL g F x = false := by
      unfold isL
      have : x.toInt < 0 := (fa_lt _ _).mp h0
      simp; omega
    rw [this]; rfl
  · rw [if_neg h0]
    obtain ⟨i, hi, rfl⟩ := nn_of h0
    simp (disch := first | assumption | omega) only [Option.bind_some, Option.map_some, xw_gR, xw_gN, xw_al, xw_ck, xw_uI, xw_ur, xup_at, xur_at, if_true, if_false, reduceIte, and_true, true_and, and_false, false_and, not_true_eq_false, not_false_eq_true, Nat.reduceEqDiff, eq_self, Nat.reduceAdd, Nat.reduceMul, kC1, kG1, kP1, kR1_0, kR1_1, kR1_2, kR1_3, kR1_4, kR1_5, kR1_6, kR1_7, kR1_8, kR1_9, kR1_10, kR1_11, kR1_12, kR1_13, kC2, kG2, kP2, kR2_0, kR2_1, kC3, kG3, kP3, kR3_0, kR3_1, kR3_2, kR3_3, kL4, kA4, kS4, kL5, kA5, kS5, kL6, kA6, kS6, kL7, kA7, kS7, kC8, kG8, kP8, kR8_0, kR8_1, kL9, kA9, kS9, kL10, kA10, kS10, kC11, kG11, kP11, kR11_0, kR11_1, kR11_2, kR11_3, kL12, kA12, kS12, kL13, kA13, kS13, kL14, kA14, kS14, kL15, kA15, kS15, kC16, kG16, kP16, kR16_0, kR16_1, kL17, kA17, kS17, kL18, kA18, kS18, kC19, kG19, kP19, kR19_0, kL20, kL141, kL146, kA146, kS146, kL151, kA151, kS151, kL156, kA156, kS156, kC157, kG157, kP157, kR157_0, kR157_1, kL158, kA158, kS158, kL159, kA159, kS159, kC161, kG161, kP161, kR161_0, kR161_1, kL162, kA162, kS162, kL163, kA163, kS163, kC165, kG165, kP165, kR165_0, kR165_1, kR165_2, kR165_3, kL166, kA166, kS166, kL167, kA167, kS167, kL168, kA168, kS168, kL169, kA169, kS169, kC170, kG170, kP170, kR170_0, kR170_1, kR170_2, kL171, kA171, kS171, kL172, kA172, kS172, kL173, kA173, kS173, kC174, kG174, kP174, kR174_0, kR174_1, kR174_2, kR174_3, kR174_4, kL175, kA175, kS175, kL176, kA176, kS176, kL177, kA177, kS177, kL178, kA178, kS178, kL179, kC180, kG180, kP180, kL181, kL182, kA182, kS182, kC183, kG183, kP183, kR183_1, kR183_3, kR183_5, kR183_6, kR183_7, kR183_8, kR183_9, kR183_21, kR183_26, kR183_27, kR183_30, kR183_31, kR183_33, kR183_34, kR183_36, kR183_37, kR183_38, kR183_39, kR183_40, kR183_41, kR183_42, kR183_43, kR183_44, kL184, kA184, kS184, kL185, kA185, kS185, kL186, kA186, kS186, kL187, kA187, kS187, kL188, kA188, kS188, kL189, kL190, kL191, kA191, kS191, kL192, kA192, kS192, kL193, kA193, kS193, kL194, kA194, kS194, kL195, kA195, kS195, kL196, kA196, kS196, kL197, kA197, kS197, kL198, kA198, kS198, kL199, kA199, kS199, kL200, kA200, kS200, kL201, kL202, kA202, kS202, kL203, kA203, kS203, kL204, kA204, kS204, kL205, kL206, kA206, kS206, hL.2.2.2.1]
    have e : (nI (lvN g F) ≤ nI i) = (lvN g F ≤ i) := nn_le (by omega) hi
    unfold isL
    rw [nI_toInt hi]
    simp only [e]
    by_cases hq : lvN g F ≤ i
    · rw [if_pos hq]
      have : ¬ ((i : Int) < (lvN g F : Int)) := by omega
      simp [this]
    · rw [if_neg hq]
      have : ((i : Int) < (lvN g F : Int)) := by omega
      simp [this]
theorem energyOf_ok (hS : Shp σ) (hL : LVK J g F) {k : Nat} (hk : k < 289) (hp : lvP g F k = true) : f_X4_energyOf (xw σ J) 165 (nI (fb_ct (lvP g F) k)) = some (iI ((k : Int) - 144)) := by
  have hb := lvN_b g F
  have hlt : fb_ct (lvP g F) k < lvN g F := by
    unfold lvN
    have h1 : fb_ct (lvP g F) (k + 1) = fb_ct (lvP g F) k + 1 := by rw [fb_ct_succ, hp]; rfl
    have h2 := fb_ct_mono (lvP g F) (show k + 1 ≤ 289 by omega)
    omega
  unfold f_X4_energyOf
  simp (disch := first | assumption | omega) only [Option.bind_some, Option.map_some, xw_gR, xw_gN, xw_al, xw_ck, xw_uI, xw_ur, xup_at, xur_at, if_true, if_false, reduceIte, and_true, true_and, and_false, false_and, not_true_eq_false, not_false_eq_true, Nat.reduceEqDiff, eq_self, Nat.reduceAdd, Nat.reduceMul, kC1, kG1, kP1, kR1_0, kR1_1, kR1_2, kR1_3, kR1_4, kR1_5, kR1_6, kR1_7, kR1_8, kR1_9, kR1_10, kR1_11, kR1_12, kR1_13, kC2, kG2, kP2, kR2_0, kR2_1, kC3, kG3, kP3, kR3_0, kR3_1, kR3_2, kR3_3, kL4, kA4, kS4, kL5, kA5, kS5, kL6, kA6, kS6, kL7, kA7, kS7, kC8, kG8, kP8, kR8_0, kR8_1, kL9, kA9, kS9, kL10, kA10, kS10, kC11, kG11, kP11, kR11_0, kR11_1, kR11_2, kR11_3, kL12, kA12, kS12, kL13, kA13, kS13, kL14, kA14, kS14, kL15, kA15, kS15, kC16, kG16, kP16, kR16_0, kR16_1, kL17, kA17, kS17, kL18, kA18, kS18, kC19, kG19, kP19, kR19_0, kL20, kL141, kL146, kA146, kS146, kL151, kA151, kS151, kL156, kA156, kS156, kC157, kG157, kP157, kR157_0, kR157_1, kL158, kA158, kS158, kL159, kA159, kS159, kC161, kG161, kP161, kR161_0, kR161_1, kL162, kA162, kS162, kL163, kA163, kS163, kC165, kG165, kP165, kR165_0, kR165_1, kR165_2, kR165_3, kL166, kA166, kS166, kL167, kA167, kS167, kL168, kA168, kS168, kL169, kA169, kS169, kC170, kG170, kP170, kR170_0, kR170_1, kR170_2, kL171, kA171, kS171, kL172, kA172, kS172, kL173, kA173, kS173, kC174, kG174, kP174, kR174_0, kR174_1, kR174_2, kR174_3, kR174_4, kL175, kA175, kS175, kL176, kA176, kS176, kL177, kA177, kS177, kL178, kA178, kS178, kL179, kC180, kG180, kP180, kL181, kL182, kA182, kS182, kC183, kG183, kP183, kR183_1, kR183_3, kR183_5, kR183_6, kR183_7, kR183_8, kR183_9, kR183_21, kR183_26, kR183_27, kR183_30, kR183_31, kR183_33, kR183_34, kR183_36, kR183_37, kR183_38, kR183_39, kR183_40, kR183_41, kR183_42, kR183_43, kR183_44, kL184, kA184, kS184, kL185, kA185, kS185, kL186, kA186, kS186, kL187, kA187, kS187, kL188, kA188, kS188, kL189, kL190, kL191, kA191, kS191, kL192, kA192, kS192, kL193, kA193, kS193, kL194, kA194, kS194, kL195, kA195, kS195, kL196, kA196, kS196, kL197, kA197, kS197, kL198, kA198, kS198, kL199, kA199, kS199, kL200, kA200, kS200, kL201, kL202, kA202, kS202, kL203, kA203, kS203, kL204, kA204, kS204, kL205, kL206, kA206, kS206, nn_nneg, hL.2.2.2.1, nn_le, show ¬ (lvN g F ≤ fb_ct (lvP g F) k) by omega, show ¬ (289 ≤ fb_ct (lvP g F) k) by omega, hL.2.2.2.2 k hk hp]
theorem isEnergy_ok (x : Int32) : f_X4_isEnergy x = some (if x.toInt < -144 ∨ 144 < x.toInt then 0 else 1) := by
  unfold f_X4_isEnergy
  have c1 : (x < -144) = (x.toInt < -144) := propext (fa_lt _ _)
  have c2 : ((144 : Int32) < x) = (144 < x.toInt) := propext (fa_lt _ _)
  simp only [c1, c2]
  by_cases h1 : x.toInt < -144
  · simp [h1]
  · by_cases h2 : 144 < x.toInt <;> simp [h1, h2]
theorem isEnergy_k {k : Nat} (hk : k < 289) : f_X4_isEnergy (iI ((k : Int) - 144)) = some 1 := by
  rw [isEnergy_ok, iI_ti (by omega) (by omega), if_neg (by omega)]
theorem e144 (k : Nat) : iI ((k : Int) - 144) + (144 : Int32) = nI k := by
  rw [show (144 : Int32) = iI 144 from rfl, iI_add, iI_n]; congr 1; omega
theorem waysOf_ok (hS : Shp σ) (hL : LVK J g F) {k : Nat} (hk : k < 289) : f_X4_waysOf (xw σ J) 165 (iI ((k : Int) - 144)) = some (nI (lC g F ((k : Int) - 144))) := by
  unfold f_X4_waysOf
  simp (disch := first | assumption | omega) only [Option.bind_some, Option.map_some, xw_gR, xw_gN, xw_al, xw_ck, xw_uI, xw_ur, xup_at, xur_at, if_true, if_false, reduceIte, and_true, true_and, and_false, false_and, not_true_eq_false, not_false_eq_true, Nat.reduceEqDiff, eq_self, Nat.reduceAdd, Nat.reduceMul, kC1, kG1, kP1, kR1_0, kR1_1, kR1_2, kR1_3, kR1_4, kR1_5, kR1_6, kR1_7, kR1_8, kR1_9, kR1_10, kR1_11, kR1_12, kR1_13, kC2, kG2, kP2, kR2_0, kR2_1, kC3, kG3, kP3, kR3_0, kR3_1, kR3_2, kR3_3, kL4, kA4, kS4, kL5, kA5, kS5, kL6, kA6, kS6, kL7, kA7, kS7, kC8, kG8, kP8, kR8_0, kR8_1, kL9, kA9, kS9, kL10, kA10, kS10, kC11, kG11, kP11, kR11_0, kR11_1, kR11_2, kR11_3, kL12, kA12, kS12, kL13, kA13, kS13, kL14, kA14, kS14, kL15, kA15, kS15, kC16, kG16, kP16, kR16_0, kR16_1, kL17, kA17, kS17, kL18, kA18, kS18, kC19, kG19, kP19, kR19_0, kL20, kL141, kL146, kA146, kS146, kL151, kA151, kS151, kL156, kA156, kS156, kC157, kG157, kP157, kR157_0, kR157_1, kL158, kA158, kS158, kL159, kA159, kS159, kC161, kG161, kP161, kR161_0, kR161_1, kL162, kA162, kS162, kL163, kA163, kS163, kC165, kG165, kP165, kR165_0, kR165_1, kR165_2, kR165_3, kL166, kA166, kS166, kL167, kA167, kS167, kL168, kA168, kS168, kL169, kA169, kS169, kC170, kG170, kP170, kR170_0, kR170_1, kR170_2, kL171, kA171, kS171, kL172, kA172, kS172, kL173, kA173, kS173, kC174, kG174, kP174, kR174_0, kR174_1, kR174_2, kR174_3, kR174_4, kL175, kA175, kS175, kL176, kA176, kS176, kL177, kA177, kS177, kL178, kA178, kS178, kL179, kC180, kG180, kP180, kL181, kL182, kA182, kS182, kC183, kG183, kP183, kR183_1, kR183_3, kR183_5, kR183_6, kR183_7, kR183_8, kR183_9, kR183_21, kR183_26, kR183_27, kR183_30, kR183_31, kR183_33, kR183_34, kR183_36, kR183_37, kR183_38, kR183_39, kR183_40, kR183_41, kR183_42, kR183_43, kR183_44, kL184, kA184, kS184, kL185, kA185, kS185, kL186, kA186, kS186, kL187, kA187, kS187, kL188, kA188, kS188, kL189, kL190, kL191, kA191, kS191, kL192, kA192, kS192, kL193, kA193, kS193, kL194, kA194, kS194, kL195, kA195, kS195, kL196, kA196, kS196, kL197, kA197, kS197, kL198, kA198, kS198, kL199, kA199, kS199, kL200, kA200, kS200, kL201, kL202, kA202, kS202, kL203, kA203, kS203, kL204, kA204, kS204, kL205, kL206, kA206, kS206, isEnergy_k hk, one0, e144, hL.1 k hk]
theorem leastOf_ok (hS : Shp σ) (hL : LVK J g F) {k s : Nat} (hk : k < 289) (hs : s < gSt g) (h1 : lE g F ((k : Int) - 144) s = true) (h2 : ∀ s', s' < s → lE g F ((k : Int) - 144) s' = false) : f_X4_leastOf (xw σ J) 165 (iI ((k : Int) - 144)) = some (nI s) := by
  unfold f_X4_leastOf
  simp (disch := first | assumption | omega) only [Option.bind_some, Option.map_some, xw_gR, xw_gN, xw_al, xw_ck, xw_uI, xw_ur, xup_at, xur_at, if_true, if_false, reduceIte, and_true, true_and, and_false, false_and, not_true_eq_false, not_false_eq_true, Nat.reduceEqDiff, eq_self, Nat.reduceAdd, Nat.reduceMul, kC1, kG1, kP1, kR1_0, kR1_1, kR1_2, kR1_3, kR1_4, kR1_5, kR1_6, kR1_7, kR1_8, kR1_9, kR1_10, kR1_11, kR1_12, kR1_13, kC2, kG2, kP2, kR2_0, kR2_1, kC3, kG3, kP3, kR3_0, kR3_1, kR3_2, kR3_3, kL4, kA4, kS4, kL5, kA5, kS5, kL6, kA6, kS6, kL7, kA7, kS7, kC8, kG8, kP8, kR8_0, kR8_1, kL9, kA9, kS9, kL10, kA10, kS10, kC11, kG11, kP11, kR11_0, kR11_1, kR11_2, kR11_3, kL12, kA12, kS12, kL13, kA13, kS13, kL14, kA14, kS14, kL15, kA15, kS15, kC16, kG16, kP16, kR16_0, kR16_1, kL17, kA17, kS17, kL18, kA18, kS18, kC19, kG19, kP19, kR19_0, kL20, kL141, kL146, kA146, kS146, kL151, kA151, kS151, kL156, kA156, kS156, kC157, kG157, kP157, kR157_0, kR157_1, kL158, kA158, kS158, kL159, kA159, kS159, kC161, kG161, kP161, kR161_0, kR161_1, kL162, kA162, kS162, kL163, kA163, kS163, kC165, kG165, kP165, kR165_0, kR165_1, kR165_2, kR165_3, kL166, kA166, kS166, kL167, kA167, kS167, kL168, kA168, kS168, kL169, kA169, kS169, kC170, kG170, kP170, kR170_0, kR170_1, kR170_2, kL171, kA171, kS171, kL172, kA172, kS172, kL173, kA173, kS173, kC174, kG174, kP174, kR174_0, kR174_1, kR174_2, kR174_3, kR174_4, kL175, kA175, kS175, kL176, kA176, kS176, kL177, kA177, kS177, kL178, kA178, kS178, kL179, kC180, kG180, kP180, kL181, kL182, kA182, kS182, kC183, kG183, kP183, kR183_1, kR183_3, kR183_5, kR183_6, kR183_7, kR183_8, kR183_9, kR183_21, kR183_26, kR183_27, kR183_30, kR183_31, kR183_33, kR183_34, kR183_36, kR183_37, kR183_38, kR183_39, kR183_40, kR183_41, kR183_42, kR183_43, kR183_44, kL184, kA184, kS184, kL185, kA185, kS185, kL186, kA186, kS186, kL187, kA187, kS187, kL188, kA188, kS188, kL189, kL190, kL191, kA191, kS191, kL192, kA192, kS192, kL193, kA193, kS193, kL194, kA194, kS194, kL195, kA195, kS195, kL196, kA196, kS196, kL197, kA197, kS197, kL198, kA198, kS198, kL199, kA199, kS199, kL200, kA200, kS200, kL201, kL202, kA202, kS202, kL203, kA203, kS203, kL204, kA204, kS204, kL205, kL206, kA206, kS206, isEnergy_k hk, one0, e144, hL.2.1 k s hk hs h1 h2]
theorem withUps_ok (hS : Shp σ) (hL : LVK J g F) {k u : Nat} (hk : k < 289) (hu : u < 17) : f_X4_waysWithUps (xw σ J) 165 (iI ((k : Int) - 144)) (nI u) = some (nI (lU g F ((k : Int) - 144) u)) := by
  unfold f_X4_waysWithUps f_X4_waysWithUps_j22
  rw [isEnergy_k hk, Option.bind_some, if_neg (by decide), if_neg (nI_pos (by omega)), if_neg (by rw [show (17 : Int32) = nI 17 from rfl, nn_le (by omega) (by omega)]; omega), if_neg (by decide)]
  have := hL.2.2.1 k u hk hu
  simp (disch := first | assumption | omega) only [Option.bind_some, Option.map_some, xw_gR, xw_gN, xw_al, xw_ck, xw_uI, xw_ur, xup_at, xur_at, if_true, if_false, reduceIte, and_true, true_and, and_false, false_and, not_true_eq_false, not_false_eq_true, Nat.reduceEqDiff, eq_self, Nat.reduceAdd, Nat.reduceMul, kC1, kG1, kP1, kR1_0, kR1_1, kR1_2, kR1_3, kR1_4, kR1_5, kR1_6, kR1_7, kR1_8, kR1_9, kR1_10, kR1_11, kR1_12, kR1_13, kC2, kG2, kP2, kR2_0, kR2_1, kC3, kG3, kP3, kR3_0, kR3_1, kR3_2, kR3_3, kL4, kA4, kS4, kL5, kA5, kS5, kL6, kA6, kS6, kL7, kA7, kS7, kC8, kG8, kP8, kR8_0, kR8_1, kL9, kA9, kS9, kL10, kA10, kS10, kC11, kG11, kP11, kR11_0, kR11_1, kR11_2, kR11_3, kL12, kA12, kS12, kL13, kA13, kS13, kL14, kA14, kS14, kL15, kA15, kS15, kC16, kG16, kP16, kR16_0, kR16_1, kL17, kA17, kS17, kL18, kA18, kS18, kC19, kG19, kP19, kR19_0, kL20, kL141, kL146, kA146, kS146, kL151, kA151, kS151, kL156, kA156, kS156, kC157, kG157, kP157, kR157_0, kR157_1, kL158, kA158, kS158, kL159, kA159, kS159, kC161, kG161, kP161, kR161_0, kR161_1, kL162, kA162, kS162, kL163, kA163, kS163, kC165, kG165, kP165, kR165_0, kR165_1, kR165_2, kR165_3, kL166, kA166, kS166, kL167, kA167, kS167, kL168, kA168, kS168, kL169, kA169, kS169, kC170, kG170, kP170, kR170_0, kR170_1, kR170_2, kL171, kA171, kS171, kL172, kA172, kS172, kL173, kA173, kS173, kC174, kG174, kP174, kR174_0, kR174_1, kR174_2, kR174_3, kR174_4, kL175, kA175, kS175, kL176, kA176, kS176, kL177, kA177, kS177, kL178, kA178, kS178, kL179, kC180, kG180, kP180, kL181, kL182, kA182, kS182, kC183, kG183, kP183, kR183_1, kR183_3, kR183_5, kR183_6, kR183_7, kR183_8, kR183_9, kR183_21, kR183_26, kR183_27, kR183_30, kR183_31, kR183_33, kR183_34, kR183_36, kR183_37, kR183_38, kR183_39, kR183_40, kR183_41, kR183_42, kR183_43, kR183_44, kL184, kA184, kS184, kL185, kA185, kS185, kL186, kA186, kS186, kL187, kA187, kS187, kL188, kA188, kS188, kL189, kL190, kL191, kA191, kS191, kL192, kA192, kS192, kL193, kA193, kS193, kL194, kA194, kS194, kL195, kA195, kS195, kL196, kA196, kS196, kL197, kA197, kS197, kL198, kA198, kS198, kL199, kA199, kS199, kL200, kA200, kS200, kL201, kL202, kA202, kS202, kL203, kA203, kS203, kL204, kA204, kS204, kL205, kL206, kA206, kS206, e144, show (17 : Int32) = nI 17 from rfl, nn_mul, nn_add, show k * 17 + u = 17 * k + u by omega, this]
theorem withUps_no (σ : XS) {x y : Int32} (h : (x.toInt < -144 ∨ 144 < x.toInt) ∨ y < 0 ∨ 17 ≤ y) : f_X4_waysWithUps σ 165 x y = some 0 := by
  unfold f_X4_waysWithUps f_X4_waysWithUps_j22
  rw [isEnergy_ok, Option.bind_some]
  by_cases h1 : x.toInt < -144 ∨ 144 < x.toInt
  · rw [if_pos h1, if_pos rfl, if_pos rfl]
  · rw [if_neg h1, if_neg (by decide)]
    by_cases h2 : y < 0
    · rw [if_pos h2, if_pos rfl]
    · rw [if_neg h2, if_pos (by rcases h with z | z | z <;> first | exact absurd z h1 | exact absurd z h2 | exact z), if_pos rfl]
end LEV
/-- the model's count of states by energy and ups -/
theorem both12 {σ : XS} {J : Nat → Nat → Int32} {g : GD} {F : Nat → Int32} (hS : Shp σ) (hG : GRD J g) (ho : RO g F) (hK : KNK J g F) (x y : Int32) : xloop (f_X12_both_b9 (xw σ J) 183 x y) ((0 : Int32), (0 : Int32)) = some (nI (fb_ct (fun s => lW g F s && decide (iI (eE g (zR F) s) = x) && decide (nI (pC s) = y)) (gSt g)), xw σ J) := by
  have hg := hG.1
  have hSt := (gSt_b hg).1
  refine xforE (fun s : Nat => (nI (fb_ct (fun s => lW g F s && decide (iI (eE g (zR F) s) = x) && decide (nI (pC s) = y)) s), nI s)) (gSt g) rfl (fun s hs => ?_) ?_
  · simp only [f_X12_both_b9]
    have hv := hK.1 s hs
    have hF := knF hg ho s
    simp (disch := first | assumption | omega) only [Option.bind_some, Option.map_some, xw_gR, xw_gN, xw_al, xw_ck, xw_uI, xw_ur, xup_at, xur_at, if_true, if_false, reduceIte, and_true, true_and, and_false, false_and, not_true_eq_false, not_false_eq_true, Nat.reduceEqDiff, eq_self, Nat.reduceAdd, Nat.reduceMul, kC1, kG1, kP1, kR1_0, kR1_1, kR1_2, kR1_3, kR1_4, kR1_5, kR1_6, kR1_7, kR1_8, kR1_9, kR1_10, kR1_11, kR1_12, kR1_13, kC2, kG2, kP2, kR2_0, kR2_1, kC3, kG3, kP3, kR3_0, kR3_1, kR3_2, kR3_3, kL4, kA4, kS4, kL5, kA5, kS5, kL6, kA6, kS6, kL7, kA7, kS7, kC8, kG8, kP8, kR8_0, kR8_1, kL9, kA9, kS9, kL10, kA10, kS10, kC11, kG11, kP11, kR11_0, kR11_1, kR11_2, kR11_3, kL12, kA12, kS12, kL13, kA13, kS13, kL14, kA14, kS14, kL15, kA15, kS15, kC16, kG16, kP16, kR16_0, kR16_1, kL17, kA17, kS17, kL18, kA18, kS18, kC19, kG19, kP19, kR19_0, kL20, kL141, kL146, kA146, kS146, kL151, kA151, kS151, kL156, kA156, kS156, kC157, kG157, kP157, kR157_0, kR157_1, kL158, kA158, kS158, kL159, kA159, kS159, kC161, kG161, kP161, kR161_0, kR161_1, kL162, kA162, kS162, kL163, kA163, kS163, kC165, kG165, kP165, kR165_0, kR165_1, kR165_2, kR165_3, kL166, kA166, kS166, kL167, kA167, kS167, kL168, kA168, kS168, kL169, kA169, kS169, kC170, kG170, kP170, kR170_0, kR170_1, kR170_2, kL171, kA171, kS171, kL172, kA172, kS172, kL173, kA173, kS173, kC174, kG174, kP174, kR174_0, kR174_1, kR174_2, kR174_3, kR174_4, kL175, kA175, kS175, kL176, kA176, kS176, kL177, kA177, kS177, kL178, kA178, kS178, kL179, kC180, kG180, kP180, kL181, kL182, kA182, kS182, kC183, kG183, kP183, kR183_1, kR183_3, kR183_5, kR183_6, kR183_7, kR183_8, kR183_9, kR183_21, kR183_26, kR183_27, kR183_30, kR183_31, kR183_33, kR183_34, kR183_36, kR183_37, kR183_38, kR183_39, kR183_40, kR183_41, kR183_42, kR183_43, kR183_44, kL184, kA184, kS184, kL185, kA185, kS185, kL186, kA186, kS186, kL187, kA187, kS187, kL188, kA188, kS188, kL189, kL190, kL191, kA191, kS191, kL192, kA192, kS192, kL193, kA193, kS193, kL194, kA194, kS194, kL195, kA195, kS195, kL196, kA196, kS196, kL197, kA197, kS197, kL198, kA198, kS198, kL199, kA199, kS199, kL200, kA200, kS200, kL201, kL202, kA202, kS202, kL203, kA203, kS203, kL204, kA204, kS204, kL205, kL206, kA206, kS206, states12_ok hS hG, nn_le, show ¬ (gSt g ≤ s) by omega, hv, hF, bitsOf_ok (show s < 65536 by omega)]
    rw [fb_ct_succ]
    cases lW g F s with
    | false => simp [nI_succ]
    | true =>
      simp only [if_true, Bool.true_and, Bool.true_eq_false, if_false]
      by_cases h1 : iI (eE g (zR F) s) = x
      · rw [if_pos h1]
        by_cases h2 : nI (pC s) = y
        · rw [if_pos h2]; simp [h1, h2, nI_succ]
        · rw [if_neg h2]; simp [h1, h2, nI_succ]
      · rw [if_neg h1]; simp [h1, nI_succ]
  · simp only [f_X12_both_b9]
    simp (disch := first | assumption | omega) only [Option.bind_some, Option.map_some, xw_gR, xw_gN, xw_al, xw_ck, xw_uI, xw_ur, xup_at, xur_at, if_true, if_false, reduceIte, and_true, true_and, and_false, false_and, not_true_eq_false, not_false_eq_true, Nat.reduceEqDiff, eq_self, Nat.reduceAdd, Nat.reduceMul, kC1, kG1, kP1, kR1_0, kR1_1, kR1_2, kR1_3, kR1_4, kR1_5, kR1_6, kR1_7, kR1_8, kR1_9, kR1_10, kR1_11, kR1_12, kR1_13, kC2, kG2, kP2, kR2_0, kR2_1, kC3, kG3, kP3, kR3_0, kR3_1, kR3_2, kR3_3, kL4, kA4, kS4, kL5, kA5, kS5, kL6, kA6, kS6, kL7, kA7, kS7, kC8, kG8, kP8, kR8_0, kR8_1, kL9, kA9, kS9, kL10, kA10, kS10, kC11, kG11, kP11, kR11_0, kR11_1, kR11_2, kR11_3, kL12, kA12, kS12, kL13, kA13, kS13, kL14, kA14, kS14, kL15, kA15, kS15, kC16, kG16, kP16, kR16_0, kR16_1, kL17, kA17, kS17, kL18, kA18, kS18, kC19, kG19, kP19, kR19_0, kL20, kL141, kL146, kA146, kS146, kL151, kA151, kS151, kL156, kA156, kS156, kC157, kG157, kP157, kR157_0, kR157_1, kL158, kA158, kS158, kL159, kA159, kS159, kC161, kG161, kP161, kR161_0, kR161_1, kL162, kA162, kS162, kL163, kA163, kS163, kC165, kG165, kP165, kR165_0, kR165_1, kR165_2, kR165_3, kL166, kA166, kS166, kL167, kA167, kS167, kL168, kA168, kS168, kL169, kA169, kS169, kC170, kG170, kP170, kR170_0, kR170_1, kR170_2, kL171, kA171, kS171, kL172, kA172, kS172, kL173, kA173, kS173, kC174, kG174, kP174, kR174_0, kR174_1, kR174_2, kR174_3, kR174_4, kL175, kA175, kS175, kL176, kA176, kS176, kL177, kA177, kS177, kL178, kA178, kS178, kL179, kC180, kG180, kP180, kL181, kL182, kA182, kS182, kC183, kG183, kP183, kR183_1, kR183_3, kR183_5, kR183_6, kR183_7, kR183_8, kR183_9, kR183_21, kR183_26, kR183_27, kR183_30, kR183_31, kR183_33, kR183_34, kR183_36, kR183_37, kR183_38, kR183_39, kR183_40, kR183_41, kR183_42, kR183_43, kR183_44, kL184, kA184, kS184, kL185, kA185, kS185, kL186, kA186, kS186, kL187, kA187, kS187, kL188, kA188, kS188, kL189, kL190, kL191, kA191, kS191, kL192, kA192, kS192, kL193, kA193, kS193, kL194, kA194, kS194, kL195, kA195, kS195, kL196, kA196, kS196, kL197, kA197, kS197, kL198, kA198, kS198, kL199, kA199, kS199, kL200, kA200, kS200, kL201, kL202, kA202, kS202, kL203, kA203, kS203, kL204, kA204, kS204, kL205, kL206, kA206, kS206, states12_ok hS hG, nn_le, Nat.le_refl]
theorem op_both : Op_both INV := by
  intro n σ hn ⟨g, gT, gP, st, H⟩ x y
  obtain ⟨τ, I', e1, e2, H1, H2, hS, hG1, hG2, ho, hSR, hE, hL, hK, r1, r2, u1, u2⟩ := both_ready (by omega) H
  have hg := hG1.1
  have hSt := (gSt_b hg).1
  refine ⟨nI (fb_ct (fun s => lW g (xI σ 191) s && decide (iI (eE g (zR (xI σ 191)) s) = x) && decide (nI (pC s) = y)) (gSt g)), τ, xw τ I', ?_, ?_, INV_i H2.nop⟩
  · unfold f_X11_both
    rw [xck_ok (sT1 H.shp), Option.bind_some, e1, Option.bind_some]
    dsimp only
    rw [xnz_ok (by decide), Option.bind_some]
    unfold f_X11_both_j4
    rw [xck_ok (sT165 hS), Option.bind_some]
    by_cases hx : x.toInt < -144 ∨ 144 < x.toInt
    · rw [withUps_no _ (.inl hx)]
      have : fb_ct (fun s => lW g (xI σ 191) s && decide (iI (eE g (zR (xI σ 191)) s) = x) && decide (nI (pC s) = y)) (gSt g) = 0 := fb_ct_zero.mpr (fun s _ => by
        have hb := eE_b hg ho s
        have : ¬ iI (eE g (zR (xI σ 191)) s) = x := fun z => by
          have := congrArg Int32.toInt z
          rw [iI_ti (by omega) (by omega)] at this
          omega
        simp [this])
      rw [this]; rfl
    · by_cases hy : y < 0 ∨ 17 ≤ y
      · rw [withUps_no _ (.inr hy)]
        have : fb_ct (fun s => lW g (xI σ 191) s && decide (iI (eE g (zR (xI σ 191)) s) = x) && decide (nI (pC s) = y)) (gSt g) = 0 := fb_ct_zero.mpr (fun s _ => by
          have hb := pC_16 s
          have : ¬ nI (pC s) = y := fun z => by
            rw [← z] at hy
            rcases hy with q | q
            · exact nI_pos (by omega) q
            · rw [show (17 : Int32) = nI 17 from rfl, nn_le (by omega) (by omega)] at q
              omega
          simp [this])
        rw [this]; rfl
      · obtain ⟨u, hu, rfl⟩ := nn_of (fun z => hy (.inl z))
        have hu17 : u < 17 := by
          rcases Nat.lt_or_ge u 17 with z | z
          · exact z
          · exfalso; apply hy; right
            rw [show (17 : Int32) = nI 17 from rfl, nn_le (by omega) (by omega)]; exact z
        obtain ⟨k, hk, rfl⟩ : ∃ k : Nat, k < 289 ∧ x = iI ((k : Int) - 144) := ⟨(x.toInt + 144).toNat, by omega, by
          rw [show (((x.toInt + 144).toNat : Int) - 144) = x.toInt by omega]; exact iI_of x⟩
        have := withUps_ok (σ := τ) (J := xI τ) hS hL hk hu17
        rw [xw_self] at this
        rw [this, Option.bind_some]
        congr 3
        unfold lU lE
        apply fb_ct_cong
        intro s _
        have hb := eE_b hg ho s
        have hb2 := pC_16 s
        have q1 : (iI (eE g (zR (xI σ 191)) s) = iI ((k : Int) - 144)) = (eE g (zR (xI σ 191)) s = (k : Int) - 144) := iI_eq (by omega) (by omega) (by omega) (by omega)
        have q2 : (nI (pC s) = nI u) = (pC s = u) := nn_eq (by omega) (by omega)
        simp only [q1, q2]
  · show f_X12_both τ 183 x y = _
    unfold f_X12_both
    rw [xck_ok (sT183 hS), Option.bind_some, e2, Option.bind_some]
    exact both12 hS hG2 ho hK x y
