/-! states, lawful states, bits -/
theorem xallL {α β : Type} {f : α → Option (α ⊕ β)} {a0 : α} (s : Nat → α) (N : Nat) (p : Nat → Bool) {bad good : β} (h0 : a0 = s 0) (h1 : ∀ i, i < N → p i = true → f (s i) = some (.inl (s (i + 1)))) (h2 : ∀ i, i < N → p i = false → f (s i) = some (.inr bad)) (h3 : f (s N) = some (.inr good)) : xloop f a0 = some (if (List.range N).all p then good else bad) := by
  have key : ∀ m i, i + m = N → ((∀ j, i ≤ j → j < N → p j = true) → xloop f (s i) = some good) ∧ ((∃ j, i ≤ j ∧ j < N ∧ p j = false) → xloop f (s i) = some bad) := by
    intro m
    induction m with
    | zero =>
      intro i hi
      have : i = N := by omega
      subst this
      exact ⟨fun _ => xloop_end h3, fun ⟨j, q1, q2, _⟩ => by omega⟩
    | succ m ih =>
      intro i hi
      have h := ih (i + 1) (by omega)
      by_cases hp : p i = true
      · rw [xloop_step (h1 i (by omega) hp)]
        refine ⟨fun q => h.1 (fun j z1 z2 => q j (by omega) z2), fun ⟨j, z1, z2, z3⟩ => h.2 ⟨j, ?_, z2, z3⟩⟩
        by_cases w : j = i
        · rw [w, hp] at z3
          exact absurd z3 (by decide)
        · omega
      · have hp : p i = false := Bool.not_eq_true _ ▸ hp
        refine ⟨fun q => ?_, fun _ => xloop_end (h2 i (by omega) hp)⟩
        have := q i (Nat.le_refl _) (by omega)
        rw [hp] at this
        exact absurd this (by decide)
  rw [h0]
  cases hall : (List.range N).all p with
  | true =>
    rw [List.all_eq_true] at hall
    rw [(key N 0 (by omega)).1 (fun j _ hj => hall j (List.mem_range.mpr hj))]
    rfl
  | false =>
    rw [List.all_eq_false] at hall
    obtain ⟨j, hj, hpj⟩ := hall
    rw [(key N 0 (by omega)).2 ⟨j, Nat.zero_le _, List.mem_range.mp hj, Bool.not_eq_true _ ▸ hpj⟩]
    rfl
theorem gSt_b {g : GD} (hg : g ∈ gAll) : gSt g ≤ 65536 ∧ gSt g ≤ 2 ^ gSz g := by
  have h16 := (gAll_b g hg).2.2.1
  unfold gSt
  have : 2 ^ gSz g ≤ 2 ^ 16 := Nat.pow_le_pow_right (by decide) h16
  split
  · exact ⟨by omega, Nat.zero_le _⟩
  · exact ⟨by omega, Nat.le_refl _⟩
theorem gSt_pos {g : GD} {s : Nat} (h : s < gSt g) : 0 < gSz g ∧ s < 2 ^ gSz g := by
  unfold gSt at h
  split at h
  · omega
  · exact ⟨by omega, h⟩
theorem gSt_flip {g : GD} {s i : Nat} (h : s < gSt g) (hi : i < gSz g) : s ^^^ 2 ^ i < gSt g := by
  have h1 := gSt_pos h
  have : s ^^^ 2 ^ i < 2 ^ gSz g := Nat.xor_lt_two_pow h1.2 (Nat.pow_lt_pow_right (by decide) hi)
  unfold gSt
  rw [if_neg (by omega)]
  exact this
theorem lW_iff {g : GD} {F : Nat → Int32} {s : Nat} : lW g F s = true ↔ ∀ i, i < gSz g → F (48 + i) ≠ 0 → s.testBit i = decide (F (48 + i) = 1) := by
  unfold lW
  rw [List.all_eq_true]
  constructor
  · intro h i hi hne
    have := h i (List.mem_range.mpr hi)
    simp only [hne, decide_false, Bool.false_or, beq_iff_eq] at this
    exact this
  · intro h i hi
    by_cases hne : F (48 + i) = 0
    · simp [hne]
    · have := h i (List.mem_range.mp hi) hne
      simp [hne, this]
section STATES
variable {σ : XS} {I : Nat → Nat → Int32} {g : GD} {a : Nat} {F : Nat → Int32}
theorem states11_ok (hS : Shp σ) (hG : GRD I g) : f_X3_states (xw σ I) 11 = some (nI (gSt g)) := by
  have h16 := (gAll_b g hG.1).2.2.1
  unfold f_X3_states gSt
  have e : (nI (gSz g) ≤ 0) = (gSz g ≤ 0) := nn_le (b := 0) (by omega) (by decide)
  simp (disch := first | assumption | omega) only [Option.bind_some, Option.map_some, xw_gR, xw_gN, xw_al, xw_ck, xw_uI, xw_ur, xup_at, xur_at, if_true, if_false, reduceIte, and_true, true_and, and_false, false_and, not_true_eq_false, not_false_eq_true, Nat.reduceEqDiff, eq_self, Nat.reduceAdd, Nat.reduceMul, kC1, kG1, kP1, kR1_0, kR1_1, kR1_2, kR1_3, kR1_4, kR1_5, kR1_6, kR1_7, kR1_8, kR1_9, kR1_10, kR1_11, kR1_12, kR1_13, kC2, kG2, kP2, kR2_0, kR2_1, kC3, kG3, kP3, kR3_0, kR3_1, kR3_2, kR3_3, kL4, kA4, kS4, kL5, kA5, kS5, kL6, kA6, kS6, kL7, kA7, kS7, kC8, kG8, kP8, kR8_0, kR8_1, kL9, kA9, kS9, kL10, kA10, kS10, kC11, kG11, kP11, kR11_0, kR11_1, kR11_2, kR11_3, kL12, kA12, kS12, kL13, kA13, kS13, kL14, kA14, kS14, kL15, kA15, kS15, kC16, kG16, kP16, kR16_0, kR16_1, kL17, kA17, kS17, kL18, kA18, kS18, kC19, kG19, kP19, kR19_0, kL20, kL141, kL146, kA146, kS146, kL151, kA151, kS151, kL156, kA156, kS156, kC157, kG157, kP157, kR157_0, kR157_1, kL158, kA158, kS158, kL159, kA159, kS159, kC161, kG161, kP161, kR161_0, kR161_1, kL162, kA162, kS162, kL163, kA163, kS163, kC165, kG165, kP165, kR165_0, kR165_1, kR165_2, kR165_3, kL166, kA166, kS166, kL167, kA167, kS167, kL168, kA168, kS168, kL169, kA169, kS169, kC170, kG170, kP170, kR170_0, kR170_1, kR170_2, kL171, kA171, kS171, kL172, kA172, kS172, kL173, kA173, kS173, kC174, kG174, kP174, kR174_0, kR174_1, kR174_2, kR174_3, kR174_4, kL175, kA175, kS175, kL176, kA176, kS176, kL177, kA177, kS177, kL178, kA178, kS178, kL179, kC180, kG180, kP180, kL181, kL182, kA182, kS182, kC183, kG183, kP183, kR183_1, kR183_3, kR183_5, kR183_6, kR183_7, kR183_8, kR183_9, kR183_21, kR183_26, kR183_27, kR183_30, kR183_31, kR183_33, kR183_34, kR183_36, kR183_37, kR183_38, kR183_39, kR183_40, kR183_41, kR183_42, kR183_43, kR183_44, kL184, kA184, kS184, kL185, kA185, kS185, kL186, kA186, kS186, kL187, kA187, kS187, kL188, kA188, kS188, kL189, kL190, kL191, kA191, kS191, kL192, kA192, kS192, kL193, kA193, kS193, kL194, kA194, kS194, kL195, kA195, kS195, kL196, kA196, kS196, kL197, kA197, kS197, kL198, kA198, kS198, kL199, kA199, kS199, kL200, kA200, kS200, kL201, kL202, kA202, kS202, kL203, kA203, kS203, kL204, kA204, kS204, kL205, kL206, kA206, kS206, hG.2.2.2.2.1, e, nn_one]
  by_cases h : gSz g = 0
  · rw [if_pos (by omega), if_pos h]; rfl
  · rw [if_neg (by omega), if_neg h]
theorem states12_ok (hS : Shp σ) (hG : GRD I g) : f_X12_states (xw σ I) 183 = some (nI (gSt g)) := by
  have h16 := (gAll_b g hG.1).2.2.1
  unfold f_X12_states gSt
  have e : (nI (gSz g) = 0) = (gSz g = 0) := nn_eq (b := 0) (by omega) (by decide)
  simp (disch := first | assumption | omega) only [Option.bind_some, Option.map_some, xw_gR, xw_gN, xw_al, xw_ck, xw_uI, xw_ur, xup_at, xur_at, if_true, if_false, reduceIte, and_true, true_and, and_false, false_and, not_true_eq_false, not_false_eq_true, Nat.reduceEqDiff, eq_self, Nat.reduceAdd, Nat.reduceMul, kC1, kG1, kP1, kR1_0, kR1_1, kR1_2, kR1_3, kR1_4, kR1_5, kR1_6, kR1_7, kR1_8, kR1_9, kR1_10, kR1_11, kR1_12, kR1_13, kC2, kG2, kP2, kR2_0, kR2_1, kC3, kG3, kP3, kR3_0, kR3_1, kR3_2, kR3_3, kL4, kA4, kS4, kL5, kA5, kS5, kL6, kA6, kS6, kL7, kA7, kS7, kC8, kG8, kP8, kR8_0, kR8_1, kL9, kA9, kS9, kL10, kA10, kS10, kC11, kG11, kP11, kR11_0, kR11_1, kR11_2, kR11_3, kL12, kA12, kS12, kL13, kA13, kS13, kL14, kA14, kS14, kL15, kA15, kS15, kC16, kG16, kP16, kR16_0, kR16_1, kL17, kA17, kS17, kL18, kA18, kS18, kC19, kG19, kP19, kR19_0, kL20, kL141, kL146, kA146, kS146, kL151, kA151, kS151, kL156, kA156, kS156, kC157, kG157, kP157, kR157_0, kR157_1, kL158, kA158, kS158, kL159, kA159, kS159, kC161, kG161, kP161, kR161_0, kR161_1, kL162, kA162, kS162, kL163, kA163, kS163, kC165, kG165, kP165, kR165_0, kR165_1, kR165_2, kR165_3, kL166, kA166, kS166, kL167, kA167, kS167, kL168, kA168, kS168, kL169, kA169, kS169, kC170, kG170, kP170, kR170_0, kR170_1, kR170_2, kL171, kA171, kS171, kL172, kA172, kS172, kL173, kA173, kS173, kC174, kG174, kP174, kR174_0, kR174_1, kR174_2, kR174_3, kR174_4, kL175, kA175, kS175, kL176, kA176, kS176, kL177, kA177, kS177, kL178, kA178, kS178, kL179, kC180, kG180, kP180, kL181, kL182, kA182, kS182, kC183, kG183, kP183, kR183_1, kR183_3, kR183_5, kR183_6, kR183_7, kR183_8, kR183_9, kR183_21, kR183_26, kR183_27, kR183_30, kR183_31, kR183_33, kR183_34, kR183_36, kR183_37, kR183_38, kR183_39, kR183_40, kR183_41, kR183_42, kR183_43, kR183_44, kL184, kA184, kS184, kL185, kA185, kS185, kL186, kA186, kS186, kL187, kA187, kS187, kL188, kA188, kS188, kL189, kL190, kL191, kA191, kS191, kL192, kA192, kS192, kL193, kA193, kS193, kL194, kA194, kS194, kL195, kA195, kS195, kL196, kA196, kS196, kL197, kA197, kS197, kL198, kA198, kS198, kL199, kA199, kS199, kL200, kA200, kS200, kL201, kL202, kA202, kS202, kL203, kA203, kS203, kL204, kA204, kS204, kL205, kL206, kA206, kS206, sites_ok hS hG, e, nn_one]
  by_cases h : gSz g = 0
  · rw [if_pos h, if_pos h]; rfl
  · rw [if_neg h, if_neg h]
theorem allows_ok (hS : Shp σ) (hg : g ∈ gAll) (ha : a ∈ suA) (h : SR g I a F) (s : Nat) : f_X6_allows (xw σ I) a (nI s) = some (if lW g F s then 1 else 0) := by
  have h16 := (gAll_b g hg).2.2.1
  obtain ⟨-, -, ⟨p, u, e3, e4, e5, e6⟩, -, -⟩ := h
  have hp : p < 65536 := Nat.lt_pow_two_of_testBit (n := 16) p (fun j hj => by rw [e5]; simp; omega)
  have hu : u < 65536 := Nat.lt_pow_two_of_testBit (n := 16) u (fun j hj => by rw [e6]; simp; omega)
  have hsp : s &&& p < 65536 := Nat.lt_of_le_of_lt Nat.and_le_right hp
  unfold f_X6_allows
  simp (disch := first | assumption | omega) only [Option.bind_some, Option.map_some, xw_gR, xw_gN, xw_al, xw_ck, xw_uI, xw_ur, xup_at, xur_at, if_true, if_false, reduceIte, and_true, true_and, and_false, false_and, not_true_eq_false, not_false_eq_true, Nat.reduceEqDiff, eq_self, Nat.reduceAdd, Nat.reduceMul, suG hS ha, e3, e4, fa_and]
  have e : (nI (s &&& p) = nI u) = (lW g F s = true) := by
    rw [nn_eq (by omega) (by omega), lW_iff]
    apply propext
    constructor
    · intro h i hi hne
      have := congrArg (fun x => Nat.testBit x i) h
      simp [Nat.testBit_and, e5, e6, hi, hne] at this
      exact this
    · intro h
      apply Nat.eq_of_testBit_eq
      intro i
      rw [Nat.testBit_and, e5, e6]
      by_cases hi : i < gSz g
      · by_cases hne : F (48 + i) = 0
        · simp [hi, hne]
        · rw [h i hi hne]; simp [hi, hne]
      · simp [hi]
  simp only [e]
  split <;> rfl
theorem lawfulBy_ok (hS : Shp σ) (ha : σ.1 a = (20, 66)) {k s : Nat} (hs : s < 2147483648) (hk : k ≤ 16) (hp : ∀ i, i < k → I a (48 + i) = 0 ∨ I a (48 + i) = 1 ∨ I a (48 + i) = 2) : f_X12_isLawfulBy (xw σ I) a (nI s) (nI k) = some (if (List.range k).all (fun i => decide (I a (48 + i) = 0) || (s.testBit i == decide (I a (48 + i) = 1))) then 1 else 0) := by
  unfold f_X12_isLawfulBy
  have hv : ∀ i, i < k → xaI (xw σ I) 20 a ((48 : Int32) + nI i) = some (I a (48 + i)) := fun i hi => by
    rw [show (48 : Int32) = nI 48 from rfl, nn_add]; exact xw_aI ha (by omega) (by decide)
  refine xallL (fun i : Nat => nI i) k _ rfl (fun i hi hpi => ?_) (fun i hi hpi => ?_) ?_
  · simp only [f_X12_isLawfulBy_b2]
    rw [if_neg (by rw [nn_le (by omega) (by omega)]; omega), hv i hi, Option.bind_some, Option.bind_some, nn_bit hs (by omega), ← nI_succ]
    rcases hp i hi with z | z | z
    · rw [z, if_pos (by decide)]
    · rw [z, if_neg (by decide)]
      rw [z] at hpi
      have : s.testBit i = true := by simpa using hpi
      rw [this, if_pos (by decide)]
    · rw [z, if_neg (by decide)]
      rw [z] at hpi
      have : s.testBit i = false := by simpa using hpi
      rw [this, if_pos (by decide)]
  · simp only [f_X12_isLawfulBy_b2]
    rw [if_neg (by rw [nn_le (by omega) (by omega)]; omega), hv i hi, Option.bind_some, Option.bind_some, nn_bit hs (by omega)]
    rcases hp i hi with z | z | z
    · rw [z] at hpi; simp at hpi
    · rw [z, if_neg (by decide)]
      rw [z] at hpi
      have : s.testBit i = false := by simpa using hpi
      rw [this, if_neg (by decide)]
      rfl
    · rw [z, if_neg (by decide)]
      rw [z] at hpi
      have : s.testBit i = true := by simpa using hpi
      rw [this, if_neg (by decide)]
      rfl
  · simp only [f_X12_isLawfulBy_b2]
    rw [if_pos (by rw [nn_le (by omega) (by omega)]; exact Nat.le_refl _)]
    rfl
def isB (g : GD) (F : Nat → Int32) (x : Int32) : Bool := decide (0 ≤ x.toInt) && decide (x.toInt < (gSt g : Int)) && lW g F x.toInt.toNat
theorem isB_t {x : Int32} (h : isB g F x = true) : ∃ s, s < gSt g ∧ x = nI s ∧ lW g F s = true := by
  unfold isB at h
  simp only [Bool.and_eq_true, decide_eq_true_eq] at h
  refine ⟨x.toInt.toNat, by omega, ?_, h.2⟩
  rw [iI_n, Int.toNat_of_nonneg h.1.1]
  exact iI_of x
theorem isB_n (hg : g ∈ gAll) {s : Nat} (h : s < gSt g) : isB g F (nI s) = lW g F s := by
  have := (gSt_b hg).1
  unfold isB
  rw [nI_toInt (by omega)]
  have h2 : ((s : Int) < (gSt g : Int)) := by omega
  simp [h2]
theorem isLawful12_ok (hS : Shp σ) (hG : GRD I g) (ho : RO g (I 191)) (x : Int32) : f_X12_isLawful (xw σ I) 183 x = some (if isB g (I 191) x then 1 else 0) := by
  have h16 := (gAll_b g hG.1).2.2.1
  have hSt := (gSt_b hG.1).1
  unfold f_X12_isLawful
  simp (disch := first | assumption | omega) only [Option.bind_some, Option.map_some, xw_gR, xw_gN, xw_al, xw_ck, xw_uI, xw_ur, xup_at, xur_at, if_true, if_false, reduceIte, and_true, true_and, and_false, false_and, not_true_eq_false, not_false_eq_true, Nat.reduceEqDiff, eq_self, Nat.reduceAdd, Nat.reduceMul, kC1, kG1, kP1, kR1_0, kR1_1, kR1_2, kR1_3, kR1_4, kR1_5, kR1_6, kR1_7, kR1_8, kR1_9, kR1_10, kR1_11, kR1_12, kR1_13, kC2, kG2, kP2, kR2_0, kR2_1, kC3, kG3, kP3, kR3_0, kR3_1, kR3_2, kR3_3, kL4, kA4, kS4, kL5, kA5, kS5, kL6, kA6, kS6, kL7, kA7, kS7, kC8, kG8, kP8, kR8_0, kR8_1, kL9, kA9, kS9, kL10, kA10, kS10, kC11, kG11, kP11, kR11_0, kR11_1, kR11_2, kR11_3, kL12, kA12, kS12, kL13, kA13, kS13, kL14, kA14, kS14, kL15, kA15, kS15, kC16, kG16, kP16, kR16_0, kR16_1, kL17, kA17, kS17, kL18, kA18, kS18, kC19, kG19, kP19, kR19_0, kL20, kL141, kL146, kA146, kS146, kL151, kA151, kS151, kL156, kA156, kS156, kC157, kG157, kP157, kR157_0, kR157_1, kL158, kA158, kS158, kL159, kA159, kS159, kC161, kG161, kP161, kR161_0, kR161_1, kL162, kA162, kS162, kL163, kA163, kS163, kC165, kG165, kP165, kR165_0, kR165_1, kR165_2, kR165_3, kL166, kA166, kS166, kL167, kA167, kS167, kL168, kA168, kS168, kL169, kA169, kS169, kC170, kG170, kP170, kR170_0, kR170_1, kR170_2, kL171, kA171, kS171, kL172, kA172, kS172, kL173, kA173, kS173, kC174, kG174, kP174, kR174_0, kR174_1, kR174_2, kR174_3, kR174_4, kL175, kA175, kS175, kL176, kA176, kS176, kL177, kA177, kS177, kL178, kA178, kS178, kL179, kC180, kG180, kP180, kL181, kL182, kA182, kS182, kC183, kG183, kP183, kR183_1, kR183_3, kR183_5, kR183_6, kR183_7, kR183_8, kR183_9, kR183_21, kR183_26, kR183_27, kR183_30, kR183_31, kR183_33, kR183_34, kR183_36, kR183_37, kR183_38, kR183_39, kR183_40, kR183_41, kR183_42, kR183_43, kR183_44, kL184, kA184, kS184, kL185, kA185, kS185, kL186, kA186, kS186, kL187, kA187, kS187, kL188, kA188, kS188, kL189, kL190, kL191, kA191, kS191, kL192, kA192, kS192, kL193, kA193, kS193, kL194, kA194, kS194, kL195, kA195, kS195, kL196, kA196, kS196, kL197, kA197, kS197, kL198, kA198, kS198, kL199, kA199, kS199, kL200, kA200, kS200, kL201, kL202, kA202, kS202, kL203, kA203, kS203, kL204, kA204, kS204, kL205, kL206, kA206, kS206, states12_ok hS hG, sites_ok hS hG]
  unfold f_X12_in
  have e : nI (gSt g) - 1 = iI ((gSt g : Int) - 1) := by rw [iI_n, show (1 : Int32) = iI 1 from rfl, iI_sub]
  have hr := x.toInt_lt
  have hl := x.le_toInt
  have c1 : (x < 0) = (x.toInt < 0) := propext (fa_lt _ _)
  have c2 : (iI ((gSt g : Int) - 1) < x) = ((gSt g : Int) - 1 < x.toInt) := by
    rw [fa_lt, iI_ti (by omega) (by omega)]
  simp only [e, c1, c2]
  by_cases h1 : x.toInt < 0
  · rw [if_pos h1]
    have : isB g (I 191) x = false := by unfold isB; simp; omega
    rw [this]; rfl
  · by_cases h2 : (gSt g : Int) - 1 < x.toInt
    · rw [if_neg h1, if_pos h2]
      have : isB g (I 191) x = false := by unfold isB; simp; omega
      rw [this]; rfl
    · rw [if_neg h1, if_neg h2, Option.bind_some, if_neg (by decide)]
      have hx0 : ¬ x < 0 := by rw [c1]; exact h1
      obtain ⟨s, hs, rfl⟩ := nn_of hx0
      rw [nI_toInt hs] at h2
      rw [isB_n hG.1 (by omega), lawfulBy_ok hS (xw_K hS (by decide) (by decide) (by decide)) hs h16 (fun i hi => (ho.2.1 i (by omega)).1), Option.bind_some]
      show _ = some (if lW g (I 191) s = true then 1 else 0)
      unfold lW
      cases (List.range (gSz g)).all (fun i => decide (I 191 (48 + i) = 0) || (s.testBit i == decide (I 191 (48 + i) = 1))) <;> rfl
theorem bitsOf_l : ∀ (m c s : Nat), m ≤ 31 → s < 2 ^ m → xloop f_X12_bitsOf_b4 (nI c, nI s) = some (nI (c + fb_ct (fun i => s.testBit i) m)) := by
  intro m
  induction m with
  | zero =>
    intro c s hm hs
    have : s = 0 := by simpa using hs
    subst this
    exact xloop_end rfl
  | succ m ih =>
    intro c s hm hs
    have hsb : s < 2147483648 := Nat.lt_of_lt_of_le hs (Nat.pow_le_pow_right (by decide) hm)
    by_cases h0 : s = 0
    · subst h0
      have : fb_ct (fun i => (0 : Nat).testBit i) (m + 1) = 0 := fb_ct_zero.mpr (fun k _ => Nat.zero_testBit k)
      rw [this]
      exact xloop_end rfl
    · have hst : f_X12_bitsOf_b4 (nI c, nI s) = some (.inl (nI (c + s % 2), nI (s / 2))) := by
        simp only [f_X12_bitsOf_b4]
        rw [if_neg (nI_nle (by omega) (by omega)), show (1 : Int32) = nI (2 ^ 1 - 1) from rfl, fa_mask, nn_add]
        have := nn_shr (a := s) (k := 1) hsb (by decide)
        rw [show nI (2 ^ 1 - 1) = nI 1 from rfl, this]
      rw [xloop_step hst, ih (c + s % 2) (s / 2) (by omega) (by rw [Nat.pow_succ] at hs; omega)]
      congr 2
      rw [Nat.add_comm m 1, fb_ct_split]
      have e1 : fb_ct (fun i => s.testBit i) 1 = s % 2 := by
        show 0 + (if s.testBit 0 then 1 else 0) = s % 2
        rw [Nat.testBit_zero]
        by_cases q : s % 2 = 1
        · simp [q]
        · simp [q]; omega
      have e2 : fb_ct (fun i => s.testBit (1 + i)) m = fb_ct (fun i => (s / 2).testBit i) m := fb_ct_cong (fun i _ => by rw [Nat.add_comm 1 i, Nat.testBit_succ])
      rw [e1, e2]; omega
theorem bitsOf_ok {s : Nat} (hs : s < 65536) : f_X12_bitsOf (nI s) = some (nI (pC s)) := by
  unfold f_X12_bitsOf pC
  have := bitsOf_l 16 0 s (by decide) hs
  rw [Nat.zero_add] at this
  exact this
end STATES
