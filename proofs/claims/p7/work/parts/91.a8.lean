/-! the steepest turn; where none helps -/
def sp (g : GD) (F : Nat → Int32) (s : Nat) : Nat → Int × Option Nat
  | 0 => (0, none)
  | i + 1 => if F (48 + i) = 0 ∧ eC g (zR F) s i < (sp g F s i).1 then (eC g (zR F) s i, some i) else sp g F s i
theorem sp_le (g : GD) (F : Nat → Int32) (s : Nat) : ∀ m, (sp g F s m).1 ≤ 0 ∧ ∀ i, i < m → F (48 + i) = 0 → (sp g F s m).1 ≤ eC g (zR F) s i
  | 0 => ⟨Int.le_refl _, fun i h => by omega⟩
  | m + 1 => by
    have ih := sp_le g F s m
    rw [sp]
    split
    · next h =>
      refine ⟨by show eC g (zR F) s m ≤ 0; omega, fun i hi h0 => ?_⟩
      by_cases z : i = m
      · rw [z]; exact Int.le_refl _
      · have := ih.2 i (by omega) h0
        show eC g (zR F) s m ≤ _
        omega
    · next h =>
      refine ⟨ih.1, fun i hi h0 => ?_⟩
      by_cases z : i = m
      · subst z
        have : ¬ eC g (zR F) s i < (sp g F s i).1 := fun w => h ⟨h0, w⟩
        omega
      · exact ih.2 i (by omega) h0
theorem sp_some (g : GD) (F : Nat → Int32) (s : Nat) : ∀ m, ((sp g F s m).2 = none → (sp g F s m).1 = 0) ∧ ∀ i, (sp g F s m).2 = some i → i < m ∧ F (48 + i) = 0 ∧ eC g (zR F) s i = (sp g F s m).1 ∧ (sp g F s m).1 < 0
  | 0 => ⟨fun _ => rfl, fun i h => nomatch h⟩
  | m + 1 => by
    have ih := sp_some g F s m
    have hl := sp_le g F s m
    rw [sp]
    split
    · next h =>
      refine ⟨(fun z => nomatch z), fun i hi => ?_⟩
      cases hi
      exact ⟨by omega, h.1, rfl, by show eC g (zR F) s m < 0; omega⟩
    · next h =>
      refine ⟨ih.1, fun i hi => ?_⟩
      have := ih.2 i hi
      exact ⟨by omega, this.2⟩
theorem sp_none (g : GD) (F : Nat → Int32) (s m : Nat) : (sp g F s m).2 = none ↔ ∀ i, i < m → F (48 + i) = 0 → 0 ≤ eC g (zR F) s i := by
  constructor
  · intro h i hi h0
    have h1 := (sp_some g F s m).1 h
    have h2 := (sp_le g F s m).2 i hi h0
    omega
  · intro h
    cases hq : (sp g F s m).2 with
    | none => rfl
    | some i =>
      have := (sp_some g F s m).2 i hq
      have := h i this.1 this.2.1
      omega
theorem sp_b {g : GD} (hg : g ∈ gAll) {F : Nat → Int32} (ho : RO g F) (s : Nat) {i : Nat} (hi : i < gSz g) : -288 ≤ eC g (zR F) s i ∧ eC g (zR F) s i ≤ 288 := by
  have h1 := eE_b hg ho s
  have h2 := eE_b hg ho (s ^^^ 2 ^ i)
  rw [eE_flip hg _ hi] at h2
  omega
theorem sp_lb {g : GD} (hg : g ∈ gAll) {F : Nat → Int32} (ho : RO g F) (s : Nat) : ∀ m, m ≤ gSz g → -288 ≤ (sp g F s m).1
  | 0, _ => by show -288 ≤ (0 : Int); omega
  | m + 1, h => by
    rw [sp]
    split
    · exact (sp_b hg ho s (by omega)).1
    · exact sp_lb hg ho s m (by omega)
theorem lW_flip {g : GD} {F : Nat → Int32} {s i : Nat} (hi : i < gSz g) (h : lW g F s = true) : lW g F (s ^^^ 2 ^ i) = decide (F (48 + i) = 0) := by
  rw [Bool.eq_iff_iff, lW_iff, decide_eq_true_eq]
  rw [lW_iff] at h
  constructor
  · intro h2
    by_cases hne : F (48 + i) = 0
    · exact hne
    · exfalso
      have a := h i hi hne
      have b := h2 i hi hne
      rw [fb_bit_flip, a] at b
      simp at b
  · intro h0 j hj hne
    rw [fb_bit_flip, h j hj hne]
    have : j ≠ i := fun z => hne (z ▸ h0)
    simp [this]
section STEEP
variable {σ : XS} {J : Nat → Nat → Int32} {g : GD} {F : Nat → Int32} {c m : Nat}
theorem oI_step (o : Option Nat) (i : Nat) : oI (some i) = nI i := rfl
theorem steep12_ok (hS : Shp σ) (hG : GRD J g) (ho : RO g F) (hK : KNK J g F) {s : Nat} (hs : s < gSt g) (hl : lW g F s = true) : f_X12_steepest (xw σ J) 183 (nI s) = some (oI (sp g F s (gSz g)).2) := by
  have hg := hG.1
  have h16 := (gAll_b g hg).2.2.1
  have hSt := (gSt_b hg).1
  have hEb := eE_b hg ho s
  have hv := hK.1 s hs
  rw [hl, if_pos rfl] at hv
  unfold f_X12_steepest
  simp (disch := first | assumption | omega) only [Option.bind_some, Option.map_some, xw_gR, xw_gN, xw_al, xw_ck, xw_uI, xw_ur, xup_at, xur_at, if_true, if_false, reduceIte, and_true, true_and, and_false, false_and, not_true_eq_false, not_false_eq_true, Nat.reduceEqDiff, eq_self, Nat.reduceAdd, Nat.reduceMul, kC1, kG1, kP1, kR1_0, kR1_1, kR1_2, kR1_3, kR1_4, kR1_5, kR1_6, kR1_7, kR1_8, kR1_9, kR1_10, kR1_11, kR1_12, kR1_13, kC2, kG2, kP2, kR2_0, kR2_1, kC3, kG3, kP3, kR3_0, kR3_1, kR3_2, kR3_3, kL4, kA4, kS4, kL5, kA5, kS5, kL6, kA6, kS6, kL7, kA7, kS7, kC8, kG8, kP8, kR8_0, kR8_1, kL9, kA9, kS9, kL10, kA10, kS10, kC11, kG11, kP11, kR11_0, kR11_1, kR11_2, kR11_3, kL12, kA12, kS12, kL13, kA13, kS13, kL14, kA14, kS14, kL15, kA15, kS15, kC16, kG16, kP16, kR16_0, kR16_1, kL17, kA17, kS17, kL18, kA18, kS18, kC19, kG19, kP19, kR19_0, kL20, kL141, kL146, kA146, kS146, kL151, kA151, kS151, kL156, kA156, kS156, kC157, kG157, kP157, kR157_0, kR157_1, kL158, kA158, kS158, kL159, kA159, kS159, kC161, kG161, kP161, kR161_0, kR161_1, kL162, kA162, kS162, kL163, kA163, kS163, kC165, kG165, kP165, kR165_0, kR165_1, kR165_2, kR165_3, kL166, kA166, kS166, kL167, kA167, kS167, kL168, kA168, kS168, kL169, kA169, kS169, kC170, kG170, kP170, kR170_0, kR170_1, kR170_2, kL171, kA171, kS171, kL172, kA172, kS172, kL173, kA173, kS173, kC174, kG174, kP174, kR174_0, kR174_1, kR174_2, kR174_3, kR174_4, kL175, kA175, kS175, kL176, kA176, kS176, kL177, kA177, kS177, kL178, kA178, kS178, kL179, kC180, kG180, kP180, kL181, kL182, kA182, kS182, kC183, kG183, kP183, kR183_1, kR183_3, kR183_5, kR183_6, kR183_7, kR183_8, kR183_9, kR183_21, kR183_26, kR183_27, kR183_30, kR183_31, kR183_33, kR183_34, kR183_36, kR183_37, kR183_38, kR183_39, kR183_40, kR183_41, kR183_42, kR183_43, kR183_44, kL184, kA184, kS184, kL185, kA185, kS185, kL186, kA186, kS186, kL187, kA187, kS187, kL188, kA188, kS188, kL189, kL190, kL191, kA191, kS191, kL192, kA192, kS192, kL193, kA193, kS193, kL194, kA194, kS194, kL195, kA195, kS195, kL196, kA196, kS196, kL197, kA197, kS197, kL198, kA198, kS198, kL199, kA199, kS199, kL200, kA200, kS200, kL201, kL202, kA202, kS202, kL203, kA203, kS203, kL204, kA204, kS204, kL205, kL206, kA206, kS206, hv]
  refine xforE (fun i : Nat => (oI (sp g F s i).2, iI (eE g (zR F) s + (sp g F s i).1), nI i)) (gSz g) ?_ (fun i hi => ?_) ?_
  · show (_, _, _) = (oI none, iI (eE g (zR F) s + 0), nI 0)
    rw [Int.add_zero]; rfl
  · simp only [f_X12_steepest_b12]
    have hf := gSt_flip hs hi
    have hv2 := hK.1 _ hf
    rw [lW_flip hi hl, eE_flip hg _ hi] at hv2
    have hlb := sp_lb hg ho s i (by omega)
    have hle := (sp_le g F s i).1
    have hcb := sp_b hg ho s hi
    have hfb := eE_b hg ho (s ^^^ 2 ^ i)
    rw [eE_flip hg _ hi] at hfb
    simp (disch := first | assumption | omega) only [Option.bind_some, Option.map_some, xw_gR, xw_gN, xw_al, xw_ck, xw_uI, xw_ur, xup_at, xur_at, if_true, if_false, reduceIte, and_true, true_and, and_false, false_and, not_true_eq_false, not_false_eq_true, Nat.reduceEqDiff, eq_self, Nat.reduceAdd, Nat.reduceMul, kC1, kG1, kP1, kR1_0, kR1_1, kR1_2, kR1_3, kR1_4, kR1_5, kR1_6, kR1_7, kR1_8, kR1_9, kR1_10, kR1_11, kR1_12, kR1_13, kC2, kG2, kP2, kR2_0, kR2_1, kC3, kG3, kP3, kR3_0, kR3_1, kR3_2, kR3_3, kL4, kA4, kS4, kL5, kA5, kS5, kL6, kA6, kS6, kL7, kA7, kS7, kC8, kG8, kP8, kR8_0, kR8_1, kL9, kA9, kS9, kL10, kA10, kS10, kC11, kG11, kP11, kR11_0, kR11_1, kR11_2, kR11_3, kL12, kA12, kS12, kL13, kA13, kS13, kL14, kA14, kS14, kL15, kA15, kS15, kC16, kG16, kP16, kR16_0, kR16_1, kL17, kA17, kS17, kL18, kA18, kS18, kC19, kG19, kP19, kR19_0, kL20, kL141, kL146, kA146, kS146, kL151, kA151, kS151, kL156, kA156, kS156, kC157, kG157, kP157, kR157_0, kR157_1, kL158, kA158, kS158, kL159, kA159, kS159, kC161, kG161, kP161, kR161_0, kR161_1, kL162, kA162, kS162, kL163, kA163, kS163, kC165, kG165, kP165, kR165_0, kR165_1, kR165_2, kR165_3, kL166, kA166, kS166, kL167, kA167, kS167, kL168, kA168, kS168, kL169, kA169, kS169, kC170, kG170, kP170, kR170_0, kR170_1, kR170_2, kL171, kA171, kS171, kL172, kA172, kS172, kL173, kA173, kS173, kC174, kG174, kP174, kR174_0, kR174_1, kR174_2, kR174_3, kR174_4, kL175, kA175, kS175, kL176, kA176, kS176, kL177, kA177, kS177, kL178, kA178, kS178, kL179, kC180, kG180, kP180, kL181, kL182, kA182, kS182, kC183, kG183, kP183, kR183_1, kR183_3, kR183_5, kR183_6, kR183_7, kR183_8, kR183_9, kR183_21, kR183_26, kR183_27, kR183_30, kR183_31, kR183_33, kR183_34, kR183_36, kR183_37, kR183_38, kR183_39, kR183_40, kR183_41, kR183_42, kR183_43, kR183_44, kL184, kA184, kS184, kL185, kA185, kS185, kL186, kA186, kS186, kL187, kA187, kS187, kL188, kA188, kS188, kL189, kL190, kL191, kA191, kS191, kL192, kA192, kS192, kL193, kA193, kS193, kL194, kA194, kS194, kL195, kA195, kS195, kL196, kA196, kS196, kL197, kA197, kS197, kL198, kA198, kS198, kL199, kA199, kS199, kL200, kA200, kS200, kL201, kL202, kA202, kS202, kL203, kA203, kS203, kL204, kA204, kS204, kL205, kL206, kA206, kS206, sites_ok hS hG, nn_le, show ¬ (gSz g ≤ i) by omega, nn_one, nn_xor, hv2]
    rw [← nI_succ]
    show _ = some (Sum.inl (oI (sp g F s (i + 1)).2, iI (eE g (zR F) s + (sp g F s (i + 1)).1), nI (i + 1)))
    rw [sp]
    by_cases h0 : F (48 + i) = 0
    · have q : (iI (eE g (zR F) s + eC g (zR F) s i) < iI (eE g (zR F) s + (sp g F s i).1)) = (eC g (zR F) s i < (sp g F s i).1) := by
        rw [iI_lt (by omega) (by omega) (by omega) (by omega)]; apply propext; omega
      simp only [h0, decide_true, if_true, q, true_and]
      by_cases h1 : eC g (zR F) s i < (sp g F s i).1
      · rw [if_pos h1, if_pos h1]; rfl
      · rw [if_neg h1, if_neg h1]
    · have q : (nI 100000 < iI (eE g (zR F) s + (sp g F s i).1)) = False := by
        rw [iI_n, iI_lt (by omega) (by omega) (by omega) (by omega)]; exact eq_false (by omega)
      simp only [h0, decide_false, Bool.false_eq_true, if_false, q, false_and]
  · simp only [f_X12_steepest_b12]
    simp (disch := first | assumption | omega) only [Option.bind_some, Option.map_some, xw_gR, xw_gN, xw_al, xw_ck, xw_uI, xw_ur, xup_at, xur_at, if_true, if_false, reduceIte, and_true, true_and, and_false, false_and, not_true_eq_false, not_false_eq_true, Nat.reduceEqDiff, eq_self, Nat.reduceAdd, Nat.reduceMul, kC1, kG1, kP1, kR1_0, kR1_1, kR1_2, kR1_3, kR1_4, kR1_5, kR1_6, kR1_7, kR1_8, kR1_9, kR1_10, kR1_11, kR1_12, kR1_13, kC2, kG2, kP2, kR2_0, kR2_1, kC3, kG3, kP3, kR3_0, kR3_1, kR3_2, kR3_3, kL4, kA4, kS4, kL5, kA5, kS5, kL6, kA6, kS6, kL7, kA7, kS7, kC8, kG8, kP8, kR8_0, kR8_1, kL9, kA9, kS9, kL10, kA10, kS10, kC11, kG11, kP11, kR11_0, kR11_1, kR11_2, kR11_3, kL12, kA12, kS12, kL13, kA13, kS13, kL14, kA14, kS14, kL15, kA15, kS15, kC16, kG16, kP16, kR16_0, kR16_1, kL17, kA17, kS17, kL18, kA18, kS18, kC19, kG19, kP19, kR19_0, kL20, kL141, kL146, kA146, kS146, kL151, kA151, kS151, kL156, kA156, kS156, kC157, kG157, kP157, kR157_0, kR157_1, kL158, kA158, kS158, kL159, kA159, kS159, kC161, kG161, kP161, kR161_0, kR161_1, kL162, kA162, kS162, kL163, kA163, kS163, kC165, kG165, kP165, kR165_0, kR165_1, kR165_2, kR165_3, kL166, kA166, kS166, kL167, kA167, kS167, kL168, kA168, kS168, kL169, kA169, kS169, kC170, kG170, kP170, kR170_0, kR170_1, kR170_2, kL171, kA171, kS171, kL172, kA172, kS172, kL173, kA173, kS173, kC174, kG174, kP174, kR174_0, kR174_1, kR174_2, kR174_3, kR174_4, kL175, kA175, kS175, kL176, kA176, kS176, kL177, kA177, kS177, kL178, kA178, kS178, kL179, kC180, kG180, kP180, kL181, kL182, kA182, kS182, kC183, kG183, kP183, kR183_1, kR183_3, kR183_5, kR183_6, kR183_7, kR183_8, kR183_9, kR183_21, kR183_26, kR183_27, kR183_30, kR183_31, kR183_33, kR183_34, kR183_36, kR183_37, kR183_38, kR183_39, kR183_40, kR183_41, kR183_42, kR183_43, kR183_44, kL184, kA184, kS184, kL185, kA185, kS185, kL186, kA186, kS186, kL187, kA187, kS187, kL188, kA188, kS188, kL189, kL190, kL191, kA191, kS191, kL192, kA192, kS192, kL193, kA193, kS193, kL194, kA194, kS194, kL195, kA195, kS195, kL196, kA196, kS196, kL197, kA197, kS197, kL198, kA198, kS198, kL199, kA199, kS199, kL200, kA200, kS200, kL201, kL202, kA202, kS202, kL203, kA203, kS203, kL204, kA204, kS204, kL205, kL206, kA206, kS206, sites_ok hS hG, nn_le, Nat.le_refl]
theorem oI_n0 {o : Option Nat} (h : ∀ e, o = some e → e < 2147483648) : (0 ≤ oI o) = (o ≠ none) := by
  cases o with
  | none => simp [oI]
  | some e =>
    have := h e rfl
    have q : ((0 : Int32) ≤ nI e) = (0 ≤ e) := nn_le (a := 0) (by decide) this
    simp only [oI, q]
    simp
theorem noneLower_ok (hS : Shp σ) (hg : g ∈ gAll) (hg0 : GRD J g) (ho : RO g F) (hE : EnO σ 157 c m) (hK : ENK J (xR σ) (xlen σ) 157 g F) {s p : Nat} (hs : s < gSt g) (hp : ∀ i, p.testBit i = (decide (i < gSz g) && decide (F (48 + i) ≠ 0))) :
    f_X2_hasNoneLower (xw σ J) 157 (nI s) (nI p) (nI (gSt g)) = some (if (sp g F s (gSz g)).2 = none then 1 else 0) := by
  have h16 := (gAll_b g hg).2.2.1
  have hSt := (gSt_b hg).1
  have hpos := gSt_pos hs
  have hEm := hE.2.2.2.1
  have hN : gSt g = 2 ^ gSz g := by unfold gSt; rw [if_neg (by omega)]
  have hb := eE_b hg ho s
  have hm : 2 ^ gSz g ≤ m := by
    have := hK.1
    rw [hE.2.1] at this
    unfold xlen at this
    rw [hE.2.2.1] at this
    exact this
  unfold f_X2_hasNoneLower
  rw [xw_ck, xck_ok (hE.T hS), Option.bind_some, of_ok hS hE hK hpos.2, Option.bind_some]
  have key := xallL (f := f_X2_hasNoneLower_b10 (xw σ J) 157 (nI s) (nI p) (nI (gSt g)) (iI (eE g (zR F) s))) (a0 := (1 : Int32)) (fun i : Nat => nI (2 ^ i)) (gSz g) (fun i => !(decide (F (48 + i) = 0) && decide (eC g (zR F) s i < 0))) (bad := (0 : Int32)) (good := (1 : Int32)) rfl ?_ ?_ ?_
  · rw [key]
    congr 1
    have : ((List.range (gSz g)).all (fun i => !(decide (F (48 + i) = 0) && decide (eC g (zR F) s i < 0))) = true) ↔ ((sp g F s (gSz g)).2 = none) := by
      rw [sp_none, List.all_eq_true]
      constructor
      · intro h i hi h0
        have := h i (List.mem_range.mpr hi)
        simp [h0] at this
        exact this
      · intro h i hi
        have := h i (List.mem_range.mp hi)
        by_cases h0 : F (48 + i) = 0
        · have := this h0
          simp [h0]; omega
        · simp [h0]
    simp only [this]
  all_goals have h2i : ∀ i, i < gSz g → 2 ^ i < 65536 := fun i hi => Nat.pow_lt_pow_right (n := 16) (by decide) (by omega)
  · intro i hi hpi
    have hpi2 := h2i i hi
    have hlt : 2 ^ i < 2 ^ gSz g := Nat.pow_lt_pow_right (by decide) hi
    have hf := gSt_flip hs hi
    have hdb : nI (2 ^ i) + nI (2 ^ i) = nI (2 ^ (i + 1)) := by rw [nn_add, Nat.pow_succ]; congr 1; omega
    simp only [f_X2_hasNoneLower_b10]
    rw [if_neg (by rw [nn_le (by omega) (by omega)]; omega), fa_and, nn_xor, hdb]
    have hand : (nI (p &&& 2 ^ i) = 0) = (F (48 + i) = 0) := by
      have : (nI (p &&& 2 ^ i) = 0) = (p &&& 2 ^ i = 0) := nn_eq (b := 0) (by have := Nat.and_le_right (n := p) (m := 2 ^ i); omega) (by decide)
      rw [this, fb_bit_nat, hp i]
      simp [hi]
    simp only [hand]
    by_cases h0 : F (48 + i) = 0
    · have hc : ¬ eC g (zR F) s i < 0 := by simpa [h0] using hpi
      rw [if_pos h0, if_neg (nI_pos (by omega)), xw_gR, hE.R4 hS, Option.bind_some, xw_al, hE.L, Option.bind_some, if_neg (by rw [nn_le (by omega) (by omega)]; omega), Option.bind_some, xw_aI hE.2.2.1 (by omega) (by omega), Option.bind_some]
      have hv := hK.2 (s ^^^ 2 ^ i) (by omega)
      rw [hE.2.1, eE_flip hg _ hi] at hv
      have hfb := eE_b hg ho (s ^^^ 2 ^ i)
      rw [eE_flip hg _ hi] at hfb
      rw [hv, if_pos (by rw [iI_le (by omega) (by omega) (by omega) (by omega)]; omega)]
    · rw [if_neg h0]
  · intro i hi hpi
    have hpi2 := h2i i hi
    have hlt : 2 ^ i < 2 ^ gSz g := Nat.pow_lt_pow_right (by decide) hi
    have hf := gSt_flip hs hi
    have h0 : F (48 + i) = 0 ∧ eC g (zR F) s i < 0 := by simpa using hpi
    simp only [f_X2_hasNoneLower_b10]
    rw [if_neg (by rw [nn_le (by omega) (by omega)]; omega), fa_and, nn_xor]
    have hand : nI (p &&& 2 ^ i) = 0 := by
      have : p &&& 2 ^ i = 0 := by rw [fb_bit_nat, hp i]; simp [h0.1]
      rw [this]; rfl
    rw [if_pos hand, if_neg (nI_pos (by omega)), xw_gR, hE.R4 hS, Option.bind_some, xw_al, hE.L, Option.bind_some, if_neg (by rw [nn_le (by omega) (by omega)]; omega), Option.bind_some, xw_aI hE.2.2.1 (by omega) (by omega), Option.bind_some]
    have hv := hK.2 (s ^^^ 2 ^ i) (by omega)
    rw [hE.2.1, eE_flip hg _ hi] at hv
    have hfb := eE_b hg ho (s ^^^ 2 ^ i)
    rw [eE_flip hg _ hi] at hfb
    rw [hv, if_neg (by rw [iI_le (by omega) (by omega) (by omega) (by omega)]; omega)]
    rfl
  · simp only [f_X2_hasNoneLower_b10]
    rw [hN, if_pos (by rw [nn_le (by omega) (by omega)]; exact Nat.le_refl _)]
    rfl
end STEEP
