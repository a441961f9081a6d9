/-! the fall -/
def fs (g : GD) (F : Nat → Int32) (s : Nat) : Nat → Nat
  | 0 => s
  | j + 1 => match (sp g F (fs g F s j) (gSz g)).2 with
    | none => fs g F s j
    | some i => fs g F s j ^^^ 2 ^ i
theorem fs_s {g : GD} {F : Nat → Int32} {s j i : Nat} (h : (sp g F (fs g F s j) (gSz g)).2 = some i) : fs g F s (j + 1) = fs g F s j ^^^ 2 ^ i := by
  rw [fs, h]
theorem fs_l {g : GD} {F : Nat → Int32} {s : Nat} (hs : s < gSt g) (hl : lW g F s = true) : ∀ j, fs g F s j < gSt g ∧ lW g F (fs g F s j) = true
  | 0 => ⟨hs, hl⟩
  | j + 1 => by
    have ih := fs_l hs hl j
    rw [fs]
    cases h : (sp g F (fs g F s j) (gSz g)).2 with
    | none => exact ih
    | some i =>
      have q := (sp_some g F (fs g F s j) (gSz g)).2 i h
      refine ⟨gSt_flip ih.1 q.1, ?_⟩
      show lW g F (fs g F s j ^^^ 2 ^ i) = true
      rw [lW_flip q.1 ih.2]
      exact decide_eq_true q.2.1
/-- where the fall ends, how many turns it takes -/
theorem fs_end {g : GD} (hg : g ∈ gAll) {F : Nat → Int32} (ho : RO g F) {s : Nat} : ∃ M, M ≤ 288 ∧ (sp g F (fs g F s M) (gSz g)).2 = none ∧ ∀ j, j < M → (sp g F (fs g F s j) (gSz g)).2 ≠ none := by
  have dec : ∀ m, (∀ j, j < m → (sp g F (fs g F s j) (gSz g)).2 ≠ none) → eE g (zR F) (fs g F s m) ≤ eE g (zR F) s - (m : Int) := by
    intro m
    induction m with
    | zero => intro _; show eE g (zR F) s ≤ _; omega
    | succ m ih =>
      intro h
      have h1 := ih (fun j hj => h j (by omega))
      obtain ⟨i, hi⟩ := Option.ne_none_iff_exists'.mp (h m (by omega))
      have q := (sp_some g F (fs g F s m) (gSz g)).2 i hi
      rw [fs_s hi, eE_flip hg _ q.1]
      omega
  have ex : ∃ j, j < 289 ∧ (sp g F (fs g F s j) (gSz g)).2 = none := by
    apply Classical.byContradiction
    intro hn
    have h : ∀ j, j < 289 → (sp g F (fs g F s j) (gSz g)).2 ≠ none := fun j hj hz => hn ⟨j, hj, hz⟩
    have h1 := dec 289 h
    have h2 := eE_b hg ho s
    have h3 := eE_b hg ho (fs g F s 289)
    omega
  obtain ⟨M, h1, h2, h3⟩ := fb_first (p := fun j => (sp g F (fs g F s j) (gSz g)).2 = none) ex
  exact ⟨M, by omega, h2, h3⟩
section FALL
variable {σ : XS} {J : Nat → Nat → Int32} {g : GD} {F : Nat → Int32}
theorem steep11_ok (hS : Shp σ) (hG : GRD J g) (ho : RO g F) (hSR : SR g J 16 F) {s : Nat} (hs : s < 2147483648) : f_X3_steepest (xw σ J) 11 16 (nI s) = some (oI (sp g F s (gSz g)).2) := by
  have hg := hG.1
  have h16 := (gAll_b g hg).2.2.1
  obtain ⟨-, -, ⟨p, u, e3, e4, e5, e6⟩, -, -⟩ := id hSR
  have hp : p < 65536 := Nat.lt_pow_two_of_testBit (n := 16) p (fun j hj => by rw [e5]; simp; omega)
  unfold f_X3_steepest
  refine xforE (fun i : Nat => (oI (sp g F s i).2, iI (sp g F s i).1, nI i)) (gSz g) rfl (fun i hi => ?_) ?_
  · simp only [f_X3_steepest_b8]
    have hlb := sp_lb hg ho s i (by omega)
    have hle := (sp_le g F s i).1
    have hcb := sp_b hg ho s hi
    have hq : (iI (sp g F s i).1 ≤ iI (eC g (zR F) s i)) = ((sp g F s i).1 ≤ eC g (zR F) s i) := iI_le (by omega) (by omega) (by omega) (by omega)
    simp (disch := first | assumption | omega) only [Option.bind_some, Option.map_some, xw_gR, xw_gN, xw_al, xw_ck, xw_uI, xw_ur, xup_at, xur_at, if_true, if_false, reduceIte, and_true, true_and, and_false, false_and, not_true_eq_false, not_false_eq_true, Nat.reduceEqDiff, eq_self, Nat.reduceAdd, Nat.reduceMul, kC1, kG1, kP1, kR1_0, kR1_1, kR1_2, kR1_3, kR1_4, kR1_5, kR1_6, kR1_7, kR1_8, kR1_9, kR1_10, kR1_11, kR1_12, kR1_13, kC2, kG2, kP2, kR2_0, kR2_1, kC3, kG3, kP3, kR3_0, kR3_1, kR3_2, kR3_3, kL4, kA4, kS4, kL5, kA5, kS5, kL6, kA6, kS6, kL7, kA7, kS7, kC8, kG8, kP8, kR8_0, kR8_1, kL9, kA9, kS9, kL10, kA10, kS10, kC11, kG11, kP11, kR11_0, kR11_1, kR11_2, kR11_3, kL12, kA12, kS12, kL13, kA13, kS13, kL14, kA14, kS14, kL15, kA15, kS15, kC16, kG16, kP16, kR16_0, kR16_1, kL17, kA17, kS17, kL18, kA18, kS18, kC19, kG19, kP19, kR19_0, kL20, kL141, kL146, kA146, kS146, kL151, kA151, kS151, kL156, kA156, kS156, kC157, kG157, kP157, kR157_0, kR157_1, kL158, kA158, kS158, kL159, kA159, kS159, kC161, kG161, kP161, kR161_0, kR161_1, kL162, kA162, kS162, kL163, kA163, kS163, kC165, kG165, kP165, kR165_0, kR165_1, kR165_2, kR165_3, kL166, kA166, kS166, kL167, kA167, kS167, kL168, kA168, kS168, kL169, kA169, kS169, kC170, kG170, kP170, kR170_0, kR170_1, kR170_2, kL171, kA171, kS171, kL172, kA172, kS172, kL173, kA173, kS173, kC174, kG174, kP174, kR174_0, kR174_1, kR174_2, kR174_3, kR174_4, kL175, kA175, kS175, kL176, kA176, kS176, kL177, kA177, kS177, kL178, kA178, kS178, kL179, kC180, kG180, kP180, kL181, kL182, kA182, kS182, kC183, kG183, kP183, kR183_1, kR183_3, kR183_5, kR183_6, kR183_7, kR183_8, kR183_9, kR183_21, kR183_26, kR183_27, kR183_30, kR183_31, kR183_33, kR183_34, kR183_36, kR183_37, kR183_38, kR183_39, kR183_40, kR183_41, kR183_42, kR183_43, kR183_44, kL184, kA184, kS184, kL185, kA185, kS185, kL186, kA186, kS186, kL187, kA187, kS187, kL188, kA188, kS188, kL189, kL190, kL191, kA191, kS191, kL192, kA192, kS192, kL193, kA193, kS193, kL194, kA194, kS194, kL195, kA195, kS195, kL196, kA196, kS196, kL197, kA197, kS197, kL198, kA198, kS198, kL199, kA199, kS199, kL200, kA200, kS200, kL201, kL202, kA202, kS202, kL203, kA203, kS203, kL204, kA204, kS204, kL205, kL206, kA206, kS206, hG.2.2.2.2.1, nn_le, show ¬ (gSz g ≤ i) by omega, cost_ok hS hG suA_16 hSR hs hi, hq, isPinned_ok hS suA_16 e3 hp (show i < 32 by omega), bI_0]
    rw [← nI_succ]
    show _ = some (Sum.inl (oI (sp g F s (i + 1)).2, iI (sp g F s (i + 1)).1, nI (i + 1)))
    rw [sp]
    have hpb : (p.testBit i = false) = (F (48 + i) = 0) := by rw [e5]; simp [hi]
    simp only [hpb]
    by_cases h1 : (sp g F s i).1 ≤ eC g (zR F) s i
    · rw [if_pos h1, if_neg (fun z => by omega)]
    · rw [if_neg h1]
      by_cases h2 : F (48 + i) = 0
      · rw [if_pos h2, if_pos ⟨h2, by omega⟩]; rfl
      · rw [if_neg h2, if_neg (fun z => h2 z.1)]
  · simp only [f_X3_steepest_b8]
    simp (disch := first | assumption | omega) only [Option.bind_some, Option.map_some, xw_gR, xw_gN, xw_al, xw_ck, xw_uI, xw_ur, xup_at, xur_at, if_true, if_false, reduceIte, and_true, true_and, and_false, false_and, not_true_eq_false, not_false_eq_true, Nat.reduceEqDiff, eq_self, Nat.reduceAdd, Nat.reduceMul, kC1, kG1, kP1, kR1_0, kR1_1, kR1_2, kR1_3, kR1_4, kR1_5, kR1_6, kR1_7, kR1_8, kR1_9, kR1_10, kR1_11, kR1_12, kR1_13, kC2, kG2, kP2, kR2_0, kR2_1, kC3, kG3, kP3, kR3_0, kR3_1, kR3_2, kR3_3, kL4, kA4, kS4, kL5, kA5, kS5, kL6, kA6, kS6, kL7, kA7, kS7, kC8, kG8, kP8, kR8_0, kR8_1, kL9, kA9, kS9, kL10, kA10, kS10, kC11, kG11, kP11, kR11_0, kR11_1, kR11_2, kR11_3, kL12, kA12, kS12, kL13, kA13, kS13, kL14, kA14, kS14, kL15, kA15, kS15, kC16, kG16, kP16, kR16_0, kR16_1, kL17, kA17, kS17, kL18, kA18, kS18, kC19, kG19, kP19, kR19_0, kL20, kL141, kL146, kA146, kS146, kL151, kA151, kS151, kL156, kA156, kS156, kC157, kG157, kP157, kR157_0, kR157_1, kL158, kA158, kS158, kL159, kA159, kS159, kC161, kG161, kP161, kR161_0, kR161_1, kL162, kA162, kS162, kL163, kA163, kS163, kC165, kG165, kP165, kR165_0, kR165_1, kR165_2, kR165_3, kL166, kA166, kS166, kL167, kA167, kS167, kL168, kA168, kS168, kL169, kA169, kS169, kC170, kG170, kP170, kR170_0, kR170_1, kR170_2, kL171, kA171, kS171, kL172, kA172, kS172, kL173, kA173, kS173, kC174, kG174, kP174, kR174_0, kR174_1, kR174_2, kR174_3, kR174_4, kL175, kA175, kS175, kL176, kA176, kS176, kL177, kA177, kS177, kL178, kA178, kS178, kL179, kC180, kG180, kP180, kL181, kL182, kA182, kS182, kC183, kG183, kP183, kR183_1, kR183_3, kR183_5, kR183_6, kR183_7, kR183_8, kR183_9, kR183_21, kR183_26, kR183_27, kR183_30, kR183_31, kR183_33, kR183_34, kR183_36, kR183_37, kR183_38, kR183_39, kR183_40, kR183_41, kR183_42, kR183_43, kR183_44, kL184, kA184, kS184, kL185, kA185, kS185, kL186, kA186, kS186, kL187, kA187, kS187, kL188, kA188, kS188, kL189, kL190, kL191, kA191, kS191, kL192, kA192, kS192, kL193, kA193, kS193, kL194, kA194, kS194, kL195, kA195, kS195, kL196, kA196, kS196, kL197, kA197, kS197, kL198, kA198, kS198, kL199, kA199, kS199, kL200, kA200, kS200, kL201, kL202, kA202, kS202, kL203, kA203, kS203, kL204, kA204, kS204, kL205, kL206, kA206, kS206, hG.2.2.2.2.1, nn_le, Nat.le_refl]
theorem spS {s i : Nat} (hg : g ∈ gAll) (h : (sp g F s (gSz g)).2 = some i) : i < 16 := by
  have h16 := (gAll_b g hg).2.2.1
  have := ((sp_some g F s (gSz g)).2 i h).1
  omega
def flI (I : Nat → Nat → Int32) (b t : Nat) : Nat → Nat → Int32 := xup (xup I 180 0 (nI b)) 180 1 (nI t)
theorem flI_out {I : Nat → Nat → Int32} {b t a k : Nat} (h : a ≠ 180) : flI I b t a k = I a k := by
  unfold flI
  rw [xup_at, if_neg (by omega), xup_at, if_neg (by omega)]
theorem flI_s {I : Nat → Nat → Int32} {b t b' t' : Nat} : xup (xup (flI I b t) 180 0 (nI b')) 180 1 (nI t') = flI I b' t' := by
  funext a k
  unfold flI
  simp only [xup_at]
  by_cases h : a = 180
  · subst h
    by_cases h0 : k = 0
    · simp [h0]
    · by_cases h1 : k = 1
      · simp [h1]
      · simp [h0, h1]
  · simp [h]
theorem fall11_ok (hS : Shp σ) (hG : GRD J g) (ho : RO g F) (hSR : SR g J 16 F) {s M : Nat} (hs : s < gSt g) (hl : lW g F s = true) (hM : M ≤ 288) (h1 : (sp g F (fs g F s M) (gSz g)).2 = none) (h2 : ∀ j, j < M → (sp g F (fs g F s j) (gSz g)).2 ≠ none) :
    f_X10_fallFrom (xw σ J) 180 11 16 (nI s) = some (xw σ (flI J (fs g F s M) M)) := by
  have hg := hG.1
  have hSt := (gSt_b hg).1
  have hf := fs_l (g := g) (F := F) hs hl
  have hGf : ∀ b t, GRD (flI J b t) g := fun b t => GRD_c (fun a k z => flI_out (by unfold sGRD at z; omega)) hG
  have hSf : ∀ b t, SR g (flI J b t) 16 F := fun b t => SR_m hg (fun k _ _ => flI_out (by omega)) (fun k _ => flI_out (by omega)) (fun k _ => flI_out (by omega)) (fun k _ => rfl) hSR
  have st : ∀ j b t, f_X3_steepest (xw σ (flI J b t)) 11 16 (nI (fs g F s j)) = some (oI (sp g F (fs g F s j) (gSz g)).2) := fun j b t => steep11_ok hS (hGf b t) ho (hSf b t) (by have := (hf j).1; omega)
  unfold f_X10_fallFrom
  have e0 : xup (xup J 180 0 (nI s)) 180 1 0 = flI J s 0 := rfl
  have e00 : flI J s 0 180 0 = nI (fs g F s 0) := by unfold flI; simp [xup_at]; rfl
  simp (disch := first | assumption | omega) only [Option.bind_some, Option.map_some, xw_gR, xw_gN, xw_al, xw_ck, xw_uI, xw_ur, xup_at, xur_at, if_true, if_false, reduceIte, and_true, true_and, and_false, false_and, not_true_eq_false, not_false_eq_true, Nat.reduceEqDiff, eq_self, Nat.reduceAdd, Nat.reduceMul, kC1, kG1, kP1, kR1_0, kR1_1, kR1_2, kR1_3, kR1_4, kR1_5, kR1_6, kR1_7, kR1_8, kR1_9, kR1_10, kR1_11, kR1_12, kR1_13, kC2, kG2, kP2, kR2_0, kR2_1, kC3, kG3, kP3, kR3_0, kR3_1, kR3_2, kR3_3, kL4, kA4, kS4, kL5, kA5, kS5, kL6, kA6, kS6, kL7, kA7, kS7, kC8, kG8, kP8, kR8_0, kR8_1, kL9, kA9, kS9, kL10, kA10, kS10, kC11, kG11, kP11, kR11_0, kR11_1, kR11_2, kR11_3, kL12, kA12, kS12, kL13, kA13, kS13, kL14, kA14, kS14, kL15, kA15, kS15, kC16, kG16, kP16, kR16_0, kR16_1, kL17, kA17, kS17, kL18, kA18, kS18, kC19, kG19, kP19, kR19_0, kL20, kL141, kL146, kA146, kS146, kL151, kA151, kS151, kL156, kA156, kS156, kC157, kG157, kP157, kR157_0, kR157_1, kL158, kA158, kS158, kL159, kA159, kS159, kC161, kG161, kP161, kR161_0, kR161_1, kL162, kA162, kS162, kL163, kA163, kS163, kC165, kG165, kP165, kR165_0, kR165_1, kR165_2, kR165_3, kL166, kA166, kS166, kL167, kA167, kS167, kL168, kA168, kS168, kL169, kA169, kS169, kC170, kG170, kP170, kR170_0, kR170_1, kR170_2, kL171, kA171, kS171, kL172, kA172, kS172, kL173, kA173, kS173, kC174, kG174, kP174, kR174_0, kR174_1, kR174_2, kR174_3, kR174_4, kL175, kA175, kS175, kL176, kA176, kS176, kL177, kA177, kS177, kL178, kA178, kS178, kL179, kC180, kG180, kP180, kL181, kL182, kA182, kS182, kC183, kG183, kP183, kR183_1, kR183_3, kR183_5, kR183_6, kR183_7, kR183_8, kR183_9, kR183_21, kR183_26, kR183_27, kR183_30, kR183_31, kR183_33, kR183_34, kR183_36, kR183_37, kR183_38, kR183_39, kR183_40, kR183_41, kR183_42, kR183_43, kR183_44, kL184, kA184, kS184, kL185, kA185, kS185, kL186, kA186, kS186, kL187, kA187, kS187, kL188, kA188, kS188, kL189, kL190, kL191, kA191, kS191, kL192, kA192, kS192, kL193, kA193, kS193, kL194, kA194, kS194, kL195, kA195, kS195, kL196, kA196, kS196, kL197, kA197, kS197, kL198, kA198, kS198, kL199, kA199, kS199, kL200, kA200, kS200, kL201, kL202, kA202, kS202, kL203, kA203, kS203, kL204, kA204, kS204, kL205, kL206, kA206, kS206, e0, e00]
  rw [st 0 s 0, Option.bind_some]
  refine xforE (fun j : Nat => (oI (sp g F (fs g F s j) (gSz g)).2, nI j, xw σ (flI J (fs g F s j) j))) M rfl (fun j hj => ?_) ?_
  · obtain ⟨i, hi⟩ := Option.ne_none_iff_exists'.mp (h2 j hj)
    have hi16 := spS hg hi
    simp only [f_X10_fallFrom_b24, hi, oI]
    rw [if_neg (by rw [show (289 : Int32) = nI 289 from rfl, nn_le (by omega) (by omega)]; omega), if_neg (by rw [nn_m1 (by omega)]; exact id)]
    have v0 : flI J (fs g F s j) j 180 0 = nI (fs g F s j) := by unfold flI; simp [xup_at]
    have v1 : flI J (fs g F s j) j 180 1 = nI j := by unfold flI; simp [xup_at]
    simp (disch := first | assumption | omega) only [Option.bind_some, Option.map_some, xw_gR, xw_gN, xw_al, xw_ck, xw_uI, xw_ur, xup_at, xur_at, if_true, if_false, reduceIte, and_true, true_and, and_false, false_and, not_true_eq_false, not_false_eq_true, Nat.reduceEqDiff, eq_self, Nat.reduceAdd, Nat.reduceMul, kC1, kG1, kP1, kR1_0, kR1_1, kR1_2, kR1_3, kR1_4, kR1_5, kR1_6, kR1_7, kR1_8, kR1_9, kR1_10, kR1_11, kR1_12, kR1_13, kC2, kG2, kP2, kR2_0, kR2_1, kC3, kG3, kP3, kR3_0, kR3_1, kR3_2, kR3_3, kL4, kA4, kS4, kL5, kA5, kS5, kL6, kA6, kS6, kL7, kA7, kS7, kC8, kG8, kP8, kR8_0, kR8_1, kL9, kA9, kS9, kL10, kA10, kS10, kC11, kG11, kP11, kR11_0, kR11_1, kR11_2, kR11_3, kL12, kA12, kS12, kL13, kA13, kS13, kL14, kA14, kS14, kL15, kA15, kS15, kC16, kG16, kP16, kR16_0, kR16_1, kL17, kA17, kS17, kL18, kA18, kS18, kC19, kG19, kP19, kR19_0, kL20, kL141, kL146, kA146, kS146, kL151, kA151, kS151, kL156, kA156, kS156, kC157, kG157, kP157, kR157_0, kR157_1, kL158, kA158, kS158, kL159, kA159, kS159, kC161, kG161, kP161, kR161_0, kR161_1, kL162, kA162, kS162, kL163, kA163, kS163, kC165, kG165, kP165, kR165_0, kR165_1, kR165_2, kR165_3, kL166, kA166, kS166, kL167, kA167, kS167, kL168, kA168, kS168, kL169, kA169, kS169, kC170, kG170, kP170, kR170_0, kR170_1, kR170_2, kL171, kA171, kS171, kL172, kA172, kS172, kL173, kA173, kS173, kC174, kG174, kP174, kR174_0, kR174_1, kR174_2, kR174_3, kR174_4, kL175, kA175, kS175, kL176, kA176, kS176, kL177, kA177, kS177, kL178, kA178, kS178, kL179, kC180, kG180, kP180, kL181, kL182, kA182, kS182, kC183, kG183, kP183, kR183_1, kR183_3, kR183_5, kR183_6, kR183_7, kR183_8, kR183_9, kR183_21, kR183_26, kR183_27, kR183_30, kR183_31, kR183_33, kR183_34, kR183_36, kR183_37, kR183_38, kR183_39, kR183_40, kR183_41, kR183_42, kR183_43, kR183_44, kL184, kA184, kS184, kL185, kA185, kS185, kL186, kA186, kS186, kL187, kA187, kS187, kL188, kA188, kS188, kL189, kL190, kL191, kA191, kS191, kL192, kA192, kS192, kL193, kA193, kS193, kL194, kA194, kS194, kL195, kA195, kS195, kL196, kA196, kS196, kL197, kA197, kS197, kL198, kA198, kS198, kL199, kA199, kS199, kL200, kA200, kS200, kL201, kL202, kA202, kS202, kL203, kA203, kS203, kL204, kA204, kS204, kL205, kL206, kA206, kS206, v0, v1, nn_one, nn_xor, ← nI_succ, flI_s]
    have := st (j + 1) (fs g F s (j + 1)) (j + 1)
    rw [fs_s hi] at this
    rw [this, Option.bind_some, ← fs_s hi]
    rfl
  · simp only [f_X10_fallFrom_b24, h1, oI]
    rw [if_neg (by rw [show (289 : Int32) = nI 289 from rfl, nn_le (by omega) (by omega)]; omega), if_pos trivial]
    rfl
theorem fallEnd_ok (hS : Shp σ) (hG : GRD J g) (ho : RO g F) (hK : KNK J g F) {s M : Nat} (hs : s < gSt g) (hl : lW g F s = true) (h1 : (sp g F (fs g F s M) (gSz g)).2 = none) (h2 : ∀ j, j < M → (sp g F (fs g F s j) (gSz g)).2 ≠ none) : f_X12_fallEnd (xw σ J) 183 (nI s) = some (nI (fs g F s M)) := by
  have hg := hG.1
  have hSt := (gSt_b hg).1
  have hf := fs_l (g := g) (F := F) hs hl
  have st : ∀ j, f_X12_steepest (xw σ J) 183 (nI (fs g F s j)) = some (oI (sp g F (fs g F s j) (gSz g)).2) := fun j => steep12_ok hS hG ho hK (hf j).1 (hf j).2
  unfold f_X12_fallEnd
  rw [show nI s = nI (fs g F s 0) from rfl]
  simp (disch := first | assumption | omega) only [Option.bind_some, Option.map_some, xw_gR, xw_gN, xw_al, xw_ck, xw_uI, xw_ur, xup_at, xur_at, if_true, if_false, reduceIte, and_true, true_and, and_false, false_and, not_true_eq_false, not_false_eq_true, Nat.reduceEqDiff, eq_self, Nat.reduceAdd, Nat.reduceMul, kC1, kG1, kP1, kR1_0, kR1_1, kR1_2, kR1_3, kR1_4, kR1_5, kR1_6, kR1_7, kR1_8, kR1_9, kR1_10, kR1_11, kR1_12, kR1_13, kC2, kG2, kP2, kR2_0, kR2_1, kC3, kG3, kP3, kR3_0, kR3_1, kR3_2, kR3_3, kL4, kA4, kS4, kL5, kA5, kS5, kL6, kA6, kS6, kL7, kA7, kS7, kC8, kG8, kP8, kR8_0, kR8_1, kL9, kA9, kS9, kL10, kA10, kS10, kC11, kG11, kP11, kR11_0, kR11_1, kR11_2, kR11_3, kL12, kA12, kS12, kL13, kA13, kS13, kL14, kA14, kS14, kL15, kA15, kS15, kC16, kG16, kP16, kR16_0, kR16_1, kL17, kA17, kS17, kL18, kA18, kS18, kC19, kG19, kP19, kR19_0, kL20, kL141, kL146, kA146, kS146, kL151, kA151, kS151, kL156, kA156, kS156, kC157, kG157, kP157, kR157_0, kR157_1, kL158, kA158, kS158, kL159, kA159, kS159, kC161, kG161, kP161, kR161_0, kR161_1, kL162, kA162, kS162, kL163, kA163, kS163, kC165, kG165, kP165, kR165_0, kR165_1, kR165_2, kR165_3, kL166, kA166, kS166, kL167, kA167, kS167, kL168, kA168, kS168, kL169, kA169, kS169, kC170, kG170, kP170, kR170_0, kR170_1, kR170_2, kL171, kA171, kS171, kL172, kA172, kS172, kL173, kA173, kS173, kC174, kG174, kP174, kR174_0, kR174_1, kR174_2, kR174_3, kR174_4, kL175, kA175, kS175, kL176, kA176, kS176, kL177, kA177, kS177, kL178, kA178, kS178, kL179, kC180, kG180, kP180, kL181, kL182, kA182, kS182, kC183, kG183, kP183, kR183_1, kR183_3, kR183_5, kR183_6, kR183_7, kR183_8, kR183_9, kR183_21, kR183_26, kR183_27, kR183_30, kR183_31, kR183_33, kR183_34, kR183_36, kR183_37, kR183_38, kR183_39, kR183_40, kR183_41, kR183_42, kR183_43, kR183_44, kL184, kA184, kS184, kL185, kA185, kS185, kL186, kA186, kS186, kL187, kA187, kS187, kL188, kA188, kS188, kL189, kL190, kL191, kA191, kS191, kL192, kA192, kS192, kL193, kA193, kS193, kL194, kA194, kS194, kL195, kA195, kS195, kL196, kA196, kS196, kL197, kA197, kS197, kL198, kA198, kS198, kL199, kA199, kS199, kL200, kA200, kS200, kL201, kL202, kA202, kS202, kL203, kA203, kS203, kL204, kA204, kS204, kL205, kL206, kA206, kS206, st 0]
  refine xforE (fun j : Nat => (nI (fs g F s j), oI (sp g F (fs g F s j) (gSz g)).2)) M rfl (fun j hj => ?_) ?_
  · obtain ⟨i, hi⟩ := Option.ne_none_iff_exists'.mp (h2 j hj)
    have hi16 := spS hg hi
    simp only [f_X12_fallEnd_b8, hi, oI]
    rw [if_neg (nI_pos (by omega)), nn_one (by omega), nn_xor, ← fs_s hi]
    simp (disch := first | assumption | omega) only [Option.bind_some, Option.map_some, xw_gR, xw_gN, xw_al, xw_ck, xw_uI, xw_ur, xup_at, xur_at, if_true, if_false, reduceIte, and_true, true_and, and_false, false_and, not_true_eq_false, not_false_eq_true, Nat.reduceEqDiff, eq_self, Nat.reduceAdd, Nat.reduceMul, kC1, kG1, kP1, kR1_0, kR1_1, kR1_2, kR1_3, kR1_4, kR1_5, kR1_6, kR1_7, kR1_8, kR1_9, kR1_10, kR1_11, kR1_12, kR1_13, kC2, kG2, kP2, kR2_0, kR2_1, kC3, kG3, kP3, kR3_0, kR3_1, kR3_2, kR3_3, kL4, kA4, kS4, kL5, kA5, kS5, kL6, kA6, kS6, kL7, kA7, kS7, kC8, kG8, kP8, kR8_0, kR8_1, kL9, kA9, kS9, kL10, kA10, kS10, kC11, kG11, kP11, kR11_0, kR11_1, kR11_2, kR11_3, kL12, kA12, kS12, kL13, kA13, kS13, kL14, kA14, kS14, kL15, kA15, kS15, kC16, kG16, kP16, kR16_0, kR16_1, kL17, kA17, kS17, kL18, kA18, kS18, kC19, kG19, kP19, kR19_0, kL20, kL141, kL146, kA146, kS146, kL151, kA151, kS151, kL156, kA156, kS156, kC157, kG157, kP157, kR157_0, kR157_1, kL158, kA158, kS158, kL159, kA159, kS159, kC161, kG161, kP161, kR161_0, kR161_1, kL162, kA162, kS162, kL163, kA163, kS163, kC165, kG165, kP165, kR165_0, kR165_1, kR165_2, kR165_3, kL166, kA166, kS166, kL167, kA167, kS167, kL168, kA168, kS168, kL169, kA169, kS169, kC170, kG170, kP170, kR170_0, kR170_1, kR170_2, kL171, kA171, kS171, kL172, kA172, kS172, kL173, kA173, kS173, kC174, kG174, kP174, kR174_0, kR174_1, kR174_2, kR174_3, kR174_4, kL175, kA175, kS175, kL176, kA176, kS176, kL177, kA177, kS177, kL178, kA178, kS178, kL179, kC180, kG180, kP180, kL181, kL182, kA182, kS182, kC183, kG183, kP183, kR183_1, kR183_3, kR183_5, kR183_6, kR183_7, kR183_8, kR183_9, kR183_21, kR183_26, kR183_27, kR183_30, kR183_31, kR183_33, kR183_34, kR183_36, kR183_37, kR183_38, kR183_39, kR183_40, kR183_41, kR183_42, kR183_43, kR183_44, kL184, kA184, kS184, kL185, kA185, kS185, kL186, kA186, kS186, kL187, kA187, kS187, kL188, kA188, kS188, kL189, kL190, kL191, kA191, kS191, kL192, kA192, kS192, kL193, kA193, kS193, kL194, kA194, kS194, kL195, kA195, kS195, kL196, kA196, kS196, kL197, kA197, kS197, kL198, kA198, kS198, kL199, kA199, kS199, kL200, kA200, kS200, kL201, kL202, kA202, kS202, kL203, kA203, kS203, kL204, kA204, kS204, kL205, kL206, kA206, kS206, st (j + 1)]
    rfl
  · simp only [f_X12_fallEnd_b8, h1, oI]
    rw [if_pos (by decide)]
    rfl
theorem fallTurns_ok (hS : Shp σ) (hG : GRD J g) (ho : RO g F) (hK : KNK J g F) {s M : Nat} (hs : s < gSt g) (hl : lW g F s = true) (h1 : (sp g F (fs g F s M) (gSz g)).2 = none) (h2 : ∀ j, j < M → (sp g F (fs g F s j) (gSz g)).2 ≠ none) : f_X12_fallTurns (xw σ J) 183 (nI s) = some (nI M) := by
  have hg := hG.1
  have hSt := (gSt_b hg).1
  have hf := fs_l (g := g) (F := F) hs hl
  have st : ∀ j, f_X12_steepest (xw σ J) 183 (nI (fs g F s j)) = some (oI (sp g F (fs g F s j) (gSz g)).2) := fun j => steep12_ok hS hG ho hK (hf j).1 (hf j).2
  unfold f_X12_fallTurns
  rw [show nI s = nI (fs g F s 0) from rfl]
  simp (disch := first | assumption | omega) only [Option.bind_some, Option.map_some, xw_gR, xw_gN, xw_al, xw_ck, xw_uI, xw_ur, xup_at, xur_at, if_true, if_false, reduceIte, and_true, true_and, and_false, false_and, not_true_eq_false, not_false_eq_true, Nat.reduceEqDiff, eq_self, Nat.reduceAdd, Nat.reduceMul, kC1, kG1, kP1, kR1_0, kR1_1, kR1_2, kR1_3, kR1_4, kR1_5, kR1_6, kR1_7, kR1_8, kR1_9, kR1_10, kR1_11, kR1_12, kR1_13, kC2, kG2, kP2, kR2_0, kR2_1, kC3, kG3, kP3, kR3_0, kR3_1, kR3_2, kR3_3, kL4, kA4, kS4, kL5, kA5, kS5, kL6, kA6, kS6, kL7, kA7, kS7, kC8, kG8, kP8, kR8_0, kR8_1, kL9, kA9, kS9, kL10, kA10, kS10, kC11, kG11, kP11, kR11_0, kR11_1, kR11_2, kR11_3, kL12, kA12, kS12, kL13, kA13, kS13, kL14, kA14, kS14, kL15, kA15, kS15, kC16, kG16, kP16, kR16_0, kR16_1, kL17, kA17, kS17, kL18, kA18, kS18, kC19, kG19, kP19, kR19_0, kL20, kL141, kL146, kA146, kS146, kL151, kA151, kS151, kL156, kA156, kS156, kC157, kG157, kP157, kR157_0, kR157_1, kL158, kA158, kS158, kL159, kA159, kS159, kC161, kG161, kP161, kR161_0, kR161_1, kL162, kA162, kS162, kL163, kA163, kS163, kC165, kG165, kP165, kR165_0, kR165_1, kR165_2, kR165_3, kL166, kA166, kS166, kL167, kA167, kS167, kL168, kA168, kS168, kL169, kA169, kS169, kC170, kG170, kP170, kR170_0, kR170_1, kR170_2, kL171, kA171, kS171, kL172, kA172, kS172, kL173, kA173, kS173, kC174, kG174, kP174, kR174_0, kR174_1, kR174_2, kR174_3, kR174_4, kL175, kA175, kS175, kL176, kA176, kS176, kL177, kA177, kS177, kL178, kA178, kS178, kL179, kC180, kG180, kP180, kL181, kL182, kA182, kS182, kC183, kG183, kP183, kR183_1, kR183_3, kR183_5, kR183_6, kR183_7, kR183_8, kR183_9, kR183_21, kR183_26, kR183_27, kR183_30, kR183_31, kR183_33, kR183_34, kR183_36, kR183_37, kR183_38, kR183_39, kR183_40, kR183_41, kR183_42, kR183_43, kR183_44, kL184, kA184, kS184, kL185, kA185, kS185, kL186, kA186, kS186, kL187, kA187, kS187, kL188, kA188, kS188, kL189, kL190, kL191, kA191, kS191, kL192, kA192, kS192, kL193, kA193, kS193, kL194, kA194, kS194, kL195, kA195, kS195, kL196, kA196, kS196, kL197, kA197, kS197, kL198, kA198, kS198, kL199, kA199, kS199, kL200, kA200, kS200, kL201, kL202, kA202, kS202, kL203, kA203, kS203, kL204, kA204, kS204, kL205, kL206, kA206, kS206, st 0]
  refine xforE (fun j : Nat => (nI (fs g F s j), nI j, oI (sp g F (fs g F s j) (gSz g)).2)) M rfl (fun j hj => ?_) ?_
  · obtain ⟨i, hi⟩ := Option.ne_none_iff_exists'.mp (h2 j hj)
    have hi16 := spS hg hi
    simp only [f_X12_fallTurns_b11, hi, oI]
    rw [if_neg (nI_pos (by omega)), nn_one (by omega), nn_xor, ← fs_s hi]
    simp (disch := first | assumption | omega) only [Option.bind_some, Option.map_some, xw_gR, xw_gN, xw_al, xw_ck, xw_uI, xw_ur, xup_at, xur_at, if_true, if_false, reduceIte, and_true, true_and, and_false, false_and, not_true_eq_false, not_false_eq_true, Nat.reduceEqDiff, eq_self, Nat.reduceAdd, Nat.reduceMul, kC1, kG1, kP1, kR1_0, kR1_1, kR1_2, kR1_3, kR1_4, kR1_5, kR1_6, kR1_7, kR1_8, kR1_9, kR1_10, kR1_11, kR1_12, kR1_13, kC2, kG2, kP2, kR2_0, kR2_1, kC3, kG3, kP3, kR3_0, kR3_1, kR3_2, kR3_3, kL4, kA4, kS4, kL5, kA5, kS5, kL6, kA6, kS6, kL7, kA7, kS7, kC8, kG8, kP8, kR8_0, kR8_1, kL9, kA9, kS9, kL10, kA10, kS10, kC11, kG11, kP11, kR11_0, kR11_1, kR11_2, kR11_3, kL12, kA12, kS12, kL13, kA13, kS13, kL14, kA14, kS14, kL15, kA15, kS15, kC16, kG16, kP16, kR16_0, kR16_1, kL17, kA17, kS17, kL18, kA18, kS18, kC19, kG19, kP19, kR19_0, kL20, kL141, kL146, kA146, kS146, kL151, kA151, kS151, kL156, kA156, kS156, kC157, kG157, kP157, kR157_0, kR157_1, kL158, kA158, kS158, kL159, kA159, kS159, kC161, kG161, kP161, kR161_0, kR161_1, kL162, kA162, kS162, kL163, kA163, kS163, kC165, kG165, kP165, kR165_0, kR165_1, kR165_2, kR165_3, kL166, kA166, kS166, kL167, kA167, kS167, kL168, kA168, kS168, kL169, kA169, kS169, kC170, kG170, kP170, kR170_0, kR170_1, kR170_2, kL171, kA171, kS171, kL172, kA172, kS172, kL173, kA173, kS173, kC174, kG174, kP174, kR174_0, kR174_1, kR174_2, kR174_3, kR174_4, kL175, kA175, kS175, kL176, kA176, kS176, kL177, kA177, kS177, kL178, kA178, kS178, kL179, kC180, kG180, kP180, kL181, kL182, kA182, kS182, kC183, kG183, kP183, kR183_1, kR183_3, kR183_5, kR183_6, kR183_7, kR183_8, kR183_9, kR183_21, kR183_26, kR183_27, kR183_30, kR183_31, kR183_33, kR183_34, kR183_36, kR183_37, kR183_38, kR183_39, kR183_40, kR183_41, kR183_42, kR183_43, kR183_44, kL184, kA184, kS184, kL185, kA185, kS185, kL186, kA186, kS186, kL187, kA187, kS187, kL188, kA188, kS188, kL189, kL190, kL191, kA191, kS191, kL192, kA192, kS192, kL193, kA193, kS193, kL194, kA194, kS194, kL195, kA195, kS195, kL196, kA196, kS196, kL197, kA197, kS197, kL198, kA198, kS198, kL199, kA199, kS199, kL200, kA200, kS200, kL201, kL202, kA202, kS202, kL203, kA203, kS203, kL204, kA204, kS204, kL205, kL206, kA206, kS206, st (j + 1)]
    rw [← nI_succ]
    rfl
  · simp only [f_X12_fallTurns_b11, h1, oI]
    rw [if_pos (by decide)]
    rfl
end FALL
