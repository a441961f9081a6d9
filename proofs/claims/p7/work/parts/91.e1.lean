/-! the model's hills -/
def mnH (h : Nat → Int) (x : Nat) : Nat → Int
  | 0 => 100000
  | i + 1 => if mnH h x i ≤ h (x ^^^ 2 ^ i) then mnH h x i else h (x ^^^ 2 ^ i)
theorem mnH_le (h : Nat → Int) (x : Nat) : ∀ k, mnH h x k ≤ 100000 ∧ ∀ i, i < k → mnH h x k ≤ h (x ^^^ 2 ^ i)
  | 0 => ⟨Int.le_refl _, fun i hi => absurd hi (Nat.not_lt_zero _)⟩
  | k + 1 => by
    have ih := mnH_le h x k
    rw [mnH]
    split
    · next q =>
      refine ⟨ih.1, fun i hi => ?_⟩
      by_cases z : i = k
      · rw [z]; exact q
      · exact ih.2 i (by omega)
    · next q =>
      refine ⟨by omega, fun i hi => ?_⟩
      by_cases z : i = k
      · rw [z]; exact Int.le_refl _
      · have := ih.2 i (by omega)
        omega
theorem mnH_at (h : Nat → Int) (x : Nat) : ∀ k, mnH h x k = 100000 ∨ ∃ i, i < k ∧ mnH h x k = h (x ^^^ 2 ^ i)
  | 0 => .inl rfl
  | k + 1 => by
    rw [mnH]
    split
    · rcases mnH_at h x k with z | ⟨i, h1, h2⟩
      · exact .inl z
      · exact .inr ⟨i, by omega, h2⟩
    · exact .inr ⟨k, by omega, rfl⟩
/-- within an energy -/
def Se (g : GD) (F : Nat → Int32) (e : Int) (a b : Nat) : Prop := (lwS g F a ∧ eE g (zR F) a ≤ e) ∧ (lwS g F b ∧ eE g (zR F) b ≤ e) ∧ aj g F a b
def HI (g : GD) (F : Nat → Int32) (Q : Nat → Prop) (h : Nat → Int) : Prop := (∀ x, x < gSt g → lW g F x = false → h x = 100000) ∧ (∀ x, x < gSt g → h x = 100000 ∨ (h x ≤ 144 ∧ eE g (zR F) x ≤ h x ∧ ∃ q, Q q ∧ cn (Se g F (h x)) q x)) ∧ ∀ q, Q q → lwS g F q ∧ h q ≤ eE g (zR F) q
def mxH (g : GD) (F : Nat → Int32) (h : Nat → Int) (x : Nat) : Int := max (eE g (zR F) x) (mnH h x (gSz g))
section HILLS
variable {σ : XS} {J : Nat → Nat → Int32} {g : GD} {F : Nat → Int32} {Q : Nat → Prop} {h : Nat → Int}
theorem HI_b (hg : g ∈ gAll) (ho : RO g F) (hI : HI g F Q h) {x : Nat} (hx1 : x < gSt g) : -144 ≤ h x ∧ h x ≤ 100000 := by
  have := eE_b hg ho x
  rcases hI.2.1 x hx1 with z | ⟨z1, z2, -⟩ <;> omega
theorem HI_up (hg : g ∈ gAll) (ho : RO g F) (hI : HI g F Q h) {x : Nat} (hl : lwS g F x) (hlt : mxH g F h x < h x) : HI g F Q (fun y => if y = x then mxH g F h x else h y) := by
  obtain ⟨h1, h2, h3⟩ := hI
  have hb := eE_b hg ho x
  have hub := (HI_b hg ho ⟨h1, h2, h3⟩ hl.1).2
  refine ⟨fun y hy hn => ?_, fun y hy => ?_, fun q hq => ⟨(h3 q hq).1, ?_⟩⟩
  · show (if y = x then mxH g F h x else h y) = 100000
    by_cases z : y = x
    · rw [z, hl.2] at hn; cases hn
    · rw [if_neg z]; exact h1 y hy hn
  · show (if y = x then mxH g F h x else h y) = 100000 ∨ ((if y = x then mxH g F h x else h y) ≤ 144 ∧ eE g (zR F) y ≤ (if y = x then mxH g F h x else h y) ∧ ∃ q, Q q ∧ cn (Se g F (if y = x then mxH g F h x else h y)) q y)
    by_cases z : y = x
    · rw [if_pos z, z]
      right
      rcases mnH_at h x (gSz g) with w | ⟨i, i1, i2⟩
      · unfold mxH at hlt
        omega
      · have hf := gSt_flip hl.1 i1
        rcases h2 _ hf with v | ⟨v1, v2, q, q1, q2⟩
        · unfold mxH at hlt
          omega
        · have hly : lW g F (x ^^^ 2 ^ i) = true := by
            cases e : lW g F (x ^^^ 2 ^ i) with
            | true => rfl
            | false =>
              have := h1 _ hf e
              omega
          have hp : F (48 + i) = 0 := by
            rw [lW_flip i1 hl.2] at hly
            exact of_decide_eq_true hly
          have m1 : h (x ^^^ 2 ^ i) ≤ mxH g F h x := by unfold mxH; omega
          have m2 : eE g (zR F) x ≤ mxH g F h x := by unfold mxH; omega
          have m3 : mxH g F h x ≤ 144 := by unfold mxH; omega
          refine ⟨m3, m2, q, q1, cn_s (cn_m (fun a b ⟨⟨a1, a2⟩, ⟨b1, b2⟩, c⟩ => ⟨⟨a1, by omega⟩, ⟨b1, by omega⟩, c⟩) q2) ⟨⟨⟨hf, hly⟩, by omega⟩, ⟨hl, m2⟩, i, i1, hp, (xor2 x i).symm⟩⟩
    · rw [if_neg z]; exact h2 y hy
  · show (if q = x then mxH g F h x else h q) ≤ _
    by_cases z : q = x
    · rw [if_pos z, z]
      have := (h3 q hq).2
      rw [z] at this
      omega
    · rw [if_neg z]; exact (h3 q hq).2
def HX (J : Nat → Nat → Int32) (g : GD) (F : Nat → Int32) (Q : Nat → Prop) (h : Nat → Int) : Prop := GRD J g ∧ KNK J g F ∧ (∀ x, x < gSt g → J 202 x = iI (h x)) ∧ HI g F Q h
theorem hills_x (hS : Shp σ) (ho : RO g F) (h10 : gSt g ≤ 1024) (hX : HX J g F Q h) {x : Nat} (hl : lwS g F x) (mo : Int32) :
    xloop (f_X12_laysHills_b40 (xw σ J) 183 mo (nI x)) ((100000 : Int32), (0 : Int32)) = some (if mxH g F h x < h x then .inl ((1 : Int32), nI (x + 1), xw σ (xup J 202 x (iI (mxH g F h x)))) else .inl (mo, nI (x + 1), xw σ J)) := by
  obtain ⟨hG, hK, hv, hI⟩ := hX
  have hg := hG.1
  have h16 := (gAll_b g hg).2.2.1
  have hb := eE_b hg ho x
  have hk := hK.1 x hl.1
  rw [hl.2, if_pos rfl] at hk
  have mb : ∀ k, k ≤ gSz g → -144 ≤ mnH h x k ∧ mnH h x k ≤ 100000 := fun k hk => by
    refine ⟨?_, (mnH_le h x k).1⟩
    rcases mnH_at h x k with z | ⟨i, i1, i2⟩
    · omega
    · have := (HI_b hg ho hI (gSt_flip hl.1 (show i < gSz g by omega))).1
      omega
  have hxb := HI_b hg ho hI hl.1
  have x24 : x < 1024 := by have := hl.1; omega
  refine xforE (fun i : Nat => (iI (mnH h x i), nI i)) (gSz g) rfl (fun i hi => ?_) ?_
  · have hf := gSt_flip hl.1 hi
    have f24 : x ^^^ 2 ^ i < 1024 := by omega
    have hfb := HI_b hg ho hI hf
    have hmb := mb i (by omega)
    have q : (iI (mnH h x i) ≤ iI (h (x ^^^ 2 ^ i))) = (mnH h x i ≤ h (x ^^^ 2 ^ i)) := iI_le (by omega) (by omega) (by omega) (by omega)
    simp only [f_X12_laysHills_b40]
    simp (disch := first | assumption | omega) only [Option.bind_some, Option.map_some, xw_gR, xw_gN, xw_al, xw_ck, xw_uI, xw_ur, xup_at, xur_at, if_true, if_false, reduceIte, and_true, true_and, and_false, false_and, not_true_eq_false, not_false_eq_true, Nat.reduceEqDiff, eq_self, Nat.reduceAdd, Nat.reduceMul, kC1, kG1, kP1, kR1_0, kR1_1, kR1_2, kR1_3, kR1_4, kR1_5, kR1_6, kR1_7, kR1_8, kR1_9, kR1_10, kR1_11, kR1_12, kR1_13, kC2, kG2, kP2, kR2_0, kR2_1, kC3, kG3, kP3, kR3_0, kR3_1, kR3_2, kR3_3, kL4, kA4, kS4, kL5, kA5, kS5, kL6, kA6, kS6, kL7, kA7, kS7, kC8, kG8, kP8, kR8_0, kR8_1, kL9, kA9, kS9, kL10, kA10, kS10, kC11, kG11, kP11, kR11_0, kR11_1, kR11_2, kR11_3, kL12, kA12, kS12, kL13, kA13, kS13, kL14, kA14, kS14, kL15, kA15, kS15, kC16, kG16, kP16, kR16_0, kR16_1, kL17, kA17, kS17, kL18, kA18, kS18, kC19, kG19, kP19, kR19_0, kL20, kL141, kL146, kA146, kS146, kL151, kA151, kS151, kL156, kA156, kS156, kC157, kG157, kP157, kR157_0, kR157_1, kL158, kA158, kS158, kL159, kA159, kS159, kC161, kG161, kP161, kR161_0, kR161_1, kL162, kA162, kS162, kL163, kA163, kS163, kC165, kG165, kP165, kR165_0, kR165_1, kR165_2, kR165_3, kL166, kA166, kS166, kL167, kA167, kS167, kL168, kA168, kS168, kL169, kA169, kS169, kC170, kG170, kP170, kR170_0, kR170_1, kR170_2, kL171, kA171, kS171, kL172, kA172, kS172, kL173, kA173, kS173, kC174, kG174, kP174, kR174_0, kR174_1, kR174_2, kR174_3, kR174_4, kL175, kA175, kS175, kL176, kA176, kS176, kL177, kA177, kS177, kL178, kA178, kS178, kL179, kC180, kG180, kP180, kL181, kL182, kA182, kS182, kC183, kG183, kP183, kR183_1, kR183_3, kR183_5, kR183_6, kR183_7, kR183_8, kR183_9, kR183_21, kR183_26, kR183_27, kR183_30, kR183_31, kR183_33, kR183_34, kR183_36, kR183_37, kR183_38, kR183_39, kR183_40, kR183_41, kR183_42, kR183_43, kR183_44, kL184, kA184, kS184, kL185, kA185, kS185, kL186, kA186, kS186, kL187, kA187, kS187, kL188, kA188, kS188, kL189, kL190, kL191, kA191, kS191, kL192, kA192, kS192, kL193, kA193, kS193, kL194, kA194, kS194, kL195, kA195, kS195, kL196, kA196, kS196, kL197, kA197, kS197, kL198, kA198, kS198, kL199, kA199, kS199, kL200, kA200, kS200, kL201, kL202, kA202, kS202, kL203, kA203, kS203, kL204, kA204, kS204, kL205, kL206, kA206, kS206, sites_ok hS hG, nn_le, show ¬ (gSz g ≤ i) by omega, nn_one, nn_xor, hv _ hf, q]
    rw [← nI_succ]
    show _ = some (Sum.inl (iI (mnH h x (i + 1)), nI (i + 1)))
    rw [mnH]
    by_cases z : mnH h x i ≤ h (x ^^^ 2 ^ i)
    · rw [if_pos z, if_pos z]
    · rw [if_neg z, if_neg z]
  · have hmb := mb (gSz g) (Nat.le_refl _)
    have q1 : (iI (eE g (zR F) x) ≤ iI (mnH h x (gSz g))) = (eE g (zR F) x ≤ mnH h x (gSz g)) := iI_le (by omega) (by omega) (by omega) (by omega)
    have q2 : (iI (mxH g F h x) < iI (h x)) = (mxH g F h x < h x) := iI_lt (by unfold mxH; omega) (by unfold mxH; omega) (by omega) (by omega)
    have jo : ∀ v, v = iI (mxH g F h x) → f_X12_laysHills_j99 (xw σ J) 183 mo (nI x) v = some (if mxH g F h x < h x then .inl ((1 : Int32), nI (x + 1), xw σ (xup J 202 x (iI (mxH g F h x)))) else .inl (mo, nI (x + 1), xw σ J)) := by
      rintro v rfl
      unfold f_X12_laysHills_j99
      simp (disch := first | assumption | omega) only [Option.bind_some, Option.map_some, xw_gR, xw_gN, xw_al, xw_ck, xw_uI, xw_ur, xup_at, xur_at, if_true, if_false, reduceIte, and_true, true_and, and_false, false_and, not_true_eq_false, not_false_eq_true, Nat.reduceEqDiff, eq_self, Nat.reduceAdd, Nat.reduceMul, kC1, kG1, kP1, kR1_0, kR1_1, kR1_2, kR1_3, kR1_4, kR1_5, kR1_6, kR1_7, kR1_8, kR1_9, kR1_10, kR1_11, kR1_12, kR1_13, kC2, kG2, kP2, kR2_0, kR2_1, kC3, kG3, kP3, kR3_0, kR3_1, kR3_2, kR3_3, kL4, kA4, kS4, kL5, kA5, kS5, kL6, kA6, kS6, kL7, kA7, kS7, kC8, kG8, kP8, kR8_0, kR8_1, kL9, kA9, kS9, kL10, kA10, kS10, kC11, kG11, kP11, kR11_0, kR11_1, kR11_2, kR11_3, kL12, kA12, kS12, kL13, kA13, kS13, kL14, kA14, kS14, kL15, kA15, kS15, kC16, kG16, kP16, kR16_0, kR16_1, kL17, kA17, kS17, kL18, kA18, kS18, kC19, kG19, kP19, kR19_0, kL20, kL141, kL146, kA146, kS146, kL151, kA151, kS151, kL156, kA156, kS156, kC157, kG157, kP157, kR157_0, kR157_1, kL158, kA158, kS158, kL159, kA159, kS159, kC161, kG161, kP161, kR161_0, kR161_1, kL162, kA162, kS162, kL163, kA163, kS163, kC165, kG165, kP165, kR165_0, kR165_1, kR165_2, kR165_3, kL166, kA166, kS166, kL167, kA167, kS167, kL168, kA168, kS168, kL169, kA169, kS169, kC170, kG170, kP170, kR170_0, kR170_1, kR170_2, kL171, kA171, kS171, kL172, kA172, kS172, kL173, kA173, kS173, kC174, kG174, kP174, kR174_0, kR174_1, kR174_2, kR174_3, kR174_4, kL175, kA175, kS175, kL176, kA176, kS176, kL177, kA177, kS177, kL178, kA178, kS178, kL179, kC180, kG180, kP180, kL181, kL182, kA182, kS182, kC183, kG183, kP183, kR183_1, kR183_3, kR183_5, kR183_6, kR183_7, kR183_8, kR183_9, kR183_21, kR183_26, kR183_27, kR183_30, kR183_31, kR183_33, kR183_34, kR183_36, kR183_37, kR183_38, kR183_39, kR183_40, kR183_41, kR183_42, kR183_43, kR183_44, kL184, kA184, kS184, kL185, kA185, kS185, kL186, kA186, kS186, kL187, kA187, kS187, kL188, kA188, kS188, kL189, kL190, kL191, kA191, kS191, kL192, kA192, kS192, kL193, kA193, kS193, kL194, kA194, kS194, kL195, kA195, kS195, kL196, kA196, kS196, kL197, kA197, kS197, kL198, kA198, kS198, kL199, kA199, kS199, kL200, kA200, kS200, kL201, kL202, kA202, kS202, kL203, kA203, kS203, kL204, kA204, kS204, kL205, kL206, kA206, kS206, hv x hl.1, q2]
      rw [← nI_succ]
      by_cases z : mxH g F h x < h x
      · rw [if_pos z, if_pos z]
      · rw [if_neg z, if_neg z]
    simp only [f_X12_laysHills_b40]
    simp (disch := first | assumption | omega) only [Option.bind_some, Option.map_some, xw_gR, xw_gN, xw_al, xw_ck, xw_uI, xw_ur, xup_at, xur_at, if_true, if_false, reduceIte, and_true, true_and, and_false, false_and, not_true_eq_false, not_false_eq_true, Nat.reduceEqDiff, eq_self, Nat.reduceAdd, Nat.reduceMul, kC1, kG1, kP1, kR1_0, kR1_1, kR1_2, kR1_3, kR1_4, kR1_5, kR1_6, kR1_7, kR1_8, kR1_9, kR1_10, kR1_11, kR1_12, kR1_13, kC2, kG2, kP2, kR2_0, kR2_1, kC3, kG3, kP3, kR3_0, kR3_1, kR3_2, kR3_3, kL4, kA4, kS4, kL5, kA5, kS5, kL6, kA6, kS6, kL7, kA7, kS7, kC8, kG8, kP8, kR8_0, kR8_1, kL9, kA9, kS9, kL10, kA10, kS10, kC11, kG11, kP11, kR11_0, kR11_1, kR11_2, kR11_3, kL12, kA12, kS12, kL13, kA13, kS13, kL14, kA14, kS14, kL15, kA15, kS15, kC16, kG16, kP16, kR16_0, kR16_1, kL17, kA17, kS17, kL18, kA18, kS18, kC19, kG19, kP19, kR19_0, kL20, kL141, kL146, kA146, kS146, kL151, kA151, kS151, kL156, kA156, kS156, kC157, kG157, kP157, kR157_0, kR157_1, kL158, kA158, kS158, kL159, kA159, kS159, kC161, kG161, kP161, kR161_0, kR161_1, kL162, kA162, kS162, kL163, kA163, kS163, kC165, kG165, kP165, kR165_0, kR165_1, kR165_2, kR165_3, kL166, kA166, kS166, kL167, kA167, kS167, kL168, kA168, kS168, kL169, kA169, kS169, kC170, kG170, kP170, kR170_0, kR170_1, kR170_2, kL171, kA171, kS171, kL172, kA172, kS172, kL173, kA173, kS173, kC174, kG174, kP174, kR174_0, kR174_1, kR174_2, kR174_3, kR174_4, kL175, kA175, kS175, kL176, kA176, kS176, kL177, kA177, kS177, kL178, kA178, kS178, kL179, kC180, kG180, kP180, kL181, kL182, kA182, kS182, kC183, kG183, kP183, kR183_1, kR183_3, kR183_5, kR183_6, kR183_7, kR183_8, kR183_9, kR183_21, kR183_26, kR183_27, kR183_30, kR183_31, kR183_33, kR183_34, kR183_36, kR183_37, kR183_38, kR183_39, kR183_40, kR183_41, kR183_42, kR183_43, kR183_44, kL184, kA184, kS184, kL185, kA185, kS185, kL186, kA186, kS186, kL187, kA187, kS187, kL188, kA188, kS188, kL189, kL190, kL191, kA191, kS191, kL192, kA192, kS192, kL193, kA193, kS193, kL194, kA194, kS194, kL195, kA195, kS195, kL196, kA196, kS196, kL197, kA197, kS197, kL198, kA198, kS198, kL199, kA199, kS199, kL200, kA200, kS200, kL201, kL202, kA202, kS202, kL203, kA203, kS203, kL204, kA204, kS204, kL205, kL206, kA206, kS206, sites_ok hS hG, nn_le, Nat.le_refl, hk, q1]
    by_cases z : eE g (zR F) x ≤ mnH h x (gSz g)
    · rw [if_pos z, jo _ (by congr 1; unfold mxH; omega)]
      rfl
    · rw [if_neg z, jo _ (by congr 1; unfold mxH; omega)]
      rfl
def phH (g : GD) (h : Nat → Int) : Nat := fb_sm (fun x => (h x + 144).toNat) (gSt g)
theorem phH_up {x : Nat} {v : Int} (hx1 : x < gSt g) (h1 : v < h x) (h2 : -144 ≤ v) : phH g (fun y => if y = x then v else h y) < phH g h := by
  have up := fb_sm_upd (fun x => (h x + 144).toNat) (v + 144).toNat hx1
  have cg : phH g (fun y => if y = x then v else h y) = fb_sm (fun k => if k = x then (v + 144).toNat else (h k + 144).toNat) (gSt g) := fb_sm_cong (fun k _ => by
    show ((if k = x then v else h k) + 144).toNat = _
    by_cases z : k = x
    · rw [if_pos z, if_pos z]
    · rw [if_neg z, if_neg z])
  rw [cg]
  unfold phH
  have : (v + 144).toNat < (h x + 144).toNat := by omega
  have up' : fb_sm (fun k => if k = x then (v + 144).toNat else (h k + 144).toNat) (gSt g) + (h x + 144).toNat = fb_sm (fun x => (h x + 144).toNat) (gSt g) + (v + 144).toNat := up
  omega
theorem hills_p (hS : Shp σ) (ho : RO g F) (h10 : gSt g ≤ 1024) (hX : HX J g F Q h) :
    ∃ r, xloop (f_X12_laysHills_b10 183) ((0 : Int32), (0 : Int32), xw σ J) = some r ∧ ∃ (J' : Nat → Nat → Int32) (h' : Nat → Int), HX J' g F Q h' ∧ (∀ a k, a ≠ 202 → J' a k = J a k) ∧ ((r = .inl ((0 : Int32), xw σ J') ∧ ∀ x, lwS g F x → h' x ≤ mxH g F h' x) ∨ (r = .inl ((1 : Int32), xw σ J') ∧ phH g h' < phH g h)) := by
  have hg := hX.1.1
  refine xforI (fun x a => ∃ (mo : Int32) (J' : Nat → Nat → Int32) (h' : Nat → Int), a = (mo, nI x, xw σ J') ∧ HX J' g F Q h' ∧ (∀ a k, a ≠ 202 → J' a k = J a k) ∧ ((mo = 0 ∧ h' = h ∧ ∀ y, y < x → lwS g F y → h' y ≤ mxH g F h' y) ∨ (mo = 1 ∧ phH g h' < phH g h))) (gSt g) ⟨0, J, h, rfl, hX, fun _ _ _ => rfl, .inl ⟨rfl, rfl, fun y hy => absurd hy (Nat.not_lt_zero _)⟩⟩ ?_ ?_
  · rintro x a hx1 ⟨mo, J', h', rfl, hX', u, hd⟩
    have hG := hX'.1
    have hk := hX'.2.1.1 x hx1
    have x24 : x < 1024 := by omega
    cases hl : lW g F x with
    | false =>
      rw [hl, if_neg (by decide)] at hk
      refine ⟨(mo, nI (x + 1), xw σ J'), ?_, mo, J', h', rfl, hX', u, ?_⟩
      · simp only [f_X12_laysHills_b10]
        simp (disch := first | assumption | omega) only [Option.bind_some, Option.map_some, xw_gR, xw_gN, xw_al, xw_ck, xw_uI, xw_ur, xup_at, xur_at, if_true, if_false, reduceIte, and_true, true_and, and_false, false_and, not_true_eq_false, not_false_eq_true, Nat.reduceEqDiff, eq_self, Nat.reduceAdd, Nat.reduceMul, kC1, kG1, kP1, kR1_0, kR1_1, kR1_2, kR1_3, kR1_4, kR1_5, kR1_6, kR1_7, kR1_8, kR1_9, kR1_10, kR1_11, kR1_12, kR1_13, kC2, kG2, kP2, kR2_0, kR2_1, kC3, kG3, kP3, kR3_0, kR3_1, kR3_2, kR3_3, kL4, kA4, kS4, kL5, kA5, kS5, kL6, kA6, kS6, kL7, kA7, kS7, kC8, kG8, kP8, kR8_0, kR8_1, kL9, kA9, kS9, kL10, kA10, kS10, kC11, kG11, kP11, kR11_0, kR11_1, kR11_2, kR11_3, kL12, kA12, kS12, kL13, kA13, kS13, kL14, kA14, kS14, kL15, kA15, kS15, kC16, kG16, kP16, kR16_0, kR16_1, kL17, kA17, kS17, kL18, kA18, kS18, kC19, kG19, kP19, kR19_0, kL20, kL141, kL146, kA146, kS146, kL151, kA151, kS151, kL156, kA156, kS156, kC157, kG157, kP157, kR157_0, kR157_1, kL158, kA158, kS158, kL159, kA159, kS159, kC161, kG161, kP161, kR161_0, kR161_1, kL162, kA162, kS162, kL163, kA163, kS163, kC165, kG165, kP165, kR165_0, kR165_1, kR165_2, kR165_3, kL166, kA166, kS166, kL167, kA167, kS167, kL168, kA168, kS168, kL169, kA169, kS169, kC170, kG170, kP170, kR170_0, kR170_1, kR170_2, kL171, kA171, kS171, kL172, kA172, kS172, kL173, kA173, kS173, kC174, kG174, kP174, kR174_0, kR174_1, kR174_2, kR174_3, kR174_4, kL175, kA175, kS175, kL176, kA176, kS176, kL177, kA177, kS177, kL178, kA178, kS178, kL179, kC180, kG180, kP180, kL181, kL182, kA182, kS182, kC183, kG183, kP183, kR183_1, kR183_3, kR183_5, kR183_6, kR183_7, kR183_8, kR183_9, kR183_21, kR183_26, kR183_27, kR183_30, kR183_31, kR183_33, kR183_34, kR183_36, kR183_37, kR183_38, kR183_39, kR183_40, kR183_41, kR183_42, kR183_43, kR183_44, kL184, kA184, kS184, kL185, kA185, kS185, kL186, kA186, kS186, kL187, kA187, kS187, kL188, kA188, kS188, kL189, kL190, kL191, kA191, kS191, kL192, kA192, kS192, kL193, kA193, kS193, kL194, kA194, kS194, kL195, kA195, kS195, kL196, kA196, kS196, kL197, kA197, kS197, kL198, kA198, kS198, kL199, kA199, kS199, kL200, kA200, kS200, kL201, kL202, kA202, kS202, kL203, kA203, kS203, kL204, kA204, kS204, kL205, kL206, kA206, kS206, states12_ok hS hG, nn_le, show ¬ (gSt g ≤ x) by omega, hk, show (nI 100000 = (100000 : Int32)) = True from eq_true rfl]
        rw [nI_succ]
      · rcases hd with ⟨d1, d2, d3⟩ | d
        · left
          refine ⟨d1, d2, fun y hy hly => ?_⟩
          by_cases z : y = x
          · rw [z] at hly
            rw [hly.2] at hl; cases hl
          · exact d3 y (by omega) hly
        · exact .inr d
    | true =>
      rw [hl, if_pos rfl] at hk
      have hb := eE_b hg ho x
      have q : (iI (eE g (zR F) x) = (100000 : Int32)) = False := by
        rw [show (100000 : Int32) = iI 100000 from rfl, iI_eq (by omega) (by omega) (by omega) (by omega)]; exact eq_false (by omega)
      have hxx := hills_x (σ := σ) hS ho h10 hX' (x := x) ⟨hx1, hl⟩ mo
      have stp : f_X12_laysHills_b10 183 (mo, nI x, xw σ J') = xloop (f_X12_laysHills_b40 (xw σ J') 183 mo (nI x)) ((100000 : Int32), (0 : Int32)) := by
        simp only [f_X12_laysHills_b10]
        simp (disch := first | assumption | omega) only [Option.bind_some, Option.map_some, xw_gR, xw_gN, xw_al, xw_ck, xw_uI, xw_ur, xup_at, xur_at, if_true, if_false, reduceIte, and_true, true_and, and_false, false_and, not_true_eq_false, not_false_eq_true, Nat.reduceEqDiff, eq_self, Nat.reduceAdd, Nat.reduceMul, kC1, kG1, kP1, kR1_0, kR1_1, kR1_2, kR1_3, kR1_4, kR1_5, kR1_6, kR1_7, kR1_8, kR1_9, kR1_10, kR1_11, kR1_12, kR1_13, kC2, kG2, kP2, kR2_0, kR2_1, kC3, kG3, kP3, kR3_0, kR3_1, kR3_2, kR3_3, kL4, kA4, kS4, kL5, kA5, kS5, kL6, kA6, kS6, kL7, kA7, kS7, kC8, kG8, kP8, kR8_0, kR8_1, kL9, kA9, kS9, kL10, kA10, kS10, kC11, kG11, kP11, kR11_0, kR11_1, kR11_2, kR11_3, kL12, kA12, kS12, kL13, kA13, kS13, kL14, kA14, kS14, kL15, kA15, kS15, kC16, kG16, kP16, kR16_0, kR16_1, kL17, kA17, kS17, kL18, kA18, kS18, kC19, kG19, kP19, kR19_0, kL20, kL141, kL146, kA146, kS146, kL151, kA151, kS151, kL156, kA156, kS156, kC157, kG157, kP157, kR157_0, kR157_1, kL158, kA158, kS158, kL159, kA159, kS159, kC161, kG161, kP161, kR161_0, kR161_1, kL162, kA162, kS162, kL163, kA163, kS163, kC165, kG165, kP165, kR165_0, kR165_1, kR165_2, kR165_3, kL166, kA166, kS166, kL167, kA167, kS167, kL168, kA168, kS168, kL169, kA169, kS169, kC170, kG170, kP170, kR170_0, kR170_1, kR170_2, kL171, kA171, kS171, kL172, kA172, kS172, kL173, kA173, kS173, kC174, kG174, kP174, kR174_0, kR174_1, kR174_2, kR174_3, kR174_4, kL175, kA175, kS175, kL176, kA176, kS176, kL177, kA177, kS177, kL178, kA178, kS178, kL179, kC180, kG180, kP180, kL181, kL182, kA182, kS182, kC183, kG183, kP183, kR183_1, kR183_3, kR183_5, kR183_6, kR183_7, kR183_8, kR183_9, kR183_21, kR183_26, kR183_27, kR183_30, kR183_31, kR183_33, kR183_34, kR183_36, kR183_37, kR183_38, kR183_39, kR183_40, kR183_41, kR183_42, kR183_43, kR183_44, kL184, kA184, kS184, kL185, kA185, kS185, kL186, kA186, kS186, kL187, kA187, kS187, kL188, kA188, kS188, kL189, kL190, kL191, kA191, kS191, kL192, kA192, kS192, kL193, kA193, kS193, kL194, kA194, kS194, kL195, kA195, kS195, kL196, kA196, kS196, kL197, kA197, kS197, kL198, kA198, kS198, kL199, kA199, kS199, kL200, kA200, kS200, kL201, kL202, kA202, kS202, kL203, kA203, kS203, kL204, kA204, kS204, kL205, kL206, kA206, kS206, states12_ok hS hG, nn_le, show ¬ (gSt g ≤ x) by omega, hk, q]
      rw [stp, hxx]
      by_cases z : mxH g F h' x < h' x
      · rw [if_pos z]
        have mlo : -144 ≤ mxH g F h' x := by unfold mxH; omega
        have ph := phH_up (g := g) (h := h') hx1 z mlo
        refine ⟨_, rfl, 1, xup J' 202 x (iI (mxH g F h' x)), fun y => if y = x then mxH g F h' x else h' y, rfl, ⟨GRD_c (fun a k w => by rw [xup_at, if_neg (by unfold sGRD at w; omega)]) hG, KNK_c (I := J') hg (fun a k w => by rw [xup_at, if_neg (by omega)]) (fun _ _ => rfl) hX'.2.1, fun y hy => ?_, HI_up hg ho hX'.2.2.2 ⟨hx1, hl⟩ z⟩, fun a k ha => by rw [xup_at, if_neg (by omega)]; exact u a k ha, .inr ⟨rfl, ?_⟩⟩
        · rw [xup_at]
          show _ = iI (if y = x then mxH g F h' x else h' y)
          by_cases w : y = x
          · rw [if_pos ⟨rfl, w⟩, if_pos w]
          · rw [if_neg (by omega), if_neg w]; exact hX'.2.2.1 y hy
        · rcases hd with ⟨d1, d2, d3⟩ | ⟨d1, d2⟩
          · rw [d2] at ph ⊢; exact ph
          · omega
      · rw [if_neg z]
        refine ⟨_, rfl, mo, J', h', rfl, hX', u, ?_⟩
        rcases hd with ⟨d1, d2, d3⟩ | d
        · left
          refine ⟨d1, d2, fun y hy hly => ?_⟩
          by_cases w : y = x
          · rw [w]; omega
          · exact d3 y (by omega) hly
        · exact .inr d
  · rintro a ⟨mo, J', h', rfl, hX', u, hd⟩
    have hG := hX'.1
    refine ⟨.inl (mo, xw σ J'), ?_, J', h', hX', u, ?_⟩
    · simp only [f_X12_laysHills_b10]
      simp (disch := first | assumption | omega) only [Option.bind_some, Option.map_some, xw_gR, xw_gN, xw_al, xw_ck, xw_uI, xw_ur, xup_at, xur_at, if_true, if_false, reduceIte, and_true, true_and, and_false, false_and, not_true_eq_false, not_false_eq_true, Nat.reduceEqDiff, eq_self, Nat.reduceAdd, Nat.reduceMul, kC1, kG1, kP1, kR1_0, kR1_1, kR1_2, kR1_3, kR1_4, kR1_5, kR1_6, kR1_7, kR1_8, kR1_9, kR1_10, kR1_11, kR1_12, kR1_13, kC2, kG2, kP2, kR2_0, kR2_1, kC3, kG3, kP3, kR3_0, kR3_1, kR3_2, kR3_3, kL4, kA4, kS4, kL5, kA5, kS5, kL6, kA6, kS6, kL7, kA7, kS7, kC8, kG8, kP8, kR8_0, kR8_1, kL9, kA9, kS9, kL10, kA10, kS10, kC11, kG11, kP11, kR11_0, kR11_1, kR11_2, kR11_3, kL12, kA12, kS12, kL13, kA13, kS13, kL14, kA14, kS14, kL15, kA15, kS15, kC16, kG16, kP16, kR16_0, kR16_1, kL17, kA17, kS17, kL18, kA18, kS18, kC19, kG19, kP19, kR19_0, kL20, kL141, kL146, kA146, kS146, kL151, kA151, kS151, kL156, kA156, kS156, kC157, kG157, kP157, kR157_0, kR157_1, kL158, kA158, kS158, kL159, kA159, kS159, kC161, kG161, kP161, kR161_0, kR161_1, kL162, kA162, kS162, kL163, kA163, kS163, kC165, kG165, kP165, kR165_0, kR165_1, kR165_2, kR165_3, kL166, kA166, kS166, kL167, kA167, kS167, kL168, kA168, kS168, kL169, kA169, kS169, kC170, kG170, kP170, kR170_0, kR170_1, kR170_2, kL171, kA171, kS171, kL172, kA172, kS172, kL173, kA173, kS173, kC174, kG174, kP174, kR174_0, kR174_1, kR174_2, kR174_3, kR174_4, kL175, kA175, kS175, kL176, kA176, kS176, kL177, kA177, kS177, kL178, kA178, kS178, kL179, kC180, kG180, kP180, kL181, kL182, kA182, kS182, kC183, kG183, kP183, kR183_1, kR183_3, kR183_5, kR183_6, kR183_7, kR183_8, kR183_9, kR183_21, kR183_26, kR183_27, kR183_30, kR183_31, kR183_33, kR183_34, kR183_36, kR183_37, kR183_38, kR183_39, kR183_40, kR183_41, kR183_42, kR183_43, kR183_44, kL184, kA184, kS184, kL185, kA185, kS185, kL186, kA186, kS186, kL187, kA187, kS187, kL188, kA188, kS188, kL189, kL190, kL191, kA191, kS191, kL192, kA192, kS192, kL193, kA193, kS193, kL194, kA194, kS194, kL195, kA195, kS195, kL196, kA196, kS196, kL197, kA197, kS197, kL198, kA198, kS198, kL199, kA199, kS199, kL200, kA200, kS200, kL201, kL202, kA202, kS202, kL203, kA203, kS203, kL204, kA204, kS204, kL205, kL206, kA206, kS206, states12_ok hS hG, nn_le, Nat.le_refl]
    · rcases hd with ⟨d1, d2, d3⟩ | ⟨d1, d2⟩
      · exact .inl ⟨by rw [d1], fun x hl => d3 x hl.1 hl⟩
      · exact .inr ⟨by rw [d1], d2⟩
theorem hills_ok (hS : Shp σ) (ho : RO g F) (h10 : gSt g ≤ 1024) (hX : HX J g F Q h) :
    ∃ (J' : Nat → Nat → Int32) (h' : Nat → Int), f_X12_laysHills (xw σ J) 183 = some (xw σ J') ∧ (∀ a k, a ≠ 202 → J' a k = J a k) ∧ (∀ x, x < gSt g → J' 202 x = iI (h' x)) ∧ HI g F Q h' ∧ ∀ x y, lwS g F x → aj g F x y → h' x ≤ max (eE g (zR F) x) (h' y) := by
  unfold f_X12_laysHills
  have key := xloop_run (f := f_X12_laysHills_b2 183) (fun k a => ∃ (J' : Nat → Nat → Int32) (h' : Nat → Int), HX J' g F Q h' ∧ (∀ a k, a ≠ 202 → J' a k = J a k) ∧ ((a = ((1 : Int32), xw σ J') ∧ k = phH g h' + 1) ∨ (a = ((0 : Int32), xw σ J') ∧ k = 0 ∧ ∀ x, lwS g F x → h' x ≤ mxH g F h' x))) (fun b => ∃ (J' : Nat → Nat → Int32) (h' : Nat → Int), b = xw σ J' ∧ HX J' g F Q h' ∧ (∀ a k, a ≠ 202 → J' a k = J a k) ∧ ∀ x, lwS g F x → h' x ≤ mxH g F h' x) ?_ (phH g h + 1) ((1 : Int32), xw σ J) ⟨J, h, hX, fun _ _ _ => rfl, .inl ⟨rfl, rfl⟩⟩
  · obtain ⟨b, e, J', h', rfl, hX', u, fx⟩ := key
    refine ⟨J', h', e, u, hX'.2.2.1, hX'.2.2.2, fun x y hl hxy => ?_⟩
    obtain ⟨i, i1, i2, rfl⟩ := hxy
    have h1 := fx x hl
    have h2 := (mnH_le h' x (gSz g)).2 i i1
    unfold mxH at h1
    omega
  · rintro k a ⟨J', h', hX', u, ⟨rfl, rfl⟩ | ⟨rfl, rfl, fx⟩⟩
    · right
      obtain ⟨r, e, J2, h2, hX2, u2, hd⟩ := hills_p (σ := σ) hS ho h10 hX'
      have stp : f_X12_laysHills_b2 183 ((1 : Int32), xw σ J') = xloop (f_X12_laysHills_b10 183) ((0 : Int32), (0 : Int32), xw σ J') := by
        simp only [f_X12_laysHills_b2]
        rw [if_neg (by decide)]
      rcases hd with ⟨d1, d2⟩ | ⟨d1, d2⟩
      · exact ⟨0, ((0 : Int32), xw σ J2), by omega, by rw [stp, e, d1], J2, h2, hX2, fun a k ha => by rw [u2 a k ha]; exact u a k ha, .inr ⟨rfl, rfl, d2⟩⟩
      · exact ⟨phH g h2 + 1, ((1 : Int32), xw σ J2), by omega, by rw [stp, e, d1], J2, h2, hX2, fun a k ha => by rw [u2 a k ha]; exact u a k ha, .inl ⟨rfl, rfl⟩⟩
    · left
      refine ⟨xw σ J', ?_, J', h', rfl, hX', u, fx⟩
      simp only [f_X12_laysHills_b2]
      rw [if_pos trivial]
      rfl
/-- the class's answer and the model's -/
theorem meet_eq {M : Nat} {o : Nat → Nat} {Jc : Nat → Nat → Int32} {Qc : Nat → Prop} {one q0 i : Nat} (hg : g ∈ gAll) (ho : RO g F) (hO : TO Jc g F M o) (hi : i < M) (hI : HI g F Q h) (fx : ∀ x y, lwS g F x → aj g F x y → h x ≤ max (eE g (zR F) x) (h y)) (hl1 : lwS g F one) (hq0 : lwS g F q0) (hQ : ∀ q, lwS g F q → (Q q ↔ Qc q)) (hQ0 : Qc q0) (hE : ∀ q, Q q → eE g (zR F) q0 ≤ eE g (zR F) q) (h1 : met g F o Qc (i + 1) one q0) (h2 : ¬ met g F o Qc i one q0) : h one = eE g (zR F) (o i) := by
  obtain ⟨hM, j8, o1, o2, o3⟩ := hO
  have wl : ∀ k, k ≤ M → ∀ x, wt o k x = true → lwS g F x := fun k hk x hw => by
    obtain ⟨j, j1, rfl⟩ := wt_iff.mp hw
    exact (o1 j (by omega)).2
  have we : ∀ x, wt o (i + 1) x = true → eE g (zR F) x ≤ eE g (zR F) (o i) := fun x hw => by
    obtain ⟨j, j1, rfl⟩ := wt_iff.mp hw
    by_cases z : j = i
    · rw [z]; exact Int.le_refl _
    · exact (o2 j i (by omega) hi).1
  have lt : ∀ x, lwS g F x → eE g (zR F) x < eE g (zR F) (o i) → wt o i x = true := fun x hl hlt => by
    obtain ⟨j, j1, rfl⟩ := o3 x hl.1 hl.2
    refine wt_iff.mpr ⟨j, ?_, rfl⟩
    rcases Nat.lt_trichotomy j i with z | z | z
    · exact z
    · rw [z] at hlt; omega
    · have := (o2 i j z j1).1
      omega
  have A : h one ≤ eE g (zR F) (o i) := by
    obtain ⟨m1, m2, m3⟩ := h1
    have c := cn_y (Sw_y sQ_y) m3
    refine c (fun x => h x ≤ eE g (zR F) (o i)) ?_ (fun a b pa ⟨s1, s2, s3⟩ => ?_)
    · have := (hI.2.2 q0 ((hQ q0 hq0).mpr hQ0)).2
      have := we q0 m2
      show h q0 ≤ _
      omega
    · have lb := wl (i + 1) (by omega) b s2
      have eb := we b s2
      show h b ≤ _
      rcases s3 with z | ⟨z1, z2⟩
      · have := fx b a lb (aj_y z)
        have pa' : h a ≤ eE g (zR F) (o i) := pa
        omega
      · have := (hI.2.2 b ((hQ b lb).mpr z2)).2
        omega
  apply Classical.byContradiction
  intro hne
  have hlt : h one < eE g (zR F) (o i) := by omega
  have hbi := eE_b hg ho (o i)
  rcases hI.2.1 one hl1.1 with z | ⟨z1, z2, q, q1, q2⟩
  · omega
  · have lq := (hI.2.2 q q1).1
    have eq : eE g (zR F) q ≤ h one := by
      have := q2 (fun x => x = q ∨ eE g (zR F) q ≤ h one) (.inl rfl) (fun a b pa ⟨s1, s2, s3⟩ => by
        rcases pa with w | w
        · rw [w] at s1; exact .inr s1.2
        · exact .inr w)
      rcases this with w | w
      · rw [← w]; exact z2
      · exact w
    have e0 := hE q q1
    refine h2 ⟨lt one hl1 (by omega), lt q0 hq0 (by omega), ?_⟩
    have c1 : cn (Sw (wt o i) (sQ g F Qc)) q one := cn_m (fun a b ⟨⟨a1, a2⟩, ⟨b1, b2⟩, c⟩ => ⟨lt a a1 (by omega), lt b b1 (by omega), .inl c⟩) q2
    exact cn_s (cn_y (Sw_y sQ_y) c1) ⟨lt q lq (by omega), lt q0 hq0 (by omega), .inr ⟨(hQ q lq).mp q1, hQ0⟩⟩
end HILLS
