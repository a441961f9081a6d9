/-! lakes, counted -/
noncomputable def mnC (g : GD) (F : Nat → Int32) (e : Int) (y : Nat) : Bool := @decide (alw g F e y ∧ ∀ z, z < y → alw g F e z → ¬ cn (Se g F e) z y) (Classical.propDecidable _)
theorem mnC_iff {g : GD} {F : Nat → Int32} {e : Int} {y : Nat} : mnC g F e y = true ↔ alw g F e y ∧ ∀ z, z < y → alw g F e z → ¬ cn (Se g F e) z y := by
  unfold mnC
  exact @decide_eq_true_iff _ (Classical.propDecidable _)
section LAKE2
variable {σ : XS} {J0 J : Nat → Nat → Int32} {g : GD} {F : Nat → Int32}
def wK (g : GD) (F : Nat → Int32) (e : Int) (w : Nat → Bool) (k : Nat) : Prop := ∀ s, w s = true ↔ alw g F e s ∧ ∃ y, y < k ∧ alw g F e y ∧ cn (Se g F e) y s
theorem wK_skip {e : Int} {w : Nat → Bool} {k : Nat} (h : wK g F e w k) (hk : ¬ alw g F e k ∨ w k = true) : wK g F e w (k + 1) ∧ mnC g F e k = false := by
  refine ⟨fun s => ?_, ?_⟩
  · rw [h s]
    constructor
    · rintro ⟨h1, y, y1, y2⟩
      exact ⟨h1, y, by omega, y2⟩
    · rintro ⟨h1, y, y1, y2, y3⟩
      refine ⟨h1, ?_⟩
      by_cases z : y = k
      · rw [z] at y2 y3
        rcases hk with v | v
        · exact absurd y2 v
        · obtain ⟨-, t, t1, t2, t3⟩ := (h k).mp v
          exact ⟨t, t1, t2, cn_t t3 y3⟩
      · exact ⟨y, by omega, y2, y3⟩
  · cases z : mnC g F e k with
    | false => rfl
    | true =>
      obtain ⟨z1, z2⟩ := mnC_iff.mp z
      rcases hk with v | v
      · exact absurd z1 v
      · obtain ⟨-, t, t1, t2, t3⟩ := (h k).mp v
        exact absurd t3 (z2 t t1 t2)
theorem lakes44 (hS : Shp σ) (hG : GRD J0 g) (ho : RO g F) (hK : KNK J0 g F) (h10 : gSt g ≤ 1024) (x : Int32) (hL : LB J0 J g (fun _ => false) (fun _ => 0) 0) :
    ∃ r, xloop (f_X12_lakes_b44 183 x) ((0 : Int32), (0 : Int32), xw σ J) = some r ∧ ∃ J' : Nat → Nat → Int32, r = (nI (fb_ct (mnC g F x.toInt) (gSt g)), xw σ J') ∧ ∀ a k, ¬ (203 ≤ a ∧ a ≤ 204) → J' a k = J0 a k := by
  have hg := hG.1
  refine xforI (fun k a => ∃ (J' : Nat → Nat → Int32) (w : Nat → Bool) (q : Nat → Nat), a = (nI (fb_ct (mnC g F x.toInt) k), nI k, xw σ J') ∧ LB J0 J' g w q 0 ∧ wK g F x.toInt w k) (gSt g) ⟨J, _, _, rfl, hL, fun s => ⟨fun z => absurd z Bool.false_ne_true, fun ⟨_, y, y1, _⟩ => absurd y1 (Nat.not_lt_zero _)⟩⟩ ?_ ?_
  · rintro k a hk ⟨J', w, q, rfl, hL', hw⟩
    obtain ⟨v3, v4, u⟩ := id hL'
    have hG' : GRD J' g := GRD_c (fun a k z => u a k (by unfold sGRD at z; omega)) hG
    have k24 : k < 1024 := by omega
    have vw := v3 k hk
    have ve : J' 196 k = if lW g F k then iI (eE g (zR F) k) else nI 100000 := by rw [u _ _ (by omega)]; exact hK.1 k hk
    have hbt := eE_b hg ho k
    have skip : (¬ alw g F x.toInt k ∨ w k = true) → f_X12_lakes_b44 183 x (nI (fb_ct (mnC g F x.toInt) k), nI k, xw σ J') = some (.inl (nI (fb_ct (mnC g F x.toInt) k), nI (k + 1), xw σ J')) → ∃ a', f_X12_lakes_b44 183 x (nI (fb_ct (mnC g F x.toInt) k), nI k, xw σ J') = some (.inl a') ∧ ∃ (J' : Nat → Nat → Int32) (w : Nat → Bool) (q : Nat → Nat), a' = (nI (fb_ct (mnC g F x.toInt) (k + 1)), nI (k + 1), xw σ J') ∧ LB J0 J' g w q 0 ∧ wK g F x.toInt w (k + 1) := by
      intro h1 h2
      obtain ⟨s1, s2⟩ := wK_skip hw h1
      refine ⟨_, h2, J', w, q, ?_, hL', s1⟩
      rw [fb_ct_succ, s2]
      rfl
    cases hwk : w k with
    | true =>
      rw [hwk, if_pos rfl] at vw
      refine skip (.inr hwk) ?_
      simp only [f_X12_lakes_b44]
      simp (disch := first | assumption | omega) only [Option.bind_some, Option.map_some, xw_gR, xw_gN, xw_al, xw_ck, xw_uI, xw_ur, xup_at, xur_at, if_true, if_false, reduceIte, and_true, true_and, and_false, false_and, not_true_eq_false, not_false_eq_true, Nat.reduceEqDiff, eq_self, Nat.reduceAdd, Nat.reduceMul, kC1, kG1, kP1, kR1_0, kR1_1, kR1_2, kR1_3, kR1_4, kR1_5, kR1_6, kR1_7, kR1_8, kR1_9, kR1_10, kR1_11, kR1_12, kR1_13, kC2, kG2, kP2, kR2_0, kR2_1, kC3, kG3, kP3, kR3_0, kR3_1, kR3_2, kR3_3, kL4, kA4, kS4, kL5, kA5, kS5, kL6, kA6, kS6, kL7, kA7, kS7, kC8, kG8, kP8, kR8_0, kR8_1, kL9, kA9, kS9, kL10, kA10, kS10, kC11, kG11, kP11, kR11_0, kR11_1, kR11_2, kR11_3, kL12, kA12, kS12, kL13, kA13, kS13, kL14, kA14, kS14, kL15, kA15, kS15, kC16, kG16, kP16, kR16_0, kR16_1, kL17, kA17, kS17, kL18, kA18, kS18, kC19, kG19, kP19, kR19_0, kL20, kL141, kL146, kA146, kS146, kL151, kA151, kS151, kL156, kA156, kS156, kC157, kG157, kP157, kR157_0, kR157_1, kL158, kA158, kS158, kL159, kA159, kS159, kC161, kG161, kP161, kR161_0, kR161_1, kL162, kA162, kS162, kL163, kA163, kS163, kC165, kG165, kP165, kR165_0, kR165_1, kR165_2, kR165_3, kL166, kA166, kS166, kL167, kA167, kS167, kL168, kA168, kS168, kL169, kA169, kS169, kC170, kG170, kP170, kR170_0, kR170_1, kR170_2, kL171, kA171, kS171, kL172, kA172, kS172, kL173, kA173, kS173, kC174, kG174, kP174, kR174_0, kR174_1, kR174_2, kR174_3, kR174_4, kL175, kA175, kS175, kL176, kA176, kS176, kL177, kA177, kS177, kL178, kA178, kS178, kL179, kC180, kG180, kP180, kL181, kL182, kA182, kS182, kC183, kG183, kP183, kR183_1, kR183_3, kR183_5, kR183_6, kR183_7, kR183_8, kR183_9, kR183_21, kR183_26, kR183_27, kR183_30, kR183_31, kR183_33, kR183_34, kR183_36, kR183_37, kR183_38, kR183_39, kR183_40, kR183_41, kR183_42, kR183_43, kR183_44, kL184, kA184, kS184, kL185, kA185, kS185, kL186, kA186, kS186, kL187, kA187, kS187, kL188, kA188, kS188, kL189, kL190, kL191, kA191, kS191, kL192, kA192, kS192, kL193, kA193, kS193, kL194, kA194, kS194, kL195, kA195, kS195, kL196, kA196, kS196, kL197, kA197, kS197, kL198, kA198, kS198, kL199, kA199, kS199, kL200, kA200, kS200, kL201, kL202, kA202, kS202, kL203, kA203, kS203, kL204, kA204, kS204, kL205, kL206, kA206, kS206, states12_ok hS hG', nn_le, show ¬ (gSt g ≤ k) by omega, vw, one0]
      rw [nI_succ]
    | false =>
      rw [hwk, if_neg (by decide)] at vw
      cases hl : lW g F k with
      | false =>
        rw [hl, if_neg (by decide)] at ve
        refine skip (.inl (fun z => by have := z.1.2; rw [hl] at this; cases this)) ?_
        simp only [f_X12_lakes_b44]
        simp (disch := first | assumption | omega) only [Option.bind_some, Option.map_some, xw_gR, xw_gN, xw_al, xw_ck, xw_uI, xw_ur, xup_at, xur_at, if_true, if_false, reduceIte, and_true, true_and, and_false, false_and, not_true_eq_false, not_false_eq_true, Nat.reduceEqDiff, eq_self, Nat.reduceAdd, Nat.reduceMul, kC1, kG1, kP1, kR1_0, kR1_1, kR1_2, kR1_3, kR1_4, kR1_5, kR1_6, kR1_7, kR1_8, kR1_9, kR1_10, kR1_11, kR1_12, kR1_13, kC2, kG2, kP2, kR2_0, kR2_1, kC3, kG3, kP3, kR3_0, kR3_1, kR3_2, kR3_3, kL4, kA4, kS4, kL5, kA5, kS5, kL6, kA6, kS6, kL7, kA7, kS7, kC8, kG8, kP8, kR8_0, kR8_1, kL9, kA9, kS9, kL10, kA10, kS10, kC11, kG11, kP11, kR11_0, kR11_1, kR11_2, kR11_3, kL12, kA12, kS12, kL13, kA13, kS13, kL14, kA14, kS14, kL15, kA15, kS15, kC16, kG16, kP16, kR16_0, kR16_1, kL17, kA17, kS17, kL18, kA18, kS18, kC19, kG19, kP19, kR19_0, kL20, kL141, kL146, kA146, kS146, kL151, kA151, kS151, kL156, kA156, kS156, kC157, kG157, kP157, kR157_0, kR157_1, kL158, kA158, kS158, kL159, kA159, kS159, kC161, kG161, kP161, kR161_0, kR161_1, kL162, kA162, kS162, kL163, kA163, kS163, kC165, kG165, kP165, kR165_0, kR165_1, kR165_2, kR165_3, kL166, kA166, kS166, kL167, kA167, kS167, kL168, kA168, kS168, kL169, kA169, kS169, kC170, kG170, kP170, kR170_0, kR170_1, kR170_2, kL171, kA171, kS171, kL172, kA172, kS172, kL173, kA173, kS173, kC174, kG174, kP174, kR174_0, kR174_1, kR174_2, kR174_3, kR174_4, kL175, kA175, kS175, kL176, kA176, kS176, kL177, kA177, kS177, kL178, kA178, kS178, kL179, kC180, kG180, kP180, kL181, kL182, kA182, kS182, kC183, kG183, kP183, kR183_1, kR183_3, kR183_5, kR183_6, kR183_7, kR183_8, kR183_9, kR183_21, kR183_26, kR183_27, kR183_30, kR183_31, kR183_33, kR183_34, kR183_36, kR183_37, kR183_38, kR183_39, kR183_40, kR183_41, kR183_42, kR183_43, kR183_44, kL184, kA184, kS184, kL185, kA185, kS185, kL186, kA186, kS186, kL187, kA187, kS187, kL188, kA188, kS188, kL189, kL190, kL191, kA191, kS191, kL192, kA192, kS192, kL193, kA193, kS193, kL194, kA194, kS194, kL195, kA195, kS195, kL196, kA196, kS196, kL197, kA197, kS197, kL198, kA198, kS198, kL199, kA199, kS199, kL200, kA200, kS200, kL201, kL202, kA202, kS202, kL203, kA203, kS203, kL204, kA204, kS204, kL205, kL206, kA206, kS206, states12_ok hS hG', nn_le, show ¬ (gSt g ≤ k) by omega, vw, ve, show (nI 100000 = (100000 : Int32)) = True from eq_true rfl]
        rw [nI_succ]
      | true =>
        rw [hl, if_pos rfl] at ve
        have q1 : (iI (eE g (zR F) k) = (100000 : Int32)) = False := by
          rw [show (100000 : Int32) = iI 100000 from rfl, iI_eq (by omega) (by omega) (by omega) (by omega)]; exact eq_false (by omega)
        have q2 : (iI (eE g (zR F) k) ≤ x) = (eE g (zR F) k ≤ x.toInt) := by rw [fa_le, iI_ti (by omega) (by omega)]
        by_cases he : eE g (zR F) k ≤ x.toInt
        · have hal : alw g F x.toInt k := ⟨⟨hk, hl⟩, he⟩
          have z0 : ∀ (I : Nat → Nat → Int32) (v : Int32), xsI (xw σ I) 20 204 (0 : Int32) v = some (xw σ (xup I 204 0 v)) := fun I v => kS204 hS (i := 0) (by decide)
          have hB : BF g F x.toInt w (wA w k) (fun _ => k) 1 k := by
            refine ⟨⟨by omega, rfl⟩, fun j hj => ⟨hal, cn_r _ _, hwk⟩, fun i j hij hj => by omega, fun s => ?_⟩
            rw [wA_iff]
            constructor
            · rintro (z | z)
              · exact .inl z
              · exact .inr ⟨0, by omega, z⟩
            · rintro (z | ⟨j, -, z⟩)
              · exact .inl z
              · exact .inr z
          have hL2 : LB J0 (xup (xup J' 203 k 1) 204 0 (nI k)) g (wA w k) (fun _ => k) 1 := by
            refine ⟨fun s hs => ?_, fun j hj => ?_, fun a b hab => ?_⟩
            · rw [xup_at, if_neg (by omega), xup_at]
              by_cases z : s = k
              · rw [if_pos ⟨rfl, z⟩, z, wA_b, if_pos rfl]
              · rw [if_neg (by omega), v3 s hs]
                have : wA w k s = w s := by
                  unfold wA
                  rw [decide_eq_false (fun y => z y.symm), Bool.or_false]
                rw [this]
            · rw [xup_at, if_pos ⟨rfl, by omega⟩]
            · rw [xup_at, if_neg (by omega), xup_at, if_neg (by omega)]; exact u a b hab
          have hcl : ∀ a b, alw g F x.toInt a → alw g F x.toInt b → aj g F a b → w a = true → w b = true := fun a b ha hb hab hwa => by
            obtain ⟨-, y, y1, y2, y3⟩ := (hw a).mp hwa
            exact (hw b).mpr ⟨hb, y, y1, y2, cn_s y3 ⟨ha, hb, hab⟩⟩
          obtain ⟨J2, w', q', e, ⟨m', hL3⟩, hw'⟩ := bfs_ok (σ := σ) hS hG ho hK h10 x (nI (fb_ct (mnC g F x.toInt) k + 1)) (f := k) hB hL2 rfl hcl
          have hmn : mnC g F x.toInt k = true := by
            refine mnC_iff.mpr ⟨hal, fun z z1 z2 z3 => ?_⟩
            have := (hw k).mpr ⟨hal, z, z1, z2, z3⟩
            rw [hwk] at this; cases this
          refine ⟨(nI (fb_ct (mnC g F x.toInt) k + 1), nI (k + 1), xw σ J2), ?_, J2, w', q', ?_, ⟨hL3.1, fun j hj => absurd hj (Nat.not_lt_zero _), hL3.2.2⟩, fun s => ?_⟩
          · simp only [f_X12_lakes_b44]
            simp (disch := first | assumption | omega) only [Option.bind_some, Option.map_some, xw_gR, xw_gN, xw_al, xw_ck, xw_uI, xw_ur, xup_at, xur_at, if_true, if_false, reduceIte, and_true, true_and, and_false, false_and, not_true_eq_false, not_false_eq_true, Nat.reduceEqDiff, eq_self, Nat.reduceAdd, Nat.reduceMul, kC1, kG1, kP1, kR1_0, kR1_1, kR1_2, kR1_3, kR1_4, kR1_5, kR1_6, kR1_7, kR1_8, kR1_9, kR1_10, kR1_11, kR1_12, kR1_13, kC2, kG2, kP2, kR2_0, kR2_1, kC3, kG3, kP3, kR3_0, kR3_1, kR3_2, kR3_3, kL4, kA4, kS4, kL5, kA5, kS5, kL6, kA6, kS6, kL7, kA7, kS7, kC8, kG8, kP8, kR8_0, kR8_1, kL9, kA9, kS9, kL10, kA10, kS10, kC11, kG11, kP11, kR11_0, kR11_1, kR11_2, kR11_3, kL12, kA12, kS12, kL13, kA13, kS13, kL14, kA14, kS14, kL15, kA15, kS15, kC16, kG16, kP16, kR16_0, kR16_1, kL17, kA17, kS17, kL18, kA18, kS18, kC19, kG19, kP19, kR19_0, kL20, kL141, kL146, kA146, kS146, kL151, kA151, kS151, kL156, kA156, kS156, kC157, kG157, kP157, kR157_0, kR157_1, kL158, kA158, kS158, kL159, kA159, kS159, kC161, kG161, kP161, kR161_0, kR161_1, kL162, kA162, kS162, kL163, kA163, kS163, kC165, kG165, kP165, kR165_0, kR165_1, kR165_2, kR165_3, kL166, kA166, kS166, kL167, kA167, kS167, kL168, kA168, kS168, kL169, kA169, kS169, kC170, kG170, kP170, kR170_0, kR170_1, kR170_2, kL171, kA171, kS171, kL172, kA172, kS172, kL173, kA173, kS173, kC174, kG174, kP174, kR174_0, kR174_1, kR174_2, kR174_3, kR174_4, kL175, kA175, kS175, kL176, kA176, kS176, kL177, kA177, kS177, kL178, kA178, kS178, kL179, kC180, kG180, kP180, kL181, kL182, kA182, kS182, kC183, kG183, kP183, kR183_1, kR183_3, kR183_5, kR183_6, kR183_7, kR183_8, kR183_9, kR183_21, kR183_26, kR183_27, kR183_30, kR183_31, kR183_33, kR183_34, kR183_36, kR183_37, kR183_38, kR183_39, kR183_40, kR183_41, kR183_42, kR183_43, kR183_44, kL184, kA184, kS184, kL185, kA185, kS185, kL186, kA186, kS186, kL187, kA187, kS187, kL188, kA188, kS188, kL189, kL190, kL191, kA191, kS191, kL192, kA192, kS192, kL193, kA193, kS193, kL194, kA194, kS194, kL195, kA195, kS195, kL196, kA196, kS196, kL197, kA197, kS197, kL198, kA198, kS198, kL199, kA199, kS199, kL200, kA200, kS200, kL201, kL202, kA202, kS202, kL203, kA203, kS203, kL204, kA204, kS204, kL205, kL206, kA206, kS206, states12_ok hS hG', nn_le, show ¬ (gSt g ≤ k) by omega, vw, ve, q1, q2, he, z0]
            rw [← nI_succ]
            exact e
          · rw [fb_ct_succ, hmn]
            rfl
          · rw [hw' s, hw s]
            constructor
            · rintro (⟨h1, y, y1, y2⟩ | ⟨h1, h2⟩)
              · exact ⟨h1, y, by omega, y2⟩
              · exact ⟨h1, k, by omega, hal, h2⟩
            · rintro ⟨h1, y, y1, y2, y3⟩
              by_cases z : y = k
              · rw [z] at y3; exact .inr ⟨h1, y3⟩
              · exact .inl ⟨h1, y, by omega, y2, y3⟩
        · refine skip (.inl (fun z => he z.2)) ?_
          simp only [f_X12_lakes_b44]
          simp (disch := first | assumption | omega) only [Option.bind_some, Option.map_some, xw_gR, xw_gN, xw_al, xw_ck, xw_uI, xw_ur, xup_at, xur_at, if_true, if_false, reduceIte, and_true, true_and, and_false, false_and, not_true_eq_false, not_false_eq_true, Nat.reduceEqDiff, eq_self, Nat.reduceAdd, Nat.reduceMul, kC1, kG1, kP1, kR1_0, kR1_1, kR1_2, kR1_3, kR1_4, kR1_5, kR1_6, kR1_7, kR1_8, kR1_9, kR1_10, kR1_11, kR1_12, kR1_13, kC2, kG2, kP2, kR2_0, kR2_1, kC3, kG3, kP3, kR3_0, kR3_1, kR3_2, kR3_3, kL4, kA4, kS4, kL5, kA5, kS5, kL6, kA6, kS6, kL7, kA7, kS7, kC8, kG8, kP8, kR8_0, kR8_1, kL9, kA9, kS9, kL10, kA10, kS10, kC11, kG11, kP11, kR11_0, kR11_1, kR11_2, kR11_3, kL12, kA12, kS12, kL13, kA13, kS13, kL14, kA14, kS14, kL15, kA15, kS15, kC16, kG16, kP16, kR16_0, kR16_1, kL17, kA17, kS17, kL18, kA18, kS18, kC19, kG19, kP19, kR19_0, kL20, kL141, kL146, kA146, kS146, kL151, kA151, kS151, kL156, kA156, kS156, kC157, kG157, kP157, kR157_0, kR157_1, kL158, kA158, kS158, kL159, kA159, kS159, kC161, kG161, kP161, kR161_0, kR161_1, kL162, kA162, kS162, kL163, kA163, kS163, kC165, kG165, kP165, kR165_0, kR165_1, kR165_2, kR165_3, kL166, kA166, kS166, kL167, kA167, kS167, kL168, kA168, kS168, kL169, kA169, kS169, kC170, kG170, kP170, kR170_0, kR170_1, kR170_2, kL171, kA171, kS171, kL172, kA172, kS172, kL173, kA173, kS173, kC174, kG174, kP174, kR174_0, kR174_1, kR174_2, kR174_3, kR174_4, kL175, kA175, kS175, kL176, kA176, kS176, kL177, kA177, kS177, kL178, kA178, kS178, kL179, kC180, kG180, kP180, kL181, kL182, kA182, kS182, kC183, kG183, kP183, kR183_1, kR183_3, kR183_5, kR183_6, kR183_7, kR183_8, kR183_9, kR183_21, kR183_26, kR183_27, kR183_30, kR183_31, kR183_33, kR183_34, kR183_36, kR183_37, kR183_38, kR183_39, kR183_40, kR183_41, kR183_42, kR183_43, kR183_44, kL184, kA184, kS184, kL185, kA185, kS185, kL186, kA186, kS186, kL187, kA187, kS187, kL188, kA188, kS188, kL189, kL190, kL191, kA191, kS191, kL192, kA192, kS192, kL193, kA193, kS193, kL194, kA194, kS194, kL195, kA195, kS195, kL196, kA196, kS196, kL197, kA197, kS197, kL198, kA198, kS198, kL199, kA199, kS199, kL200, kA200, kS200, kL201, kL202, kA202, kS202, kL203, kA203, kS203, kL204, kA204, kS204, kL205, kL206, kA206, kS206, states12_ok hS hG', nn_le, show ¬ (gSt g ≤ k) by omega, vw, ve, q1, q2, he]
          rw [nI_succ]
  · rintro a ⟨J', w, q, rfl, hL', hw⟩
    have hG' : GRD J' g := GRD_c (fun a k z => hL'.2.2 a k (by unfold sGRD at z; omega)) hG
    have hSt := (gSt_b hg).1
    refine ⟨_, ?_, J', rfl, hL'.2.2⟩
    simp only [f_X12_lakes_b44]
    simp (disch := first | assumption | omega) only [Option.bind_some, Option.map_some, xw_gR, xw_gN, xw_al, xw_ck, xw_uI, xw_ur, xup_at, xur_at, if_true, if_false, reduceIte, and_true, true_and, and_false, false_and, not_true_eq_false, not_false_eq_true, Nat.reduceEqDiff, eq_self, Nat.reduceAdd, Nat.reduceMul, kC1, kG1, kP1, kR1_0, kR1_1, kR1_2, kR1_3, kR1_4, kR1_5, kR1_6, kR1_7, kR1_8, kR1_9, kR1_10, kR1_11, kR1_12, kR1_13, kC2, kG2, kP2, kR2_0, kR2_1, kC3, kG3, kP3, kR3_0, kR3_1, kR3_2, kR3_3, kL4, kA4, kS4, kL5, kA5, kS5, kL6, kA6, kS6, kL7, kA7, kS7, kC8, kG8, kP8, kR8_0, kR8_1, kL9, kA9, kS9, kL10, kA10, kS10, kC11, kG11, kP11, kR11_0, kR11_1, kR11_2, kR11_3, kL12, kA12, kS12, kL13, kA13, kS13, kL14, kA14, kS14, kL15, kA15, kS15, kC16, kG16, kP16, kR16_0, kR16_1, kL17, kA17, kS17, kL18, kA18, kS18, kC19, kG19, kP19, kR19_0, kL20, kL141, kL146, kA146, kS146, kL151, kA151, kS151, kL156, kA156, kS156, kC157, kG157, kP157, kR157_0, kR157_1, kL158, kA158, kS158, kL159, kA159, kS159, kC161, kG161, kP161, kR161_0, kR161_1, kL162, kA162, kS162, kL163, kA163, kS163, kC165, kG165, kP165, kR165_0, kR165_1, kR165_2, kR165_3, kL166, kA166, kS166, kL167, kA167, kS167, kL168, kA168, kS168, kL169, kA169, kS169, kC170, kG170, kP170, kR170_0, kR170_1, kR170_2, kL171, kA171, kS171, kL172, kA172, kS172, kL173, kA173, kS173, kC174, kG174, kP174, kR174_0, kR174_1, kR174_2, kR174_3, kR174_4, kL175, kA175, kS175, kL176, kA176, kS176, kL177, kA177, kS177, kL178, kA178, kS178, kL179, kC180, kG180, kP180, kL181, kL182, kA182, kS182, kC183, kG183, kP183, kR183_1, kR183_3, kR183_5, kR183_6, kR183_7, kR183_8, kR183_9, kR183_21, kR183_26, kR183_27, kR183_30, kR183_31, kR183_33, kR183_34, kR183_36, kR183_37, kR183_38, kR183_39, kR183_40, kR183_41, kR183_42, kR183_43, kR183_44, kL184, kA184, kS184, kL185, kA185, kS185, kL186, kA186, kS186, kL187, kA187, kS187, kL188, kA188, kS188, kL189, kL190, kL191, kA191, kS191, kL192, kA192, kS192, kL193, kA193, kS193, kL194, kA194, kS194, kL195, kA195, kS195, kL196, kA196, kS196, kL197, kA197, kS197, kL198, kA198, kS198, kL199, kA199, kS199, kL200, kA200, kS200, kL201, kL202, kA202, kS202, kL203, kA203, kS203, kL204, kA204, kS204, kL205, kL206, kA206, kS206, states12_ok hS hG', nn_le, Nat.le_refl]
theorem lakes12_ok (hS : Shp σ) (hG : GRD J g) (ho : RO g F) (hK : KNK J g F) (h10 : gSt g ≤ 1024) (x : Int32) : ∃ J' : Nat → Nat → Int32, xloop (f_X12_lakes_b19 183 x) ((0 : Int32), xw σ J) = some (nI (fb_ct (mnC g F x.toInt) (gSt g)), xw σ J') ∧ ∀ a k, ¬ (203 ≤ a ∧ a ≤ 204) → J' a k = J a k := by
  have hg := hG.1
  have key := xforI (f := f_X12_lakes_b19 183 x) (fun s a => ∃ J' : Nat → Nat → Int32, a = (nI s, xw σ J') ∧ (∀ y, y < s → J' 203 y = 0) ∧ ∀ a k, ¬ (203 ≤ a ∧ a ≤ 204) → J' a k = J a k) (gSt g) (Q := fun r => ∃ J' : Nat → Nat → Int32, r = (nI (fb_ct (mnC g F x.toInt) (gSt g)), xw σ J') ∧ ∀ a k, ¬ (203 ≤ a ∧ a ≤ 204) → J' a k = J a k) (a0 := ((0 : Int32), xw σ J)) ⟨J, rfl, fun y hy => absurd hy (Nat.not_lt_zero _), fun _ _ _ => rfl⟩ ?_ ?_
  · obtain ⟨r, e, J', rfl, u⟩ := key
    exact ⟨J', e, u⟩
  · rintro s a hs ⟨J', rfl, v, u⟩
    have hG' : GRD J' g := GRD_c (fun a k z => u a k (by unfold sGRD at z; omega)) hG
    have s24 : s < 1024 := by omega
    refine ⟨(nI (s + 1), xw σ (xup J' 203 s 0)), ?_, xup J' 203 s 0, rfl, fun y hy => ?_, fun a k h => by rw [xup_at, if_neg (by omega)]; exact u a k h⟩
    · simp only [f_X12_lakes_b19]
      simp (disch := first | assumption | omega) only [Option.bind_some, Option.map_some, xw_gR, xw_gN, xw_al, xw_ck, xw_uI, xw_ur, xup_at, xur_at, if_true, if_false, reduceIte, and_true, true_and, and_false, false_and, not_true_eq_false, not_false_eq_true, Nat.reduceEqDiff, eq_self, Nat.reduceAdd, Nat.reduceMul, kC1, kG1, kP1, kR1_0, kR1_1, kR1_2, kR1_3, kR1_4, kR1_5, kR1_6, kR1_7, kR1_8, kR1_9, kR1_10, kR1_11, kR1_12, kR1_13, kC2, kG2, kP2, kR2_0, kR2_1, kC3, kG3, kP3, kR3_0, kR3_1, kR3_2, kR3_3, kL4, kA4, kS4, kL5, kA5, kS5, kL6, kA6, kS6, kL7, kA7, kS7, kC8, kG8, kP8, kR8_0, kR8_1, kL9, kA9, kS9, kL10, kA10, kS10, kC11, kG11, kP11, kR11_0, kR11_1, kR11_2, kR11_3, kL12, kA12, kS12, kL13, kA13, kS13, kL14, kA14, kS14, kL15, kA15, kS15, kC16, kG16, kP16, kR16_0, kR16_1, kL17, kA17, kS17, kL18, kA18, kS18, kC19, kG19, kP19, kR19_0, kL20, kL141, kL146, kA146, kS146, kL151, kA151, kS151, kL156, kA156, kS156, kC157, kG157, kP157, kR157_0, kR157_1, kL158, kA158, kS158, kL159, kA159, kS159, kC161, kG161, kP161, kR161_0, kR161_1, kL162, kA162, kS162, kL163, kA163, kS163, kC165, kG165, kP165, kR165_0, kR165_1, kR165_2, kR165_3, kL166, kA166, kS166, kL167, kA167, kS167, kL168, kA168, kS168, kL169, kA169, kS169, kC170, kG170, kP170, kR170_0, kR170_1, kR170_2, kL171, kA171, kS171, kL172, kA172, kS172, kL173, kA173, kS173, kC174, kG174, kP174, kR174_0, kR174_1, kR174_2, kR174_3, kR174_4, kL175, kA175, kS175, kL176, kA176, kS176, kL177, kA177, kS177, kL178, kA178, kS178, kL179, kC180, kG180, kP180, kL181, kL182, kA182, kS182, kC183, kG183, kP183, kR183_1, kR183_3, kR183_5, kR183_6, kR183_7, kR183_8, kR183_9, kR183_21, kR183_26, kR183_27, kR183_30, kR183_31, kR183_33, kR183_34, kR183_36, kR183_37, kR183_38, kR183_39, kR183_40, kR183_41, kR183_42, kR183_43, kR183_44, kL184, kA184, kS184, kL185, kA185, kS185, kL186, kA186, kS186, kL187, kA187, kS187, kL188, kA188, kS188, kL189, kL190, kL191, kA191, kS191, kL192, kA192, kS192, kL193, kA193, kS193, kL194, kA194, kS194, kL195, kA195, kS195, kL196, kA196, kS196, kL197, kA197, kS197, kL198, kA198, kS198, kL199, kA199, kS199, kL200, kA200, kS200, kL201, kL202, kA202, kS202, kL203, kA203, kS203, kL204, kA204, kS204, kL205, kL206, kA206, kS206, states12_ok hS hG', nn_le, show ¬ (gSt g ≤ s) by omega]
      rw [nI_succ]
    · rw [xup_at]
      by_cases z : y = s
      · rw [if_pos ⟨rfl, z⟩]
      · rw [if_neg (by omega)]; exact v y (by omega)
  · rintro a ⟨J', rfl, v, u⟩
    have hG' : GRD J' g := GRD_c (fun a k z => u a k (by unfold sGRD at z; omega)) hG
    obtain ⟨r, e, J2, rfl, u2⟩ := lakes44 (σ := σ) (J0 := J) (J := J') hS hG ho hK h10 x ⟨fun s hs => by rw [v s hs]; exact (if_neg Bool.false_ne_true).symm, fun j hj => absurd hj (Nat.not_lt_zero _), u⟩
    refine ⟨_, ?_, J2, rfl, u2⟩
    simp only [f_X12_lakes_b19]
    simp (disch := first | assumption | omega) only [Option.bind_some, Option.map_some, xw_gR, xw_gN, xw_al, xw_ck, xw_uI, xw_ur, xup_at, xur_at, if_true, if_false, reduceIte, and_true, true_and, and_false, false_and, not_true_eq_false, not_false_eq_true, Nat.reduceEqDiff, eq_self, Nat.reduceAdd, Nat.reduceMul, kC1, kG1, kP1, kR1_0, kR1_1, kR1_2, kR1_3, kR1_4, kR1_5, kR1_6, kR1_7, kR1_8, kR1_9, kR1_10, kR1_11, kR1_12, kR1_13, kC2, kG2, kP2, kR2_0, kR2_1, kC3, kG3, kP3, kR3_0, kR3_1, kR3_2, kR3_3, kL4, kA4, kS4, kL5, kA5, kS5, kL6, kA6, kS6, kL7, kA7, kS7, kC8, kG8, kP8, kR8_0, kR8_1, kL9, kA9, kS9, kL10, kA10, kS10, kC11, kG11, kP11, kR11_0, kR11_1, kR11_2, kR11_3, kL12, kA12, kS12, kL13, kA13, kS13, kL14, kA14, kS14, kL15, kA15, kS15, kC16, kG16, kP16, kR16_0, kR16_1, kL17, kA17, kS17, kL18, kA18, kS18, kC19, kG19, kP19, kR19_0, kL20, kL141, kL146, kA146, kS146, kL151, kA151, kS151, kL156, kA156, kS156, kC157, kG157, kP157, kR157_0, kR157_1, kL158, kA158, kS158, kL159, kA159, kS159, kC161, kG161, kP161, kR161_0, kR161_1, kL162, kA162, kS162, kL163, kA163, kS163, kC165, kG165, kP165, kR165_0, kR165_1, kR165_2, kR165_3, kL166, kA166, kS166, kL167, kA167, kS167, kL168, kA168, kS168, kL169, kA169, kS169, kC170, kG170, kP170, kR170_0, kR170_1, kR170_2, kL171, kA171, kS171, kL172, kA172, kS172, kL173, kA173, kS173, kC174, kG174, kP174, kR174_0, kR174_1, kR174_2, kR174_3, kR174_4, kL175, kA175, kS175, kL176, kA176, kS176, kL177, kA177, kS177, kL178, kA178, kS178, kL179, kC180, kG180, kP180, kL181, kL182, kA182, kS182, kC183, kG183, kP183, kR183_1, kR183_3, kR183_5, kR183_6, kR183_7, kR183_8, kR183_9, kR183_21, kR183_26, kR183_27, kR183_30, kR183_31, kR183_33, kR183_34, kR183_36, kR183_37, kR183_38, kR183_39, kR183_40, kR183_41, kR183_42, kR183_43, kR183_44, kL184, kA184, kS184, kL185, kA185, kS185, kL186, kA186, kS186, kL187, kA187, kS187, kL188, kA188, kS188, kL189, kL190, kL191, kA191, kS191, kL192, kA192, kS192, kL193, kA193, kS193, kL194, kA194, kS194, kL195, kA195, kS195, kL196, kA196, kS196, kL197, kA197, kS197, kL198, kA198, kS198, kL199, kA199, kS199, kL200, kA200, kS200, kL201, kL202, kA202, kS202, kL203, kA203, kS203, kL204, kA204, kS204, kL205, kL206, kA206, kS206, states12_ok hS hG', nn_le, Nat.le_refl, e]
end LAKE2
theorem ct_inj {p q : Nat → Bool} {N N' : Nat} (φ : Nat → Nat) (h1 : ∀ x, x < N → p x = true → φ x < N' ∧ q (φ x) = true) (h2 : ∀ x y, x < N → y < N → p x = true → p y = true → φ x = φ y → x = y) : fb_ct p N ≤ fb_ct q N' := by
  have h : ∀ i, ∃ x, i < fb_ct p N → x < N ∧ p x = true ∧ fb_ct p x = i := by
    intro i
    by_cases z : i < fb_ct p N
    · obtain ⟨x, x1, x2, x3⟩ := fb_ct_kth z
      exact ⟨x, fun _ => ⟨x1, x2, x3⟩⟩
    · exact ⟨0, fun q => absurd q z⟩
  obtain ⟨e, h⟩ := Classical.axiomOfChoice h
  refine fb_holes (fb_ct q N') (fb_ct p N) (fun i => fb_ct q (φ (e i))) (fun i hi => ?_) (fun i j hij hj => ?_)
  · obtain ⟨a1, a2, a3⟩ := h i hi
    obtain ⟨b1, b2⟩ := h1 _ a1 a2
    exact ct_in b1 b2
  · obtain ⟨a1, a2, a3⟩ := h i (by omega)
    obtain ⟨c1, c2, c3⟩ := h j hj
    intro z
    have := h2 _ _ a1 c1 a2 c2 (fb_ct_kth_one (h1 _ a1 a2).2 (h1 _ c1 c2).2 z)
    rw [this] at a3
    omega
theorem lakes_eq {g : GD} {F : Nat → Int32} {e : Int} {w : Nat → Bool} {r : Nat → Nat} (hw : ∀ s, w s = true ↔ lwS g F s ∧ eE g (zR F) s ≤ e) (h1 : ∀ s, w s = true → s < 1024 ∧ w (r s) = true) (h2 : ∀ a b, w a = true → w b = true → (r a = r b ↔ cn (Sw w (aj g F)) a b)) (h3 : ∀ s, w s = true → r (r s) = r s) : rc w r = fb_ct (mnC g F e) (gSt g) := by
  have c1 : ∀ a b, cn (Sw w (aj g F)) a b → cn (Se g F e) a b := fun a b h => cn_m (fun p q ⟨s1, s2, s3⟩ => ⟨(hw p).mp s1, (hw q).mp s2, s3⟩) h
  have c2 : ∀ a b, cn (Se g F e) a b → cn (Sw w (aj g F)) a b := fun a b h => cn_m (fun p q ⟨s1, s2, s3⟩ => ⟨(hw p).mpr s1, (hw q).mpr s2, s3⟩) h
  apply Nat.le_antisymm
  · have ex : ∀ x, ∃ y, (w x = true ∧ r x = x) → (w y = true ∧ r y = x ∧ ∀ z, z < y → ¬ (w z = true ∧ r z = x)) := by
      intro x
      by_cases z : w x = true ∧ r x = x
      · obtain ⟨y, y1, y2, y3⟩ := fb_first (p := fun y => w y = true ∧ r y = x) (n := x + 1) ⟨x, by omega, z⟩
        exact ⟨y, fun _ => ⟨y2.1, y2.2, y3⟩⟩
      · exact ⟨0, fun q => absurd q z⟩
    obtain ⟨φ, hφ⟩ := Classical.axiomOfChoice ex
    have sp : ∀ x, (w x && decide (r x = x)) = true → w x = true ∧ r x = x := fun x hx1 => by
      simpa using hx1
    refine ct_inj φ (fun x _ hx1 => ?_) (fun x y _ _ hx1 hy1 hxy => ?_)
    · obtain ⟨a1, a2, a3⟩ := hφ x (sp x hx1)
      have al := (hw _).mp a1
      refine ⟨al.1.1, mnC_iff.mpr ⟨al, fun z z1 z2 z3 => a3 z z1 ?_⟩⟩
      have wz := (hw z).mpr z2
      exact ⟨wz, ((h2 z _ wz a1).mpr (c2 _ _ z3)).trans a2⟩
    · obtain ⟨a1, a2, a3⟩ := hφ x (sp x hx1)
      obtain ⟨b1, b2, b3⟩ := hφ y (sp y hy1)
      rw [hxy, b2] at a2
      exact a2.symm
  · refine ct_inj r (fun y _ hy1 => ?_) (fun x y _ _ hx1 hy1 hxy => ?_)
    · have wy := (hw y).mpr (mnC_iff.mp hy1).1
      have a := h1 y wy
      refine ⟨(h1 _ a.2).1, ?_⟩
      rw [a.2, h3 y wy]; simp
    · obtain ⟨x1, x2⟩ := mnC_iff.mp hx1
      obtain ⟨y1, y2⟩ := mnC_iff.mp hy1
      have wx := (hw x).mpr x1
      have wy := (hw y).mpr y1
      have c := c1 _ _ ((h2 x y wx wy).mp hxy)
      rcases Nat.lt_trichotomy x y with z | z | z
      · exact absurd c (y2 x z x1)
      · exact z
      · exact absurd (cn_y Se_y c) (x2 y z y1)
theorem op_lakes : Op_lakes INV := by
  intro n σ hn ⟨g, gT, gP, st, H⟩ x
  have hS := H.shp
  have hG := H.grd
  have hg := hG.1
  have hSt := (gSt_b hg).1
  have sm := isSmall_ok (σ := σ) (I := xI σ) hS hG
  have s2 := sites_ok (σ := σ) (I := xI σ) hS hG
  have sm2 := small12 hS hG
  by_cases h10 : gSz g ≤ 10
  · rw [if_pos h10] at sm
    obtain ⟨τ, c, m, M, o, e1, H1, hT, hO, r1⟩ := terr_ready (by omega) H h10
    obtain ⟨F, hF⟩ : ∃ F, F = xI σ 191 := ⟨_, rfl⟩
    rw [← hF] at hT hO r1
    have ho := hT.2.2.1
    obtain ⟨J', r, w, e3, u3, w1, w2, w3, w4⟩ := lakesBelow_ok hT hO x
    obtain ⟨H3, hG3, r3, Q, e4, H4, hG4, K4, r4⟩ := terr_both H1 r1 u3
    have hS3 : Shp τ := H1.shp
    obtain ⟨J5, e5, u5⟩ := lakes12_ok (σ := τ) (J := Q) hS3 hG4 ho K4 hT.st x
    rw [lakes_eq w1 w2 w3 w4] at e3
    refine ⟨nI (fb_ct (mnC g F x.toInt) (gSt g)), xw τ J', xw τ J5, ?_, ?_, INV_i (IV.nop (H4.hills (fun a k h => u5 a k (by omega))))⟩
    · unfold f_X11_lakes
      show ((xck σ 1 11).bind fun _ => (f_X11_isSmall (xw σ (xI σ)) 1).bind _) = _
      rw [xck_ok (sT1 hS), Option.bind_some, sm, Option.bind_some, if_neg (by decide), Option.bind_some, e1, Option.bind_some]
      dsimp only
      rw [xnz_ok (by decide), Option.bind_some]
      unfold f_X11_lakes_j14
      rw [xck_ok (sT174 hS3), Option.bind_some]
      show ((f_X9_lakesBelow (xw τ (xI τ)) 174 x).bind _) = _
      rw [e3, Option.bind_some]
    · unfold f_X12_lakes
      simp (disch := first | assumption | omega) only [Option.bind_some, Option.map_some, xw_gR, xw_gN, xw_al, xw_ck, xw_uI, xw_ur, xup_at, xur_at, if_true, if_false, reduceIte, and_true, true_and, and_false, false_and, not_true_eq_false, not_false_eq_true, Nat.reduceEqDiff, eq_self, Nat.reduceAdd, Nat.reduceMul, kC1, kG1, kP1, kR1_0, kR1_1, kR1_2, kR1_3, kR1_4, kR1_5, kR1_6, kR1_7, kR1_8, kR1_9, kR1_10, kR1_11, kR1_12, kR1_13, kC2, kG2, kP2, kR2_0, kR2_1, kC3, kG3, kP3, kR3_0, kR3_1, kR3_2, kR3_3, kL4, kA4, kS4, kL5, kA5, kS5, kL6, kA6, kS6, kL7, kA7, kS7, kC8, kG8, kP8, kR8_0, kR8_1, kL9, kA9, kS9, kL10, kA10, kS10, kC11, kG11, kP11, kR11_0, kR11_1, kR11_2, kR11_3, kL12, kA12, kS12, kL13, kA13, kS13, kL14, kA14, kS14, kL15, kA15, kS15, kC16, kG16, kP16, kR16_0, kR16_1, kL17, kA17, kS17, kL18, kA18, kS18, kC19, kG19, kP19, kR19_0, kL20, kL141, kL146, kA146, kS146, kL151, kA151, kS151, kL156, kA156, kS156, kC157, kG157, kP157, kR157_0, kR157_1, kL158, kA158, kS158, kL159, kA159, kS159, kC161, kG161, kP161, kR161_0, kR161_1, kL162, kA162, kS162, kL163, kA163, kS163, kC165, kG165, kP165, kR165_0, kR165_1, kR165_2, kR165_3, kL166, kA166, kS166, kL167, kA167, kS167, kL168, kA168, kS168, kL169, kA169, kS169, kC170, kG170, kP170, kR170_0, kR170_1, kR170_2, kL171, kA171, kS171, kL172, kA172, kS172, kL173, kA173, kS173, kC174, kG174, kP174, kR174_0, kR174_1, kR174_2, kR174_3, kR174_4, kL175, kA175, kS175, kL176, kA176, kS176, kL177, kA177, kS177, kL178, kA178, kS178, kL179, kC180, kG180, kP180, kL181, kL182, kA182, kS182, kC183, kG183, kP183, kR183_1, kR183_3, kR183_5, kR183_6, kR183_7, kR183_8, kR183_9, kR183_21, kR183_26, kR183_27, kR183_30, kR183_31, kR183_33, kR183_34, kR183_36, kR183_37, kR183_38, kR183_39, kR183_40, kR183_41, kR183_42, kR183_43, kR183_44, kL184, kA184, kS184, kL185, kA185, kS185, kL186, kA186, kS186, kL187, kA187, kS187, kL188, kA188, kS188, kL189, kL190, kL191, kA191, kS191, kL192, kA192, kS192, kL193, kA193, kS193, kL194, kA194, kS194, kL195, kA195, kS195, kL196, kA196, kS196, kL197, kA197, kS197, kL198, kA198, kS198, kL199, kA199, kS199, kL200, kA200, kS200, kL201, kL202, kA202, kS202, kL203, kA203, kS203, kL204, kA204, kS204, kL205, kL206, kA206, kS206, sites_ok hS3 hG3, sm2, h10, e4]
      exact e5
  · rw [if_neg h10] at sm
    refine ⟨-100000, σ, σ, ?_, ?_, INV_i H.nop⟩
    · show f_X11_lakes (xw σ (xI σ)) 1 x = _
      unfold f_X11_lakes
      simp (disch := first | assumption | omega) only [Option.bind_some, Option.map_some, xw_gR, xw_gN, xw_al, xw_ck, xw_uI, xw_ur, xup_at, xur_at, if_true, if_false, reduceIte, and_true, true_and, and_false, false_and, not_true_eq_false, not_false_eq_true, Nat.reduceEqDiff, eq_self, Nat.reduceAdd, Nat.reduceMul, kC1, kG1, kP1, kR1_0, kR1_1, kR1_2, kR1_3, kR1_4, kR1_5, kR1_6, kR1_7, kR1_8, kR1_9, kR1_10, kR1_11, kR1_12, kR1_13, kC2, kG2, kP2, kR2_0, kR2_1, kC3, kG3, kP3, kR3_0, kR3_1, kR3_2, kR3_3, kL4, kA4, kS4, kL5, kA5, kS5, kL6, kA6, kS6, kL7, kA7, kS7, kC8, kG8, kP8, kR8_0, kR8_1, kL9, kA9, kS9, kL10, kA10, kS10, kC11, kG11, kP11, kR11_0, kR11_1, kR11_2, kR11_3, kL12, kA12, kS12, kL13, kA13, kS13, kL14, kA14, kS14, kL15, kA15, kS15, kC16, kG16, kP16, kR16_0, kR16_1, kL17, kA17, kS17, kL18, kA18, kS18, kC19, kG19, kP19, kR19_0, kL20, kL141, kL146, kA146, kS146, kL151, kA151, kS151, kL156, kA156, kS156, kC157, kG157, kP157, kR157_0, kR157_1, kL158, kA158, kS158, kL159, kA159, kS159, kC161, kG161, kP161, kR161_0, kR161_1, kL162, kA162, kS162, kL163, kA163, kS163, kC165, kG165, kP165, kR165_0, kR165_1, kR165_2, kR165_3, kL166, kA166, kS166, kL167, kA167, kS167, kL168, kA168, kS168, kL169, kA169, kS169, kC170, kG170, kP170, kR170_0, kR170_1, kR170_2, kL171, kA171, kS171, kL172, kA172, kS172, kL173, kA173, kS173, kC174, kG174, kP174, kR174_0, kR174_1, kR174_2, kR174_3, kR174_4, kL175, kA175, kS175, kL176, kA176, kS176, kL177, kA177, kS177, kL178, kA178, kS178, kL179, kC180, kG180, kP180, kL181, kL182, kA182, kS182, kC183, kG183, kP183, kR183_1, kR183_3, kR183_5, kR183_6, kR183_7, kR183_8, kR183_9, kR183_21, kR183_26, kR183_27, kR183_30, kR183_31, kR183_33, kR183_34, kR183_36, kR183_37, kR183_38, kR183_39, kR183_40, kR183_41, kR183_42, kR183_43, kR183_44, kL184, kA184, kS184, kL185, kA185, kS185, kL186, kA186, kS186, kL187, kA187, kS187, kL188, kA188, kS188, kL189, kL190, kL191, kA191, kS191, kL192, kA192, kS192, kL193, kA193, kS193, kL194, kA194, kS194, kL195, kA195, kS195, kL196, kA196, kS196, kL197, kA197, kS197, kL198, kA198, kS198, kL199, kA199, kS199, kL200, kA200, kS200, kL201, kL202, kA202, kS202, kL203, kA203, kS203, kL204, kA204, kS204, kL205, kL206, kA206, kS206, sm]
      rfl
    · show f_X12_lakes (xw σ (xI σ)) 183 x = _
      unfold f_X12_lakes
      simp (disch := first | assumption | omega) only [Option.bind_some, Option.map_some, xw_gR, xw_gN, xw_al, xw_ck, xw_uI, xw_ur, xup_at, xur_at, if_true, if_false, reduceIte, and_true, true_and, and_false, false_and, not_true_eq_false, not_false_eq_true, Nat.reduceEqDiff, eq_self, Nat.reduceAdd, Nat.reduceMul, kC1, kG1, kP1, kR1_0, kR1_1, kR1_2, kR1_3, kR1_4, kR1_5, kR1_6, kR1_7, kR1_8, kR1_9, kR1_10, kR1_11, kR1_12, kR1_13, kC2, kG2, kP2, kR2_0, kR2_1, kC3, kG3, kP3, kR3_0, kR3_1, kR3_2, kR3_3, kL4, kA4, kS4, kL5, kA5, kS5, kL6, kA6, kS6, kL7, kA7, kS7, kC8, kG8, kP8, kR8_0, kR8_1, kL9, kA9, kS9, kL10, kA10, kS10, kC11, kG11, kP11, kR11_0, kR11_1, kR11_2, kR11_3, kL12, kA12, kS12, kL13, kA13, kS13, kL14, kA14, kS14, kL15, kA15, kS15, kC16, kG16, kP16, kR16_0, kR16_1, kL17, kA17, kS17, kL18, kA18, kS18, kC19, kG19, kP19, kR19_0, kL20, kL141, kL146, kA146, kS146, kL151, kA151, kS151, kL156, kA156, kS156, kC157, kG157, kP157, kR157_0, kR157_1, kL158, kA158, kS158, kL159, kA159, kS159, kC161, kG161, kP161, kR161_0, kR161_1, kL162, kA162, kS162, kL163, kA163, kS163, kC165, kG165, kP165, kR165_0, kR165_1, kR165_2, kR165_3, kL166, kA166, kS166, kL167, kA167, kS167, kL168, kA168, kS168, kL169, kA169, kS169, kC170, kG170, kP170, kR170_0, kR170_1, kR170_2, kL171, kA171, kS171, kL172, kA172, kS172, kL173, kA173, kS173, kC174, kG174, kP174, kR174_0, kR174_1, kR174_2, kR174_3, kR174_4, kL175, kA175, kS175, kL176, kA176, kS176, kL177, kA177, kS177, kL178, kA178, kS178, kL179, kC180, kG180, kP180, kL181, kL182, kA182, kS182, kC183, kG183, kP183, kR183_1, kR183_3, kR183_5, kR183_6, kR183_7, kR183_8, kR183_9, kR183_21, kR183_26, kR183_27, kR183_30, kR183_31, kR183_33, kR183_34, kR183_36, kR183_37, kR183_38, kR183_39, kR183_40, kR183_41, kR183_42, kR183_43, kR183_44, kL184, kA184, kS184, kL185, kA185, kS185, kL186, kA186, kS186, kL187, kA187, kS187, kL188, kA188, kS188, kL189, kL190, kL191, kA191, kS191, kL192, kA192, kS192, kL193, kA193, kS193, kL194, kA194, kS194, kL195, kA195, kS195, kL196, kA196, kS196, kL197, kA197, kS197, kL198, kA198, kS198, kL199, kA199, kS199, kL200, kA200, kS200, kL201, kL202, kA202, kS202, kL203, kA203, kS203, kL204, kA204, kS204, kL205, kL206, kA206, kS206, s2, sm2, h10]
      rfl
