section
theorem LV_glass {g : GD} {gT gP : GH} {st : Nat} {I I' : Nat → Nat → Int32} (hg : g ∈ gAll) (H : LV g gT gP st I 16 (I 191)) (h0 : ∀ k, k < 6 → I' 16 k = I 16 k) (h6 : I' 16 6 = nI (st + 1)) (h7 : I' 16 7 = nI (st + 1))
    (hJ : ∀ t, t < 32 → I' 17 t = if (gTo g t).isSome then I' 191 t else I 17 t) (hF : ∀ i, i < 16 → I' 18 i = I 18 i) (hb : ∀ t, t < 32 → -3 ≤ (I' 191 t).toInt ∧ (I' 191 t).toInt ≤ 3)
    (hr : ∀ k, 32 ≤ k → I' 191 k = I 191 k) : LV g (gUp gT (st + 1) g (I' 191)) (gUp gP (st + 1) g (I' 191)) (st + 1) I' 16 (I' 191) := by
  have h16 := (gAll_b g hg).2.2.1
  obtain ⟨⟨e1, e2, ⟨p, u, e3, e4, e5, e6⟩, e7, e8⟩, ⟨o1, o2, ⟨b0, o3, o4, o5⟩, o6⟩, -⟩ := H
  refine ⟨⟨fun t ht => ?_, fun i hi => by rw [hF i hi, hr _ (by omega)]; exact e2 i hi, ⟨p, u, by rw [h0 _ (by omega)]; exact e3, by rw [h0 _ (by omega)]; exact e4, fun i => ?_, fun i => ?_⟩, by rw [h0 _ (by omega), hr _ (by omega)]; exact e7, by rw [h0 _ (by omega), hr _ (by omega)]; exact e8⟩, ⟨fun k hk => ?_, fun i hi => by rw [hr _ (by omega)]; exact o2 i hi, ⟨b0, o3, by rw [hr _ (by omega)]; exact o4, fun i hi => by rw [hr _ (by omega)]; exact o5 i hi⟩, by rw [hr _ (by omega)]; exact o6⟩, st + 1, st + 1, Nat.le_refl _, Nat.le_refl _, h6, h7, by rw [gUp_new], fun k _ => by rw [gUp_new], by rw [gUp_new], fun k _ => by rw [gUp_new]⟩
  · rw [hJ t ht]
    by_cases h2 : (gTo g t).isSome
    · simp [h2]
    · have := e1 t ht
      rw [if_neg h2] at this
      simp only [h2, if_false, Bool.false_eq_true]
      exact this
  · rw [e5, hr _ (by omega)]
  · rw [e6, hr _ (by omega)]
  · by_cases h32 : k < 32
    · exact hb k h32
    · rw [hr _ (by omega)]; exact o1 k hk
theorem in_9999 (x : Int32) : f_X12_in x 0 9999 = some (if x < 0 ∨ 9999 < x then 0 else 1) := by
  unfold f_X12_in
  by_cases h1 : x < 0
  · simp [h1]
  · by_cases h2 : (9999 : Int32) < x
    · simp [h1, h2]
    · simp [h1, h2]
theorem gLv_b (g : GD) (x t : Nat) : -3 ≤ (gLv g x t).toInt ∧ (gLv g x t).toInt ≤ 3 := by
  unfold gLv
  split
  · decide
  · decide
theorem op_glass : Op_glass INV := by
  intro n σ hn ⟨g, gT, gP, st, H⟩ x
  have hS := H.shp
  have hG := H.grd
  have h16 := (gAll_b g hG.1).2.2.1
  by_cases hx0 : x < 0
  · refine ⟨0, σ, σ, ?_, ?_, g, gT, gP, st, H.nop⟩
    · unfold f_X11_glass; rw [if_pos hx0]
    · unfold f_X12_glass; rw [in_9999, if_pos (.inl hx0)]; rfl
  by_cases hx9 : (9999 : Int32) < x
  · refine ⟨0, σ, σ, ?_, ?_, g, gT, gP, st, H.nop⟩
    · unfold f_X11_glass; rw [if_neg hx0, if_pos hx9]
    · unfold f_X12_glass; rw [in_9999, if_pos (.inr hx9)]; rfl
  have hin : ¬ (x < 0 ∨ 9999 < x) := fun z => z.elim hx0 hx9
  obtain ⟨s, hs, rfl⟩ := nn_of hx0
  by_cases h0 : gSz g = 0
  · refine ⟨0, σ, σ, ?_, ?_, g, gT, gP, st, H.nop⟩
    · show f_X11_glass (xw σ (xI σ)) 1 (nI s) = _
      unfold f_X11_glass
      simp (disch := first | assumption | omega) only [Option.bind_some, Option.map_some, xw_gR, xw_gN, xw_al, xw_ck, xw_uI, xw_ur, xup_at, xur_at, if_true, if_false, reduceIte, and_true, true_and, and_false, false_and, not_true_eq_false, not_false_eq_true, Nat.reduceEqDiff, eq_self, Nat.reduceAdd, Nat.reduceMul, kC1, kG1, kP1, kR1_0, kR1_1, kR1_2, kR1_3, kR1_4, kR1_5, kR1_6, kR1_7, kR1_8, kR1_9, kR1_10, kR1_11, kR1_12, kR1_13, kC2, kG2, kP2, kR2_0, kR2_1, kC3, kG3, kP3, kR3_0, kR3_1, kR3_2, kR3_3, kL4, kA4, kS4, kL5, kA5, kS5, kL6, kA6, kS6, kL7, kA7, kS7, kC8, kG8, kP8, kR8_0, kR8_1, kL9, kA9, kS9, kL10, kA10, kS10, kC11, kG11, kP11, kR11_0, kR11_1, kR11_2, kR11_3, kL12, kA12, kS12, kL13, kA13, kS13, kL14, kA14, kS14, kL15, kA15, kS15, kC16, kG16, kP16, kR16_0, kR16_1, kL17, kA17, kS17, kL18, kA18, kS18, kC19, kG19, kP19, kR19_0, kL20, kL141, kL146, kA146, kS146, kL151, kA151, kS151, kL156, kA156, kS156, kC157, kG157, kP157, kR157_0, kR157_1, kL158, kA158, kS158, kL159, kA159, kS159, kC161, kG161, kP161, kR161_0, kR161_1, kL162, kA162, kS162, kL163, kA163, kS163, kC165, kG165, kP165, kR165_0, kR165_1, kR165_2, kR165_3, kL166, kA166, kS166, kL167, kA167, kS167, kL168, kA168, kS168, kL169, kA169, kS169, kC170, kG170, kP170, kR170_0, kR170_1, kR170_2, kL171, kA171, kS171, kL172, kA172, kS172, kL173, kA173, kS173, kC174, kG174, kP174, kR174_0, kR174_1, kR174_2, kR174_3, kR174_4, kL175, kA175, kS175, kL176, kA176, kS176, kL177, kA177, kS177, kL178, kA178, kS178, kL179, kC180, kG180, kP180, kL181, kL182, kA182, kS182, kC183, kG183, kP183, kR183_1, kR183_3, kR183_5, kR183_6, kR183_7, kR183_8, kR183_9, kR183_21, kR183_26, kR183_27, kR183_30, kR183_31, kR183_33, kR183_34, kR183_36, kR183_37, kR183_38, kR183_39, kR183_40, kR183_41, kR183_42, kR183_43, kR183_44, kL184, kA184, kS184, kL185, kA185, kS185, kL186, kA186, kS186, kL187, kA187, kS187, kL188, kA188, kS188, kL189, kL190, kL191, kA191, kS191, kL192, kA192, kS192, kL193, kA193, kS193, kL194, kA194, kS194, kL195, kA195, kS195, kL196, kA196, kS196, kL197, kA197, kS197, kL198, kA198, kS198, kL199, kA199, kS199, kL200, kA200, kS200, kL201, kL202, kA202, kS202, kL203, kA203, kS203, kL204, kA204, kS204, kL205, kL206, kA206, kS206, hx0, hx9, hG.2.2.2.2.1, h0, show (nI 0 = 0) = True from eq_true rfl]
      rfl
    · show f_X12_glass (xw σ (xI σ)) 183 (nI s) = _
      unfold f_X12_glass
      simp (disch := first | assumption | omega) only [Option.bind_some, Option.map_some, xw_gR, xw_gN, xw_al, xw_ck, xw_uI, xw_ur, xup_at, xur_at, if_true, if_false, reduceIte, and_true, true_and, and_false, false_and, not_true_eq_false, not_false_eq_true, Nat.reduceEqDiff, eq_self, Nat.reduceAdd, Nat.reduceMul, kC1, kG1, kP1, kR1_0, kR1_1, kR1_2, kR1_3, kR1_4, kR1_5, kR1_6, kR1_7, kR1_8, kR1_9, kR1_10, kR1_11, kR1_12, kR1_13, kC2, kG2, kP2, kR2_0, kR2_1, kC3, kG3, kP3, kR3_0, kR3_1, kR3_2, kR3_3, kL4, kA4, kS4, kL5, kA5, kS5, kL6, kA6, kS6, kL7, kA7, kS7, kC8, kG8, kP8, kR8_0, kR8_1, kL9, kA9, kS9, kL10, kA10, kS10, kC11, kG11, kP11, kR11_0, kR11_1, kR11_2, kR11_3, kL12, kA12, kS12, kL13, kA13, kS13, kL14, kA14, kS14, kL15, kA15, kS15, kC16, kG16, kP16, kR16_0, kR16_1, kL17, kA17, kS17, kL18, kA18, kS18, kC19, kG19, kP19, kR19_0, kL20, kL141, kL146, kA146, kS146, kL151, kA151, kS151, kL156, kA156, kS156, kC157, kG157, kP157, kR157_0, kR157_1, kL158, kA158, kS158, kL159, kA159, kS159, kC161, kG161, kP161, kR161_0, kR161_1, kL162, kA162, kS162, kL163, kA163, kS163, kC165, kG165, kP165, kR165_0, kR165_1, kR165_2, kR165_3, kL166, kA166, kS166, kL167, kA167, kS167, kL168, kA168, kS168, kL169, kA169, kS169, kC170, kG170, kP170, kR170_0, kR170_1, kR170_2, kL171, kA171, kS171, kL172, kA172, kS172, kL173, kA173, kS173, kC174, kG174, kP174, kR174_0, kR174_1, kR174_2, kR174_3, kR174_4, kL175, kA175, kS175, kL176, kA176, kS176, kL177, kA177, kS177, kL178, kA178, kS178, kL179, kC180, kG180, kP180, kL181, kL182, kA182, kS182, kC183, kG183, kP183, kR183_1, kR183_3, kR183_5, kR183_6, kR183_7, kR183_8, kR183_9, kR183_21, kR183_26, kR183_27, kR183_30, kR183_31, kR183_33, kR183_34, kR183_36, kR183_37, kR183_38, kR183_39, kR183_40, kR183_41, kR183_42, kR183_43, kR183_44, kL184, kA184, kS184, kL185, kA185, kS185, kL186, kA186, kS186, kL187, kA187, kS187, kL188, kA188, kS188, kL189, kL190, kL191, kA191, kS191, kL192, kA192, kS192, kL193, kA193, kS193, kL194, kA194, kS194, kL195, kA195, kS195, kL196, kA196, kS196, kL197, kA197, kS197, kL198, kA198, kS198, kL199, kA199, kS199, kL200, kA200, kS200, kL201, kL202, kA202, kS202, kL203, kA203, kS203, kL204, kA204, kS204, kL205, kL206, kA206, kS206, in_9999, hin, one0, sites_ok hS hG, h0, show (nI 0 = 0) = True from eq_true rfl]
      rfl
  have hn0 : (nI (gSz g) = 0) = False := eq_false (nI_ne0 (by omega) (by omega))
  obtain ⟨q, nx, ea, hq, hnx, hea, p1, p2, p3, p4, p8⟩ := H.pst
  have hG1 : GRD (kpI (xI σ) nx q) g := GRD_c (fun a k z => kpI_out (by unfold sGRD at z; omega) (by unfold sGRD at z; omega)) hG
  obtain ⟨J, hJ⟩ : ∃ J, J = xup (xup (xup (glI g s (kpI (xI σ) nx q) 17 32) 1 15 (nI (st + 1))) 16 6 (nI (st + 1))) 16 7 (nI (st + 1)) := ⟨_, rfl⟩
  have uJ : ∀ a k, ¬ ((16 ≤ a ∧ a ≤ 18) ∨ (a = 1 ∧ k = 15)) → J a k = kpI (xI σ) nx q a k := by
    intro a k h
    rw [hJ, xup_at, if_neg (by omega), xup_at, if_neg (by omega), xup_at, if_neg (by omega), glI_out (by omega)]
  have mo : ∀ a k, ¬ (a = 193 ∨ (a = 183 ∧ (k = 28 ∨ k = 29 ∨ k = 32)) ∨ a = 191) → xup (glI g s (mkI J ea q) 191 32) 183 32 0 a k = J a k := by
    intro a k h
    rw [xup_at, if_neg (by omega), glI_out (by omega), mkI_out (by omega) (by omega)]
  have hG2 : GRD J g := GRD_c (fun a k z => uJ a k (by unfold sGRD at z; omega)) hG1
  have hG3 : GRD (mkI J ea q) g := GRD_c (fun a k z => mkI_out (by unfold sGRD at z; omega) (by unfold sGRD at z; omega)) hG2
  refine ⟨1, xw σ J, xw σ (xup (glI g s (mkI J ea q) 191 32) 183 32 0), ?_, ?_, ?_⟩
  · show f_X11_glass (xw σ (xI σ)) 1 (nI s) = _
    unfold f_X11_glass
    simp (disch := first | assumption | omega) only [Option.bind_some, Option.map_some, xw_gR, xw_gN, xw_al, xw_ck, xw_uI, xw_ur, xup_at, xur_at, if_true, if_false, reduceIte, and_true, true_and, and_false, false_and, not_true_eq_false, not_false_eq_true, Nat.reduceEqDiff, eq_self, Nat.reduceAdd, Nat.reduceMul, kC1, kG1, kP1, kR1_0, kR1_1, kR1_2, kR1_3, kR1_4, kR1_5, kR1_6, kR1_7, kR1_8, kR1_9, kR1_10, kR1_11, kR1_12, kR1_13, kC2, kG2, kP2, kR2_0, kR2_1, kC3, kG3, kP3, kR3_0, kR3_1, kR3_2, kR3_3, kL4, kA4, kS4, kL5, kA5, kS5, kL6, kA6, kS6, kL7, kA7, kS7, kC8, kG8, kP8, kR8_0, kR8_1, kL9, kA9, kS9, kL10, kA10, kS10, kC11, kG11, kP11, kR11_0, kR11_1, kR11_2, kR11_3, kL12, kA12, kS12, kL13, kA13, kS13, kL14, kA14, kS14, kL15, kA15, kS15, kC16, kG16, kP16, kR16_0, kR16_1, kL17, kA17, kS17, kL18, kA18, kS18, kC19, kG19, kP19, kR19_0, kL20, kL141, kL146, kA146, kS146, kL151, kA151, kS151, kL156, kA156, kS156, kC157, kG157, kP157, kR157_0, kR157_1, kL158, kA158, kS158, kL159, kA159, kS159, kC161, kG161, kP161, kR161_0, kR161_1, kL162, kA162, kS162, kL163, kA163, kS163, kC165, kG165, kP165, kR165_0, kR165_1, kR165_2, kR165_3, kL166, kA166, kS166, kL167, kA167, kS167, kL168, kA168, kS168, kL169, kA169, kS169, kC170, kG170, kP170, kR170_0, kR170_1, kR170_2, kL171, kA171, kS171, kL172, kA172, kS172, kL173, kA173, kS173, kC174, kG174, kP174, kR174_0, kR174_1, kR174_2, kR174_3, kR174_4, kL175, kA175, kS175, kL176, kA176, kS176, kL177, kA177, kS177, kL178, kA178, kS178, kL179, kC180, kG180, kP180, kL181, kL182, kA182, kS182, kC183, kG183, kP183, kR183_1, kR183_3, kR183_5, kR183_6, kR183_7, kR183_8, kR183_9, kR183_21, kR183_26, kR183_27, kR183_30, kR183_31, kR183_33, kR183_34, kR183_36, kR183_37, kR183_38, kR183_39, kR183_40, kR183_41, kR183_42, kR183_43, kR183_44, kL184, kA184, kS184, kL185, kA185, kS185, kL186, kA186, kS186, kL187, kA187, kS187, kL188, kA188, kS188, kL189, kL190, kL191, kA191, kS191, kL192, kA192, kS192, kL193, kA193, kS193, kL194, kA194, kS194, kL195, kA195, kS195, kL196, kA196, kS196, kL197, kA197, kS197, kL198, kA198, kS198, kL199, kA199, kS199, kL200, kA200, kS200, kL201, kL202, kA202, kS202, kL203, kA203, kS203, kL204, kA204, kS204, kL205, kL206, kA206, kS206, hx0, hx9, hG.2.2.2.2.1, hn0, keep_ok hS hnx hq p1 p2, nI_i64]
    rw [glass11_l (st := st) hS hG1 hs (by rw [kpI_out (by omega) (by omega)]; exact H.sts), hJ]
  · unfold f_X12_glass
    have m1 : f_X12_marks (xw σ J) 183 = _ := marks_ok (ea := ea) (q := q) hS hea hq (by rw [uJ _ _ (by omega), kpI_out (by omega) (by omega)]; exact p3) (by rw [uJ _ _ (by omega), kpI_out (by omega) (by omega)]; exact p4)
    simp (disch := first | assumption | omega) only [Option.bind_some, Option.map_some, xw_gR, xw_gN, xw_al, xw_ck, xw_uI, xw_ur, xup_at, xur_at, if_true, if_false, reduceIte, and_true, true_and, and_false, false_and, not_true_eq_false, not_false_eq_true, Nat.reduceEqDiff, eq_self, Nat.reduceAdd, Nat.reduceMul, kC1, kG1, kP1, kR1_0, kR1_1, kR1_2, kR1_3, kR1_4, kR1_5, kR1_6, kR1_7, kR1_8, kR1_9, kR1_10, kR1_11, kR1_12, kR1_13, kC2, kG2, kP2, kR2_0, kR2_1, kC3, kG3, kP3, kR3_0, kR3_1, kR3_2, kR3_3, kL4, kA4, kS4, kL5, kA5, kS5, kL6, kA6, kS6, kL7, kA7, kS7, kC8, kG8, kP8, kR8_0, kR8_1, kL9, kA9, kS9, kL10, kA10, kS10, kC11, kG11, kP11, kR11_0, kR11_1, kR11_2, kR11_3, kL12, kA12, kS12, kL13, kA13, kS13, kL14, kA14, kS14, kL15, kA15, kS15, kC16, kG16, kP16, kR16_0, kR16_1, kL17, kA17, kS17, kL18, kA18, kS18, kC19, kG19, kP19, kR19_0, kL20, kL141, kL146, kA146, kS146, kL151, kA151, kS151, kL156, kA156, kS156, kC157, kG157, kP157, kR157_0, kR157_1, kL158, kA158, kS158, kL159, kA159, kS159, kC161, kG161, kP161, kR161_0, kR161_1, kL162, kA162, kS162, kL163, kA163, kS163, kC165, kG165, kP165, kR165_0, kR165_1, kR165_2, kR165_3, kL166, kA166, kS166, kL167, kA167, kS167, kL168, kA168, kS168, kL169, kA169, kS169, kC170, kG170, kP170, kR170_0, kR170_1, kR170_2, kL171, kA171, kS171, kL172, kA172, kS172, kL173, kA173, kS173, kC174, kG174, kP174, kR174_0, kR174_1, kR174_2, kR174_3, kR174_4, kL175, kA175, kS175, kL176, kA176, kS176, kL177, kA177, kS177, kL178, kA178, kS178, kL179, kC180, kG180, kP180, kL181, kL182, kA182, kS182, kC183, kG183, kP183, kR183_1, kR183_3, kR183_5, kR183_6, kR183_7, kR183_8, kR183_9, kR183_21, kR183_26, kR183_27, kR183_30, kR183_31, kR183_33, kR183_34, kR183_36, kR183_37, kR183_38, kR183_39, kR183_40, kR183_41, kR183_42, kR183_43, kR183_44, kL184, kA184, kS184, kL185, kA185, kS185, kL186, kA186, kS186, kL187, kA187, kS187, kL188, kA188, kS188, kL189, kL190, kL191, kA191, kS191, kL192, kA192, kS192, kL193, kA193, kS193, kL194, kA194, kS194, kL195, kA195, kS195, kL196, kA196, kS196, kL197, kA197, kS197, kL198, kA198, kS198, kL199, kA199, kS199, kL200, kA200, kS200, kL201, kL202, kA202, kS202, kL203, kA203, kS203, kL204, kA204, kS204, kL205, kL206, kA206, kS206, in_9999, hin, one0, sites_ok hS hG2, hn0, m1, nI_i64]
    exact glass12_l hS hG3 (by omega) hs
  · have r191 : ∀ k, xup (glI g s (mkI J ea q) 191 32) 183 32 0 191 k = if k < 32 ∧ gTo g k ≠ none then gLv g s k else xI σ 191 k := by
      intro k
      rw [xup_at, if_neg (by omega)]
      unfold glI
      simp only [true_and]
      split
      · rfl
      · rw [mkI_out (by omega) (by omega), uJ _ _ (by omega), kpI_out (by omega) (by omega)]
    refine INV_i (H.hand hq hnx hea p3 p8 (I2 := J) uJ ?_ (Nat.le_succ _) (Nat.succ_le_succ H.stn) (fun t ht => gUp_old (by omega)) (fun t ht => gUp_old (by omega)) ?_ (LV_glass (I := xI σ) hG.1 H.now ?_ ?_ ?_ ?_ ?_ ?_ ?_) (.inl ?_))
    · intro a k h; rw [xup_at, if_neg (by omega), glI_out (by omega)]
    · rw [mo _ _ (by omega), hJ, xup_at, if_neg (by omega), xup_at, if_neg (by omega), xup_at, if_pos ⟨rfl, rfl⟩]
    · intro k hk
      rw [mo _ _ (by omega), hJ, xup_at, if_neg (by omega), xup_at, if_neg (by omega), xup_at, if_neg (by omega), glI_out (by omega), kpI_out (by omega) (by omega)]
    · rw [mo _ _ (by omega), hJ, xup_at, if_neg (by omega), xup_at, if_pos ⟨rfl, rfl⟩]
    · rw [mo _ _ (by omega), hJ, xup_at, if_pos ⟨rfl, rfl⟩]
    · intro t ht
      rw [mo _ _ (by omega), r191, hJ, xup_at, if_neg (by omega), xup_at, if_neg (by omega), xup_at, if_neg (by omega)]
      unfold glI
      cases he : gTo g t with
      | none =>
        simp
        exact kpI_out (by omega) (by omega)
      | some e => simp [ht]
    · intro k hk
      rw [mo _ _ (by omega), hJ, xup_at, if_neg (by omega), xup_at, if_neg (by omega), xup_at, if_neg (by omega), glI_out (by omega), kpI_out (by omega) (by omega)]
    · intro t ht
      rw [r191]
      split
      · exact gLv_b _ _ _
      · exact H.now.2.1.1 t (by omega)
    · intro k hk
      rw [r191, if_neg (by omega)]
    · rw [xup_at, if_pos ⟨rfl, rfl⟩]
end
section
/-! the model's energy of a state -/
theorem bI_eq (a b : Bool) : (nI (if a then 1 else 0) = nI (if b then 1 else 0)) = (a = b) := by cases a <;> cases b <;> decide
theorem bI_1 (a : Bool) : (nI (if a then 1 else 0) = 1) = (a = true) := by cases a <;> decide
theorem bI_0 (a : Bool) : (nI (if a then 1 else 0) = 0) = (a = false) := by cases a <;> decide
theorem gRow1 : ∀ g ∈ gAll, ∀ r, r < 17 → r ≤ g.2.1 → ∀ i, i < 16 → i < g.1 * r → (gTo g i).all (fun e => decide (e < g.1 * r)) = true := by decide +kernel
theorem gRow2 : ∀ g ∈ gAll, ∀ r, r < 17 → r ≤ g.2.1 → ∀ i, i < 16 → i < g.1 * r → (gTo g (i + 16)).all (fun e => decide ((if e ≤ i then r = g.2.1 else e < g.1 * r) ↔ e < g.1 * r)) = true := by decide +kernel
theorem gRow3 : ∀ g ∈ gAll, ∀ r, r < 17 → r ≤ g.2.1 → g.1 * r ≤ gSz g := by decide +kernel
theorem fb_si_z {f : Nat → Int} {k n : Nat} (hk : k ≤ n) (h : ∀ i, k ≤ i → i < n → f i = 0) : fb_si f n = fb_si f k := by
  have := fb_si_split f k (n - k)
  rw [show k + (n - k) = n by omega] at this
  rw [this]
  have z : fb_si (fun i => f (k + i)) (n - k) = fb_si (fun _ => 0) (n - k) := fb_si_cong (fun i hi => h (k + i) (by omega) (by omega))
  have z2 : ∀ m, fb_si (fun _ => 0) m = 0 := by
    intro m
    induction m with
    | zero => rfl
    | succ m ih => rw [fb_si_succ, ih]; rfl
  rw [z, z2]; omega
/-- a site's part of the energy of the first k sites -/
def eS (g : GD) (F : Nat → Int) (k s i : Nat) : Int := eH F s i + (if gIn g k i then eT g F s i else 0) + (if gIn g k (i + 16) then eT g F s (i + 16) else 0)
theorem eS_sum {g : GD} {F : Nat → Int} {k s : Nat} (hk : k ≤ 16) : fb_si (eS g F k s) k = eP g F k s := by
  have hin : ∀ t, t < 32 → k ≤ gFr t → gIn g k t = false := by
    intro t ht h
    unfold gIn
    split
    · rfl
    · have : ¬ gFr t < k := by omega
      simp [this]
  have h1 : fb_si (fun t => if gIn g k t then eT g F s t else 0) 32 = fb_si (fun i => if gIn g k i then eT g F s i else 0) k + fb_si (fun i => if gIn g k (i + 16) then eT g F s (i + 16) else 0) k := by
    rw [show (32 : Nat) = 16 + 16 from rfl, fb_si_split]
    congr 1
    · refine fb_si_z hk (fun i h1 h2 => ?_)
      rw [hin i (by omega) (by unfold gFr; rw [if_pos h2]; exact h1)]
      rfl
    · have e : fb_si (fun i => if gIn g k (16 + i) then eT g F s (16 + i) else 0) 16 = fb_si (fun i => if gIn g k (i + 16) then eT g F s (i + 16) else 0) 16 := fb_si_cong (fun i _ => by rw [Nat.add_comm])
      rw [e]
      refine fb_si_z hk (fun i h1 h2 => ?_)
      rw [hin (i + 16) (by omega) (by unfold gFr; rw [if_neg (by omega)]; omega)]
      rfl
  unfold eP
  rw [h1]
  have e : eS g F k s = fun i => (fun i => (fun i => eH F s i) i + (fun i => if gIn g k i then eT g F s i else 0) i) i + (fun i => if gIn g k (i + 16) then eT g F s (i + 16) else 0) i := rfl
  rw [e, fb_si_add, fb_si_add]
  have e2 : fb_si (fun i => eH F s i) k = fb_si (eH F s) k := rfl
  omega
section MENERGY
variable {σ : XS} {I : Nat → Nat → Int32} {g : GD} {a : Nat}
theorem en143 (hS : Shp σ) (hG : GRD I g) (ha : σ.1 a = (20, 66)) {s r i e : Nat} (z : Int) (hs : s < 2147483648) (hi : i < gSz g) (he : gTo g (i + 16) = some e) :
    f_X12_energy_j143 (xw σ I) 183 a (nI s) (nI r) (iI z) (nI i) (nI (if s.testBit i then 1 else 0)) (nI e) = some (.inl (iI (z + eT g (zR (I a)) s (i + 16)), nI (i + 1))) := by
  have h16 := (gAll_b g hG.1).2.2.1
  have heb := gTo_b g hG.1 (i + 16) (by omega) e he
  unfold f_X12_energy_j143
  have hf : gFr (i + 16) = i := by unfold gFr; rw [if_neg (by omega)]; omega
  have hv : I a (i + 16) = iI (zR (I a) (i + 16)) := iI_of _
  rw [nn_bit hs (by omega), show (16 : Int32) = nI 16 from rfl, nn_add, xw_aI ha (by omega) (by decide), Option.bind_some, Option.bind_some, show (1 : Int32) = nI 1 from rfl, nn_add, Nat.add_comm 16 i, hv, iI_neg, iI_add, iI_add]
  unfold eT
  rw [he, hf]
  simp only [bI_eq]
  by_cases h : s.testBit e = s.testBit i
  · rw [if_pos h, if_pos h.symm]
  · rw [if_neg h, if_neg (fun q => h q.symm)]
theorem en100 (hS : Shp σ) (hG : GRD I g) (ha : σ.1 a = (20, 66)) {s r i : Nat} (z : Int) (hs : s < 2147483648) (hr : r ≤ g.2.1) (hi : i < g.1 * r) :
    f_X12_energy_j100 (xw σ I) 183 a (nI s) (nI r) (iI z) (nI i) (nI (if s.testBit i then 1 else 0)) = some (.inl (iI (z + if gIn g (g.1 * r) (i + 16) then eT g (zR (I a)) s (i + 16) else 0), nI (i + 1))) := by
  have hb := gAll_b g hG.1
  have hk := gRow3 g hG.1 r (by omega) hr
  have hi2 : i < gSz g := by omega
  unfold f_X12_energy_j100
  have ht := tieTo_ok (b := 1) hS hG (by decide) hi2
  rw [show nI 1 = (1 : Int32) from rfl, Nat.mul_one] at ht
  simp (disch := first | assumption | omega) only [Option.bind_some, Option.map_some, xw_gR, xw_gN, xw_al, xw_ck, xw_uI, xw_ur, xup_at, xur_at, if_true, if_false, reduceIte, and_true, true_and, and_false, false_and, not_true_eq_false, not_false_eq_true, Nat.reduceEqDiff, eq_self, Nat.reduceAdd, Nat.reduceMul, kC1, kG1, kP1, kR1_0, kR1_1, kR1_2, kR1_3, kR1_4, kR1_5, kR1_6, kR1_7, kR1_8, kR1_9, kR1_10, kR1_11, kR1_12, kR1_13, kC2, kG2, kP2, kR2_0, kR2_1, kC3, kG3, kP3, kR3_0, kR3_1, kR3_2, kR3_3, kL4, kA4, kS4, kL5, kA5, kS5, kL6, kA6, kS6, kL7, kA7, kS7, kC8, kG8, kP8, kR8_0, kR8_1, kL9, kA9, kS9, kL10, kA10, kS10, kC11, kG11, kP11, kR11_0, kR11_1, kR11_2, kR11_3, kL12, kA12, kS12, kL13, kA13, kS13, kL14, kA14, kS14, kL15, kA15, kS15, kC16, kG16, kP16, kR16_0, kR16_1, kL17, kA17, kS17, kL18, kA18, kS18, kC19, kG19, kP19, kR19_0, kL20, kL141, kL146, kA146, kS146, kL151, kA151, kS151, kL156, kA156, kS156, kC157, kG157, kP157, kR157_0, kR157_1, kL158, kA158, kS158, kL159, kA159, kS159, kC161, kG161, kP161, kR161_0, kR161_1, kL162, kA162, kS162, kL163, kA163, kS163, kC165, kG165, kP165, kR165_0, kR165_1, kR165_2, kR165_3, kL166, kA166, kS166, kL167, kA167, kS167, kL168, kA168, kS168, kL169, kA169, kS169, kC170, kG170, kP170, kR170_0, kR170_1, kR170_2, kL171, kA171, kS171, kL172, kA172, kS172, kL173, kA173, kS173, kC174, kG174, kP174, kR174_0, kR174_1, kR174_2, kR174_3, kR174_4, kL175, kA175, kS175, kL176, kA176, kS176, kL177, kA177, kS177, kL178, kA178, kS178, kL179, kC180, kG180, kP180, kL181, kL182, kA182, kS182, kC183, kG183, kP183, kR183_1, kR183_3, kR183_5, kR183_6, kR183_7, kR183_8, kR183_9, kR183_21, kR183_26, kR183_27, kR183_30, kR183_31, kR183_33, kR183_34, kR183_36, kR183_37, kR183_38, kR183_39, kR183_40, kR183_41, kR183_42, kR183_43, kR183_44, kL184, kA184, kS184, kL185, kA185, kS185, kL186, kA186, kS186, kL187, kA187, kS187, kL188, kA188, kS188, kL189, kL190, kL191, kA191, kS191, kL192, kA192, kS192, kL193, kA193, kS193, kL194, kA194, kS194, kL195, kA195, kS195, kL196, kA196, kS196, kL197, kA197, kS197, kL198, kA198, kS198, kL199, kA199, kS199, kL200, kA200, kS200, kL201, kL202, kA202, kS202, kL203, kA203, kS203, kL204, kA204, kS204, kL205, kL206, kA206, kS206, ht]
  cases he : gTo g (i + 16) with
  | none =>
    have e1 : oI none < 0 := by decide
    have e2 : gIn g (g.1 * r) (i + 16) = false := by unfold gIn; rw [he]
    rw [if_pos e1, e2, show (1 : Int32) = nI 1 from rfl, nn_add]
    simp
  | some e =>
    have heb := gTo_b g hG.1 (i + 16) (by omega) e he
    have hf : gFr (i + 16) = i := by unfold gFr; rw [if_neg (by omega)]; omega
    have q := gRow2 g hG.1 r (by omega) hr i (by omega) hi
    rw [he] at q
    have q := of_decide_eq_true q
    have e2 : gIn g (g.1 * r) (i + 16) = decide (e < g.1 * r) := by
      unfold gIn
      rw [he, hf]
      simp [hi]
    have e3 : ¬ oI (some e) < 0 := nI_pos (by omega)
    rw [if_neg e3, e2]
    simp (disch := first | assumption | omega) only [Option.bind_some, Option.map_some, xw_gR, xw_gN, xw_al, xw_ck, xw_uI, xw_ur, xup_at, xur_at, if_true, if_false, reduceIte, and_true, true_and, and_false, false_and, not_true_eq_false, not_false_eq_true, Nat.reduceEqDiff, eq_self, Nat.reduceAdd, Nat.reduceMul, kC1, kG1, kP1, kR1_0, kR1_1, kR1_2, kR1_3, kR1_4, kR1_5, kR1_6, kR1_7, kR1_8, kR1_9, kR1_10, kR1_11, kR1_12, kR1_13, kC2, kG2, kP2, kR2_0, kR2_1, kC3, kG3, kP3, kR3_0, kR3_1, kR3_2, kR3_3, kL4, kA4, kS4, kL5, kA5, kS5, kL6, kA6, kS6, kL7, kA7, kS7, kC8, kG8, kP8, kR8_0, kR8_1, kL9, kA9, kS9, kL10, kA10, kS10, kC11, kG11, kP11, kR11_0, kR11_1, kR11_2, kR11_3, kL12, kA12, kS12, kL13, kA13, kS13, kL14, kA14, kS14, kL15, kA15, kS15, kC16, kG16, kP16, kR16_0, kR16_1, kL17, kA17, kS17, kL18, kA18, kS18, kC19, kG19, kP19, kR19_0, kL20, kL141, kL146, kA146, kS146, kL151, kA151, kS151, kL156, kA156, kS156, kC157, kG157, kP157, kR157_0, kR157_1, kL158, kA158, kS158, kL159, kA159, kS159, kC161, kG161, kP161, kR161_0, kR161_1, kL162, kA162, kS162, kL163, kA163, kS163, kC165, kG165, kP165, kR165_0, kR165_1, kR165_2, kR165_3, kL166, kA166, kS166, kL167, kA167, kS167, kL168, kA168, kS168, kL169, kA169, kS169, kC170, kG170, kP170, kR170_0, kR170_1, kR170_2, kL171, kA171, kS171, kL172, kA172, kS172, kL173, kA173, kS173, kC174, kG174, kP174, kR174_0, kR174_1, kR174_2, kR174_3, kR174_4, kL175, kA175, kS175, kL176, kA176, kS176, kL177, kA177, kS177, kL178, kA178, kS178, kL179, kC180, kG180, kP180, kL181, kL182, kA182, kS182, kC183, kG183, kP183, kR183_1, kR183_3, kR183_5, kR183_6, kR183_7, kR183_8, kR183_9, kR183_21, kR183_26, kR183_27, kR183_30, kR183_31, kR183_33, kR183_34, kR183_36, kR183_37, kR183_38, kR183_39, kR183_40, kR183_41, kR183_42, kR183_43, kR183_44, kL184, kA184, kS184, kL185, kA185, kS185, kL186, kA186, kS186, kL187, kA187, kS187, kL188, kA188, kS188, kL189, kL190, kL191, kA191, kS191, kL192, kA192, kS192, kL193, kA193, kS193, kL194, kA194, kS194, kL195, kA195, kS195, kL196, kA196, kS196, kL197, kA197, kS197, kL198, kA198, kS198, kL199, kA199, kS199, kL200, kA200, kS200, kL201, kL202, kA202, kS202, kL203, kA203, kS203, kL204, kA204, kS204, kL205, kL206, kA206, kS206, oI, nn_le, hG.2.2.2.2.2.2.2.2.1, hG.2.2.2.2.2.2.2.2.2.1, nn_mul, nn_eq]
    by_cases h1 : e ≤ i
    · rw [if_pos h1] at q ⊢
      by_cases h2 : r = g.2.1
      · have h3 := q.mp h2
        rw [if_pos h2, en143 hS hG ha z hs hi2 he]
        simp [h3]
      · have h3 : ¬ e < g.1 * r := fun w => h2 (q.mpr w)
        rw [if_neg h2, show (1 : Int32) = nI 1 from rfl, nn_add]
        simp [h3]
    · rw [if_neg h1]
      by_cases h2 : g.1 * r ≤ e
      · have h3 : ¬ e < g.1 * r := by omega
        rw [if_pos h2, show (1 : Int32) = nI 1 from rfl, nn_add]
        simp [h3]
      · have h3 : e < g.1 * r := by omega
        rw [if_neg h2, en143 hS hG ha z hs hi2 he]
        simp [h3]
theorem en51 (hS : Shp σ) (hG : GRD I g) (ha : σ.1 a = (20, 66)) {s r i : Nat} (z y : Int) (hs : s < 2147483648) (hr : r ≤ g.2.1) (hi : i < g.1 * r) :
    f_X12_energy_j51 (xw σ I) 183 a (nI s) (nI r) (nI i) (nI (if s.testBit i then 1 else 0)) (iI z) (iI y) = some (.inl (iI (z + y + (if gIn g (g.1 * r) i then eT g (zR (I a)) s i else 0) + if gIn g (g.1 * r) (i + 16) then eT g (zR (I a)) s (i + 16) else 0), nI (i + 1))) := by
  have hb := gAll_b g hG.1
  have hk := gRow3 g hG.1 r (by omega) hr
  have hi2 : i < gSz g := by omega
  unfold f_X12_energy_j51
  have ht := tieTo_ok (b := 0) hS hG (by decide) hi2
  rw [show nI 0 = (0 : Int32) from rfl, Nat.mul_zero, Nat.add_zero] at ht
  simp (disch := first | assumption | omega) only [Option.bind_some, Option.map_some, xw_gR, xw_gN, xw_al, xw_ck, xw_uI, xw_ur, xup_at, xur_at, if_true, if_false, reduceIte, and_true, true_and, and_false, false_and, not_true_eq_false, not_false_eq_true, Nat.reduceEqDiff, eq_self, Nat.reduceAdd, Nat.reduceMul, kC1, kG1, kP1, kR1_0, kR1_1, kR1_2, kR1_3, kR1_4, kR1_5, kR1_6, kR1_7, kR1_8, kR1_9, kR1_10, kR1_11, kR1_12, kR1_13, kC2, kG2, kP2, kR2_0, kR2_1, kC3, kG3, kP3, kR3_0, kR3_1, kR3_2, kR3_3, kL4, kA4, kS4, kL5, kA5, kS5, kL6, kA6, kS6, kL7, kA7, kS7, kC8, kG8, kP8, kR8_0, kR8_1, kL9, kA9, kS9, kL10, kA10, kS10, kC11, kG11, kP11, kR11_0, kR11_1, kR11_2, kR11_3, kL12, kA12, kS12, kL13, kA13, kS13, kL14, kA14, kS14, kL15, kA15, kS15, kC16, kG16, kP16, kR16_0, kR16_1, kL17, kA17, kS17, kL18, kA18, kS18, kC19, kG19, kP19, kR19_0, kL20, kL141, kL146, kA146, kS146, kL151, kA151, kS151, kL156, kA156, kS156, kC157, kG157, kP157, kR157_0, kR157_1, kL158, kA158, kS158, kL159, kA159, kS159, kC161, kG161, kP161, kR161_0, kR161_1, kL162, kA162, kS162, kL163, kA163, kS163, kC165, kG165, kP165, kR165_0, kR165_1, kR165_2, kR165_3, kL166, kA166, kS166, kL167, kA167, kS167, kL168, kA168, kS168, kL169, kA169, kS169, kC170, kG170, kP170, kR170_0, kR170_1, kR170_2, kL171, kA171, kS171, kL172, kA172, kS172, kL173, kA173, kS173, kC174, kG174, kP174, kR174_0, kR174_1, kR174_2, kR174_3, kR174_4, kL175, kA175, kS175, kL176, kA176, kS176, kL177, kA177, kS177, kL178, kA178, kS178, kL179, kC180, kG180, kP180, kL181, kL182, kA182, kS182, kC183, kG183, kP183, kR183_1, kR183_3, kR183_5, kR183_6, kR183_7, kR183_8, kR183_9, kR183_21, kR183_26, kR183_27, kR183_30, kR183_31, kR183_33, kR183_34, kR183_36, kR183_37, kR183_38, kR183_39, kR183_40, kR183_41, kR183_42, kR183_43, kR183_44, kL184, kA184, kS184, kL185, kA185, kS185, kL186, kA186, kS186, kL187, kA187, kS187, kL188, kA188, kS188, kL189, kL190, kL191, kA191, kS191, kL192, kA192, kS192, kL193, kA193, kS193, kL194, kA194, kS194, kL195, kA195, kS195, kL196, kA196, kS196, kL197, kA197, kS197, kL198, kA198, kS198, kL199, kA199, kS199, kL200, kA200, kS200, kL201, kL202, kA202, kS202, kL203, kA203, kS203, kL204, kA204, kS204, kL205, kL206, kA206, kS206, ht]
  cases he : gTo g i with
  | none =>
    have e1 : oI none < 0 := by decide
    have e2 : gIn g (g.1 * r) i = false := by unfold gIn; rw [he]
    rw [if_pos e1, e2, iI_add, en100 hS hG ha _ hs hr hi]
    simp
  | some e =>
    have heb := gTo_b g hG.1 i (by omega) e he
    have hf : gFr i = i := by unfold gFr; rw [if_pos (by omega)]
    have q := gRow1 g hG.1 r (by omega) hr i (by omega) hi
    rw [he] at q
    have q : e < g.1 * r := of_decide_eq_true q
    have e2 : gIn g (g.1 * r) i = true := by
      unfold gIn
      rw [he, hf]
      simp [hi, q]
    have e3 : ¬ oI (some e) < 0 := nI_pos (by omega)
    have hv : I a i = iI (zR (I a) i) := iI_of _
    have e4 : eT g (zR (I a)) s i = if s.testBit e = s.testBit i then -zR (I a) i else zR (I a) i := by
      unfold eT
      rw [he, hf]
      dsimp only
      by_cases h : s.testBit e = s.testBit i
      · rw [if_pos h, if_pos h.symm]
      · rw [if_neg h, if_neg (fun q => h q.symm)]
    rw [if_neg e3, e2, e4]
    show (if nI s >>> (nI e &&& 31) &&& 1 = _ then _ else _) = _
    rw [nn_bit hs (by omega), show (0 : Int32) + nI i = nI i by rw [show (0 : Int32) = nI 0 from rfl, nn_add, Nat.zero_add], xw_aI ha (by omega) (by decide), Option.bind_some, Option.bind_some, hv, iI_neg, iI_add, iI_add, iI_add, en100 hS hG ha _ hs hr hi, en100 hS hG ha _ hs hr hi]
    simp only [bI_eq, if_true]
    by_cases h : s.testBit e = s.testBit i
    · rw [if_pos h, if_pos h]
    · rw [if_neg h, if_neg h]
theorem energy12_ok (hS : Shp σ) (hG : GRD I g) (ha : σ.1 a = (20, 66)) {s r : Nat} (hs : s < 2147483648) (hr : r ≤ g.2.1) : f_X12_energy (xw σ I) 183 a (nI s) (nI r) = some (iI (eP g (zR (I a)) (g.1 * r) s)) := by
  have hb := gAll_b g hG.1
  have hk := gRow3 g hG.1 r (by omega) hr
  unfold f_X12_energy
  rw [← eS_sum (by omega)]
  refine xforE (fun i : Nat => (iI (fb_si (eS g (zR (I a)) (g.1 * r) s) i), nI i)) (g.1 * r) rfl (fun i hi => ?_) ?_
  · simp only [f_X12_energy_b6]
    simp (disch := first | assumption | omega) only [Option.bind_some, Option.map_some, xw_gR, xw_gN, xw_al, xw_ck, xw_uI, xw_ur, xup_at, xur_at, if_true, if_false, reduceIte, and_true, true_and, and_false, false_and, not_true_eq_false, not_false_eq_true, Nat.reduceEqDiff, eq_self, Nat.reduceAdd, Nat.reduceMul, kC1, kG1, kP1, kR1_0, kR1_1, kR1_2, kR1_3, kR1_4, kR1_5, kR1_6, kR1_7, kR1_8, kR1_9, kR1_10, kR1_11, kR1_12, kR1_13, kC2, kG2, kP2, kR2_0, kR2_1, kC3, kG3, kP3, kR3_0, kR3_1, kR3_2, kR3_3, kL4, kA4, kS4, kL5, kA5, kS5, kL6, kA6, kS6, kL7, kA7, kS7, kC8, kG8, kP8, kR8_0, kR8_1, kL9, kA9, kS9, kL10, kA10, kS10, kC11, kG11, kP11, kR11_0, kR11_1, kR11_2, kR11_3, kL12, kA12, kS12, kL13, kA13, kS13, kL14, kA14, kS14, kL15, kA15, kS15, kC16, kG16, kP16, kR16_0, kR16_1, kL17, kA17, kS17, kL18, kA18, kS18, kC19, kG19, kP19, kR19_0, kL20, kL141, kL146, kA146, kS146, kL151, kA151, kS151, kL156, kA156, kS156, kC157, kG157, kP157, kR157_0, kR157_1, kL158, kA158, kS158, kL159, kA159, kS159, kC161, kG161, kP161, kR161_0, kR161_1, kL162, kA162, kS162, kL163, kA163, kS163, kC165, kG165, kP165, kR165_0, kR165_1, kR165_2, kR165_3, kL166, kA166, kS166, kL167, kA167, kS167, kL168, kA168, kS168, kL169, kA169, kS169, kC170, kG170, kP170, kR170_0, kR170_1, kR170_2, kL171, kA171, kS171, kL172, kA172, kS172, kL173, kA173, kS173, kC174, kG174, kP174, kR174_0, kR174_1, kR174_2, kR174_3, kR174_4, kL175, kA175, kS175, kL176, kA176, kS176, kL177, kA177, kS177, kL178, kA178, kS178, kL179, kC180, kG180, kP180, kL181, kL182, kA182, kS182, kC183, kG183, kP183, kR183_1, kR183_3, kR183_5, kR183_6, kR183_7, kR183_8, kR183_9, kR183_21, kR183_26, kR183_27, kR183_30, kR183_31, kR183_33, kR183_34, kR183_36, kR183_37, kR183_38, kR183_39, kR183_40, kR183_41, kR183_42, kR183_43, kR183_44, kL184, kA184, kS184, kL185, kA185, kS185, kL186, kA186, kS186, kL187, kA187, kS187, kL188, kA188, kS188, kL189, kL190, kL191, kA191, kS191, kL192, kA192, kS192, kL193, kA193, kS193, kL194, kA194, kS194, kL195, kA195, kS195, kL196, kA196, kS196, kL197, kA197, kS197, kL198, kA198, kS198, kL199, kA199, kS199, kL200, kA200, kS200, kL201, kL202, kA202, kS202, kL203, kA203, kS203, kL204, kA204, kS204, kL205, kL206, kA206, kS206, hG.2.2.2.2.2.2.2.2.1, nn_mul, nn_le, show ¬ (g.1 * r ≤ i) by omega]
    have hv : I a (32 + i) = iI (zR (I a) (32 + i)) := iI_of _
    rw [nn_bit hs (by omega), show (32 : Int32) = nI 32 from rfl, nn_add, xw_aI ha (by omega) (by decide), Option.bind_some, Option.bind_some, hv, iI_neg, en51 hS hG ha _ _ hs hr hi, en51 hS hG ha _ _ hs hr hi, fb_si_succ]
    simp only [bI_1]
    unfold eS eH
    by_cases h : s.testBit i = true
    · rw [if_pos h, if_pos h]
      congr 4; omega
    · rw [if_neg h, if_neg h]
      congr 4; omega
  · simp only [f_X12_energy_b6]
    simp (disch := first | assumption | omega) only [Option.bind_some, Option.map_some, xw_gR, xw_gN, xw_al, xw_ck, xw_uI, xw_ur, xup_at, xur_at, if_true, if_false, reduceIte, and_true, true_and, and_false, false_and, not_true_eq_false, not_false_eq_true, Nat.reduceEqDiff, eq_self, Nat.reduceAdd, Nat.reduceMul, kC1, kG1, kP1, kR1_0, kR1_1, kR1_2, kR1_3, kR1_4, kR1_5, kR1_6, kR1_7, kR1_8, kR1_9, kR1_10, kR1_11, kR1_12, kR1_13, kC2, kG2, kP2, kR2_0, kR2_1, kC3, kG3, kP3, kR3_0, kR3_1, kR3_2, kR3_3, kL4, kA4, kS4, kL5, kA5, kS5, kL6, kA6, kS6, kL7, kA7, kS7, kC8, kG8, kP8, kR8_0, kR8_1, kL9, kA9, kS9, kL10, kA10, kS10, kC11, kG11, kP11, kR11_0, kR11_1, kR11_2, kR11_3, kL12, kA12, kS12, kL13, kA13, kS13, kL14, kA14, kS14, kL15, kA15, kS15, kC16, kG16, kP16, kR16_0, kR16_1, kL17, kA17, kS17, kL18, kA18, kS18, kC19, kG19, kP19, kR19_0, kL20, kL141, kL146, kA146, kS146, kL151, kA151, kS151, kL156, kA156, kS156, kC157, kG157, kP157, kR157_0, kR157_1, kL158, kA158, kS158, kL159, kA159, kS159, kC161, kG161, kP161, kR161_0, kR161_1, kL162, kA162, kS162, kL163, kA163, kS163, kC165, kG165, kP165, kR165_0, kR165_1, kR165_2, kR165_3, kL166, kA166, kS166, kL167, kA167, kS167, kL168, kA168, kS168, kL169, kA169, kS169, kC170, kG170, kP170, kR170_0, kR170_1, kR170_2, kL171, kA171, kS171, kL172, kA172, kS172, kL173, kA173, kS173, kC174, kG174, kP174, kR174_0, kR174_1, kR174_2, kR174_3, kR174_4, kL175, kA175, kS175, kL176, kA176, kS176, kL177, kA177, kS177, kL178, kA178, kS178, kL179, kC180, kG180, kP180, kL181, kL182, kA182, kS182, kC183, kG183, kP183, kR183_1, kR183_3, kR183_5, kR183_6, kR183_7, kR183_8, kR183_9, kR183_21, kR183_26, kR183_27, kR183_30, kR183_31, kR183_33, kR183_34, kR183_36, kR183_37, kR183_38, kR183_39, kR183_40, kR183_41, kR183_42, kR183_43, kR183_44, kL184, kA184, kS184, kL185, kA185, kS185, kL186, kA186, kS186, kL187, kA187, kS187, kL188, kA188, kS188, kL189, kL190, kL191, kA191, kS191, kL192, kA192, kS192, kL193, kA193, kS193, kL194, kA194, kS194, kL195, kA195, kS195, kL196, kA196, kS196, kL197, kA197, kS197, kL198, kA198, kS198, kL199, kA199, kS199, kL200, kA200, kS200, kL201, kL202, kA202, kS202, kL203, kA203, kS203, kL204, kA204, kS204, kL205, kL206, kA206, kS206, hG.2.2.2.2.2.2.2.2.1, nn_mul, nn_le, Nat.le_refl]
end MENERGY
end
section
/-! the class's energy of a state, and what a turn costs -/
theorem lsum_get {α : Type} (f : α → Int) (d : α) : ∀ l : List α, fb_si (fun j => f (l.getD j d)) l.length = (l.map f).sum := by
  intro l
  induction l with
  | nil => rfl
  | cons x l ih =>
    rw [List.length_cons, Nat.add_comm, fb_si_split]
    have e : fb_si (fun k => f ((x :: l).getD (1 + k) d)) l.length = fb_si (fun j => f (l.getD j d)) l.length := fb_si_cong (fun k _ => by rw [Nat.add_comm 1 k]; rfl)
    rw [e, ih]
    simp [fb_si]
theorem lsum_flat {α : Type} (f : α → Int) (h : Nat → List α) : ∀ n, (((List.range n).flatMap h).map f).sum = fb_si (fun t => ((h t).map f).sum) n := by
  intro n
  induction n with
  | zero => rfl
  | succ n ih =>
    rw [List.range_succ, List.flatMap_append, List.map_append, List.sum_append, ih, fb_si_succ]
    simp
/-- how a site is pulled, what its turn costs -/
def ePl (g : GD) (F : Nat → Int) (s i : Nat) : Int := F (32 + i) + ((gMt g i).map (fun q => if s.testBit q.1 then F q.2 else -F q.2)).sum
def eC (g : GD) (F : Nat → Int) (s i : Nat) : Int := if s.testBit i then 2 * ePl g F s i else -2 * ePl g F s i
theorem eE_flip {g : GD} (hg : g ∈ gAll) (F : Nat → Int) {s i : Nat} (hi : i < gSz g) : eE g F (s ^^^ 2 ^ i) = eE g F s + eC g F s i := by
  have hb : ∀ j, (s ^^^ 2 ^ i).testBit j = (s.testBit j ^^ decide (j = i)) := fun j => fb_bit_flip s i j
  have h1 : fb_si (eH F (s ^^^ 2 ^ i)) (gSz g) = fb_si (eH F s) (gSz g) + (if s.testBit i then 2 * F (32 + i) else -2 * F (32 + i)) := by
    have e : fb_si (eH F (s ^^^ 2 ^ i)) (gSz g) = fb_si (fun k => if k = i then eH F (s ^^^ 2 ^ i) i else eH F s k) (gSz g) := fb_si_cong (fun k _ => by
      by_cases hk : k = i
      · rw [if_pos hk, hk]
      · rw [if_neg hk]
        unfold eH
        rw [hb k]
        simp [hk])
    rw [e, fb_si_upd _ _ hi]
    unfold eH
    rw [hb i]
    cases s.testBit i <;> simp <;> omega
  have h2 : fb_si (eT g F (s ^^^ 2 ^ i)) 32 = fb_si (eT g F s) 32 + (if s.testBit i then 2 * ((gMt g i).map (fun q => if s.testBit q.1 then F q.2 else -F q.2)).sum else -2 * ((gMt g i).map (fun q => if s.testBit q.1 then F q.2 else -F q.2)).sum) := by
    unfold gMt
    rw [lsum_flat]
    have e : fb_si (eT g F (s ^^^ 2 ^ i)) 32 = fb_si (fun t => eT g F s t + (if s.testBit i then (2 : Int) else -2) * (((match gTo g t with | none => [] | some e => if gFr t = i then [(e, t)] else if e = i then [(gFr t, t)] else []) : List (Nat × Nat)).map (fun q => if s.testBit q.1 then F q.2 else -F q.2)).sum) 32 := fb_si_cong (fun t ht => by
      unfold eT
      cases he : gTo g t with
      | none => simp
      | some e =>
        have hne := (gTo_b g hg t ht e he).2.2
        dsimp only
        rw [hb, hb]
        by_cases q1 : gFr t = i
        · have q2 : ¬ e = i := fun z => hne (q1.trans z.symm)
          rw [if_pos q1, q1]
          simp only [List.map_cons, List.map_nil, List.sum_cons, List.sum_nil]
          cases s.testBit i <;> cases s.testBit e <;> simp [q2] <;> omega
        · rw [if_neg q1]
          by_cases q2 : e = i
          · rw [if_pos q2, q2]
            simp only [List.map_cons, List.map_nil, List.sum_cons, List.sum_nil]
            cases s.testBit i <;> cases s.testBit (gFr t) <;> simp [q1] <;> omega
          · rw [if_neg q2]
            simp [q1, q2])
    rw [e, fb_si_add, fb_si_mul]
    cases s.testBit i
    · simp; rfl
    · simp; rfl
  unfold eE eC ePl
  rw [h1, h2]
  cases s.testBit i <;> simp <;> omega
section CENERGY
variable {σ : XS} {I : Nat → Nat → Int32} {g : GD} {a : Nat} {F : Nat → Int32}
theorem bitOf_ok {s i : Nat} (hs : s < 2147483648) (hi : i < 32) : f_X11_bitOf (nI s) (nI i) = some (nI (if s.testBit i then 1 else 0)) := by
  unfold f_X11_bitOf
  rw [nn_bit hs hi]
theorem startOf_ok {t : Nat} (ht : t < 32) : f_X3_startOf (nI t) = some (nI (gFr t)) := by
  unfold f_X3_startOf gFr
  have e : ((16 : Int32) ≤ nI t) = (16 ≤ t) := nn_le (a := 16) (by decide) (by omega)
  simp only [e]
  by_cases h : 16 ≤ t
  · rw [if_pos h, if_neg (by omega), show (16 : Int32) = nI 16 from rfl, nn_sub h]
  · rw [if_neg h, if_pos (by omega)]
theorem isAlike_ok (hS : Shp σ) (hG : GRD I g) {s t e : Nat} (hs : s < 2147483648) (ht : t < 32) (he : gTo g t = some e) : f_X3_isAlike (xw σ I) 11 (nI s) (nI t) = some (nI (if s.testBit (gFr t) = s.testBit e then 1 else 0)) := by
  have h16 := (gAll_b g hG.1).2.2.1
  have heb := gTo_b g hG.1 t ht e he
  unfold f_X3_isAlike
  rw [startOf_ok ht, Option.bind_some, bitOf_ok hs (by omega), Option.bind_some]
  simp (disch := first | assumption | omega) only [Option.bind_some, Option.map_some, xw_gR, xw_gN, xw_al, xw_ck, xw_uI, xw_ur, xup_at, xur_at, if_true, if_false, reduceIte, and_true, true_and, and_false, false_and, not_true_eq_false, not_false_eq_true, Nat.reduceEqDiff, eq_self, Nat.reduceAdd, Nat.reduceMul, kC1, kG1, kP1, kR1_0, kR1_1, kR1_2, kR1_3, kR1_4, kR1_5, kR1_6, kR1_7, kR1_8, kR1_9, kR1_10, kR1_11, kR1_12, kR1_13, kC2, kG2, kP2, kR2_0, kR2_1, kC3, kG3, kP3, kR3_0, kR3_1, kR3_2, kR3_3, kL4, kA4, kS4, kL5, kA5, kS5, kL6, kA6, kS6, kL7, kA7, kS7, kC8, kG8, kP8, kR8_0, kR8_1, kL9, kA9, kS9, kL10, kA10, kS10, kC11, kG11, kP11, kR11_0, kR11_1, kR11_2, kR11_3, kL12, kA12, kS12, kL13, kA13, kS13, kL14, kA14, kS14, kL15, kA15, kS15, kC16, kG16, kP16, kR16_0, kR16_1, kL17, kA17, kS17, kL18, kA18, kS18, kC19, kG19, kP19, kR19_0, kL20, kL141, kL146, kA146, kS146, kL151, kA151, kS151, kL156, kA156, kS156, kC157, kG157, kP157, kR157_0, kR157_1, kL158, kA158, kS158, kL159, kA159, kS159, kC161, kG161, kP161, kR161_0, kR161_1, kL162, kA162, kS162, kL163, kA163, kS163, kC165, kG165, kP165, kR165_0, kR165_1, kR165_2, kR165_3, kL166, kA166, kS166, kL167, kA167, kS167, kL168, kA168, kS168, kL169, kA169, kS169, kC170, kG170, kP170, kR170_0, kR170_1, kR170_2, kL171, kA171, kS171, kL172, kA172, kS172, kL173, kA173, kS173, kC174, kG174, kP174, kR174_0, kR174_1, kR174_2, kR174_3, kR174_4, kL175, kA175, kS175, kL176, kA176, kS176, kL177, kA177, kS177, kL178, kA178, kS178, kL179, kC180, kG180, kP180, kL181, kL182, kA182, kS182, kC183, kG183, kP183, kR183_1, kR183_3, kR183_5, kR183_6, kR183_7, kR183_8, kR183_9, kR183_21, kR183_26, kR183_27, kR183_30, kR183_31, kR183_33, kR183_34, kR183_36, kR183_37, kR183_38, kR183_39, kR183_40, kR183_41, kR183_42, kR183_43, kR183_44, kL184, kA184, kS184, kL185, kA185, kS185, kL186, kA186, kS186, kL187, kA187, kS187, kL188, kA188, kS188, kL189, kL190, kL191, kA191, kS191, kL192, kA192, kS192, kL193, kA193, kS193, kL194, kA194, kS194, kL195, kA195, kS195, kL196, kA196, kS196, kL197, kA197, kS197, kL198, kA198, kS198, kL199, kA199, kS199, kL200, kA200, kS200, kL201, kL202, kA202, kS202, kL203, kA203, kS203, kL204, kA204, kS204, kL205, kL206, kA206, kS206, endAt_ok hS hG ht, he]
  show (f_X11_bitOf (nI s) (nI e)).bind _ = _
  rw [bitOf_ok hs (by omega), Option.bind_some]
  simp only [bI_eq]
  split <;> rfl
theorem bond_SR (hS : Shp σ) (ha : a ∈ suA) (h : SR g I a F) {t : Nat} (ht : t < 32) (he : (gTo g t).isSome = true) : f_X6_bondAt (xw σ I) a (nI t) = some (F t) := by
  rw [bondAt_ok hS ha ht, h.1 t ht, if_pos he]
theorem field_SR (hS : Shp σ) (ha : a ∈ suA) (h : SR g I a F) {t : Nat} (ht : t < 16) (he : t < gSz g) : f_X6_fieldAt (xw σ I) a (nI t) = some (F (32 + t)) := by
  rw [fieldAt_ok hS ha ht, h.2.1 t ht, if_pos he]
theorem cost_j (σ : XS) {s i : Nat} (hs : s < 2147483648) (hi : i < 32) (z : Int) : f_X3_costOfTurn_j99 σ (nI s) (nI i) (iI z) = some (iI (if s.testBit i then 2 * z else -2 * z)) := by
  unfold f_X3_costOfTurn_j99
  rw [bitOf_ok hs hi, Option.bind_some, show (-2 : Int32) = iI (-2) from rfl, show (2 : Int32) = iI 2 from rfl, iI_mul, iI_mul]
  simp only [bI_1]
  split <;> rfl
theorem cost_ok (hS : Shp σ) (hG : GRD I g) (ha : a ∈ suA) (h : SR g I a F) {s i : Nat} (hs : s < 2147483648) (hi : i < gSz g) : f_X3_costOfTurn (xw σ I) 11 a (nI s) (nI i) = some (iI (eC g (zR F) s i)) := by
  have h16 := (gAll_b g hG.1).2.2.1
  have hm := gMt_b g hG.1 i (by omega)
  unfold f_X3_costOfTurn
  simp (disch := first | assumption | omega) only [Option.bind_some, Option.map_some, xw_gR, xw_gN, xw_al, xw_ck, xw_uI, xw_ur, xup_at, xur_at, if_true, if_false, reduceIte, and_true, true_and, and_false, false_and, not_true_eq_false, not_false_eq_true, Nat.reduceEqDiff, eq_self, Nat.reduceAdd, Nat.reduceMul, kC1, kG1, kP1, kR1_0, kR1_1, kR1_2, kR1_3, kR1_4, kR1_5, kR1_6, kR1_7, kR1_8, kR1_9, kR1_10, kR1_11, kR1_12, kR1_13, kC2, kG2, kP2, kR2_0, kR2_1, kC3, kG3, kP3, kR3_0, kR3_1, kR3_2, kR3_3, kL4, kA4, kS4, kL5, kA5, kS5, kL6, kA6, kS6, kL7, kA7, kS7, kC8, kG8, kP8, kR8_0, kR8_1, kL9, kA9, kS9, kL10, kA10, kS10, kC11, kG11, kP11, kR11_0, kR11_1, kR11_2, kR11_3, kL12, kA12, kS12, kL13, kA13, kS13, kL14, kA14, kS14, kL15, kA15, kS15, kC16, kG16, kP16, kR16_0, kR16_1, kL17, kA17, kS17, kL18, kA18, kS18, kC19, kG19, kP19, kR19_0, kL20, kL141, kL146, kA146, kS146, kL151, kA151, kS151, kL156, kA156, kS156, kC157, kG157, kP157, kR157_0, kR157_1, kL158, kA158, kS158, kL159, kA159, kS159, kC161, kG161, kP161, kR161_0, kR161_1, kL162, kA162, kS162, kL163, kA163, kS163, kC165, kG165, kP165, kR165_0, kR165_1, kR165_2, kR165_3, kL166, kA166, kS166, kL167, kA167, kS167, kL168, kA168, kS168, kL169, kA169, kS169, kC170, kG170, kP170, kR170_0, kR170_1, kR170_2, kL171, kA171, kS171, kL172, kA172, kS172, kL173, kA173, kS173, kC174, kG174, kP174, kR174_0, kR174_1, kR174_2, kR174_3, kR174_4, kL175, kA175, kS175, kL176, kA176, kS176, kL177, kA177, kS177, kL178, kA178, kS178, kL179, kC180, kG180, kP180, kL181, kL182, kA182, kS182, kC183, kG183, kP183, kR183_1, kR183_3, kR183_5, kR183_6, kR183_7, kR183_8, kR183_9, kR183_21, kR183_26, kR183_27, kR183_30, kR183_31, kR183_33, kR183_34, kR183_36, kR183_37, kR183_38, kR183_39, kR183_40, kR183_41, kR183_42, kR183_43, kR183_44, kL184, kA184, kS184, kL185, kA185, kS185, kL186, kA186, kS186, kL187, kA187, kS187, kL188, kA188, kS188, kL189, kL190, kL191, kA191, kS191, kL192, kA192, kS192, kL193, kA193, kS193, kL194, kA194, kS194, kL195, kA195, kS195, kL196, kA196, kS196, kL197, kA197, kS197, kL198, kA198, kS198, kL199, kA199, kS199, kL200, kA200, kS200, kL201, kL202, kA202, kS202, kL203, kA203, kS203, kL204, kA204, kS204, kL205, kL206, kA206, kS206, nn_nneg, show (16 : Int32) = nI 16 from rfl, nn_lt, show i < 16 by omega, suC hS ha, field_SR hS ha h (show i < 16 by omega) hi, show (4 : Int32) = nI 4 from rfl, nn_mul]
  unfold eC ePl
  rw [← lsum_get _ (0, 0)]
  refine xforE (fun j : Nat => (iI (zR F (32 + i) + fb_si (fun j => (fun q : Nat × Nat => if s.testBit q.1 then zR F q.2 else -zR F q.2) ((gMt g i).getD j (0, 0))) j), nI (4 * i + j))) (gMt g i).length ?_ (fun j hj => ?_) ?_
  · show (F (32 + i), nI (4 * i)) = _
    rw [show F (32 + i) = iI (zR F (32 + i)) from iI_of _]
    simp [fb_si]
  · simp only [f_X3_costOfTurn_b28]
    have hq := hm.2 ((gMt g i).getD j (0, 0)) (by rw [List.getD_eq_getElem?_getD, List.getElem?_eq_getElem hj]; exact List.getElem_mem hj)
    have hc := hG.2.2.2.2.2.2.1 i (by omega)
    have hm2 := hG.2.2.2.2.2.2.2.1 i j (by omega) hj
    have hl := hm.1
    simp (disch := first | assumption | omega) only [Option.bind_some, Option.map_some, xw_gR, xw_gN, xw_al, xw_ck, xw_uI, xw_ur, xup_at, xur_at, if_true, if_false, reduceIte, and_true, true_and, and_false, false_and, not_true_eq_false, not_false_eq_true, Nat.reduceEqDiff, eq_self, Nat.reduceAdd, Nat.reduceMul, kC1, kG1, kP1, kR1_0, kR1_1, kR1_2, kR1_3, kR1_4, kR1_5, kR1_6, kR1_7, kR1_8, kR1_9, kR1_10, kR1_11, kR1_12, kR1_13, kC2, kG2, kP2, kR2_0, kR2_1, kC3, kG3, kP3, kR3_0, kR3_1, kR3_2, kR3_3, kL4, kA4, kS4, kL5, kA5, kS5, kL6, kA6, kS6, kL7, kA7, kS7, kC8, kG8, kP8, kR8_0, kR8_1, kL9, kA9, kS9, kL10, kA10, kS10, kC11, kG11, kP11, kR11_0, kR11_1, kR11_2, kR11_3, kL12, kA12, kS12, kL13, kA13, kS13, kL14, kA14, kS14, kL15, kA15, kS15, kC16, kG16, kP16, kR16_0, kR16_1, kL17, kA17, kS17, kL18, kA18, kS18, kC19, kG19, kP19, kR19_0, kL20, kL141, kL146, kA146, kS146, kL151, kA151, kS151, kL156, kA156, kS156, kC157, kG157, kP157, kR157_0, kR157_1, kL158, kA158, kS158, kL159, kA159, kS159, kC161, kG161, kP161, kR161_0, kR161_1, kL162, kA162, kS162, kL163, kA163, kS163, kC165, kG165, kP165, kR165_0, kR165_1, kR165_2, kR165_3, kL166, kA166, kS166, kL167, kA167, kS167, kL168, kA168, kS168, kL169, kA169, kS169, kC170, kG170, kP170, kR170_0, kR170_1, kR170_2, kL171, kA171, kS171, kL172, kA172, kS172, kL173, kA173, kS173, kC174, kG174, kP174, kR174_0, kR174_1, kR174_2, kR174_3, kR174_4, kL175, kA175, kS175, kL176, kA176, kS176, kL177, kA177, kS177, kL178, kA178, kS178, kL179, kC180, kG180, kP180, kL181, kL182, kA182, kS182, kC183, kG183, kP183, kR183_1, kR183_3, kR183_5, kR183_6, kR183_7, kR183_8, kR183_9, kR183_21, kR183_26, kR183_27, kR183_30, kR183_31, kR183_33, kR183_34, kR183_36, kR183_37, kR183_38, kR183_39, kR183_40, kR183_41, kR183_42, kR183_43, kR183_44, kL184, kA184, kS184, kL185, kA185, kS185, kL186, kA186, kS186, kL187, kA187, kS187, kL188, kA188, kS188, kL189, kL190, kL191, kA191, kS191, kL192, kA192, kS192, kL193, kA193, kS193, kL194, kA194, kS194, kL195, kA195, kS195, kL196, kA196, kS196, kL197, kA197, kS197, kL198, kA198, kS198, kL199, kA199, kS199, kL200, kA200, kS200, kL201, kL202, kA202, kS202, kL203, kA203, kS203, kL204, kA204, kS204, kL205, kL206, kA206, kS206, hc, nn_add, nn_le, show ¬ (4 * i + (gMt g i).length ≤ 4 * i + j) by omega, show ¬ (64 ≤ 4 * i + j) by omega, hm2.1, hm2.2, suC hS ha, bond_SR hS ha h hq.2.1 hq.2.2.2]
    rw [bitOf_ok hs (by omega), Option.bind_some, show F ((gMt g i).getD j (0, 0)).2 = iI (zR F ((gMt g i).getD j (0, 0)).2) from iI_of _, iI_neg, iI_add, iI_add, show (1 : Int32) = nI 1 from rfl, nn_add, fb_si_succ]
    by_cases hb : s.testBit ((gMt g i).getD j (0, 0)).1 = true
    · rw [if_pos (by rw [if_pos hb]), if_pos hb, ← Int.add_assoc, Nat.add_assoc]
    · rw [if_neg (by rw [if_neg hb]; decide), if_neg hb, ← Int.add_assoc, Nat.add_assoc]
  · simp only [f_X3_costOfTurn_b28]
    have hc := hG.2.2.2.2.2.2.1 i (by omega)
    have hl := hm.1
    simp (disch := first | assumption | omega) only [Option.bind_some, Option.map_some, xw_gR, xw_gN, xw_al, xw_ck, xw_uI, xw_ur, xup_at, xur_at, if_true, if_false, reduceIte, and_true, true_and, and_false, false_and, not_true_eq_false, not_false_eq_true, Nat.reduceEqDiff, eq_self, Nat.reduceAdd, Nat.reduceMul, kC1, kG1, kP1, kR1_0, kR1_1, kR1_2, kR1_3, kR1_4, kR1_5, kR1_6, kR1_7, kR1_8, kR1_9, kR1_10, kR1_11, kR1_12, kR1_13, kC2, kG2, kP2, kR2_0, kR2_1, kC3, kG3, kP3, kR3_0, kR3_1, kR3_2, kR3_3, kL4, kA4, kS4, kL5, kA5, kS5, kL6, kA6, kS6, kL7, kA7, kS7, kC8, kG8, kP8, kR8_0, kR8_1, kL9, kA9, kS9, kL10, kA10, kS10, kC11, kG11, kP11, kR11_0, kR11_1, kR11_2, kR11_3, kL12, kA12, kS12, kL13, kA13, kS13, kL14, kA14, kS14, kL15, kA15, kS15, kC16, kG16, kP16, kR16_0, kR16_1, kL17, kA17, kS17, kL18, kA18, kS18, kC19, kG19, kP19, kR19_0, kL20, kL141, kL146, kA146, kS146, kL151, kA151, kS151, kL156, kA156, kS156, kC157, kG157, kP157, kR157_0, kR157_1, kL158, kA158, kS158, kL159, kA159, kS159, kC161, kG161, kP161, kR161_0, kR161_1, kL162, kA162, kS162, kL163, kA163, kS163, kC165, kG165, kP165, kR165_0, kR165_1, kR165_2, kR165_3, kL166, kA166, kS166, kL167, kA167, kS167, kL168, kA168, kS168, kL169, kA169, kS169, kC170, kG170, kP170, kR170_0, kR170_1, kR170_2, kL171, kA171, kS171, kL172, kA172, kS172, kL173, kA173, kS173, kC174, kG174, kP174, kR174_0, kR174_1, kR174_2, kR174_3, kR174_4, kL175, kA175, kS175, kL176, kA176, kS176, kL177, kA177, kS177, kL178, kA178, kS178, kL179, kC180, kG180, kP180, kL181, kL182, kA182, kS182, kC183, kG183, kP183, kR183_1, kR183_3, kR183_5, kR183_6, kR183_7, kR183_8, kR183_9, kR183_21, kR183_26, kR183_27, kR183_30, kR183_31, kR183_33, kR183_34, kR183_36, kR183_37, kR183_38, kR183_39, kR183_40, kR183_41, kR183_42, kR183_43, kR183_44, kL184, kA184, kS184, kL185, kA185, kS185, kL186, kA186, kS186, kL187, kA187, kS187, kL188, kA188, kS188, kL189, kL190, kL191, kA191, kS191, kL192, kA192, kS192, kL193, kA193, kS193, kL194, kA194, kS194, kL195, kA195, kS195, kL196, kA196, kS196, kL197, kA197, kS197, kL198, kA198, kS198, kL199, kA199, kS199, kL200, kA200, kS200, kL201, kL202, kA202, kS202, kL203, kA203, kS203, kL204, kA204, kS204, kL205, kL206, kA206, kS206, hc, nn_add, nn_le, Nat.le_refl, cost_j _ hs (show i < 32 by omega)]
/-- the energy of a state by the ties and the fields -/
theorem energy11_f (hS : Shp σ) (hG : GRD I g) (ha : a ∈ suA) (h : SR g I a F) {s : Nat} (hs : s < 2147483648) (z : Int) : xloop (f_X3_energyOf_b60 (xw σ I) 11 a (nI s)) (iI z, (0 : Int32)) = some (iI (z + fb_si (eH (zR F) s) (gSz g))) := by
  have h16 := (gAll_b g hG.1).2.2.1
  refine xforE (fun i : Nat => (iI (z + fb_si (eH (zR F) s) i), nI i)) (gSz g) (by simp [fb_si]; rfl) (fun i hi => ?_) ?_
  · simp only [f_X3_energyOf_b60]
    simp (disch := first | assumption | omega) only [Option.bind_some, Option.map_some, xw_gR, xw_gN, xw_al, xw_ck, xw_uI, xw_ur, xup_at, xur_at, if_true, if_false, reduceIte, and_true, true_and, and_false, false_and, not_true_eq_false, not_false_eq_true, Nat.reduceEqDiff, eq_self, Nat.reduceAdd, Nat.reduceMul, kC1, kG1, kP1, kR1_0, kR1_1, kR1_2, kR1_3, kR1_4, kR1_5, kR1_6, kR1_7, kR1_8, kR1_9, kR1_10, kR1_11, kR1_12, kR1_13, kC2, kG2, kP2, kR2_0, kR2_1, kC3, kG3, kP3, kR3_0, kR3_1, kR3_2, kR3_3, kL4, kA4, kS4, kL5, kA5, kS5, kL6, kA6, kS6, kL7, kA7, kS7, kC8, kG8, kP8, kR8_0, kR8_1, kL9, kA9, kS9, kL10, kA10, kS10, kC11, kG11, kP11, kR11_0, kR11_1, kR11_2, kR11_3, kL12, kA12, kS12, kL13, kA13, kS13, kL14, kA14, kS14, kL15, kA15, kS15, kC16, kG16, kP16, kR16_0, kR16_1, kL17, kA17, kS17, kL18, kA18, kS18, kC19, kG19, kP19, kR19_0, kL20, kL141, kL146, kA146, kS146, kL151, kA151, kS151, kL156, kA156, kS156, kC157, kG157, kP157, kR157_0, kR157_1, kL158, kA158, kS158, kL159, kA159, kS159, kC161, kG161, kP161, kR161_0, kR161_1, kL162, kA162, kS162, kL163, kA163, kS163, kC165, kG165, kP165, kR165_0, kR165_1, kR165_2, kR165_3, kL166, kA166, kS166, kL167, kA167, kS167, kL168, kA168, kS168, kL169, kA169, kS169, kC170, kG170, kP170, kR170_0, kR170_1, kR170_2, kL171, kA171, kS171, kL172, kA172, kS172, kL173, kA173, kS173, kC174, kG174, kP174, kR174_0, kR174_1, kR174_2, kR174_3, kR174_4, kL175, kA175, kS175, kL176, kA176, kS176, kL177, kA177, kS177, kL178, kA178, kS178, kL179, kC180, kG180, kP180, kL181, kL182, kA182, kS182, kC183, kG183, kP183, kR183_1, kR183_3, kR183_5, kR183_6, kR183_7, kR183_8, kR183_9, kR183_21, kR183_26, kR183_27, kR183_30, kR183_31, kR183_33, kR183_34, kR183_36, kR183_37, kR183_38, kR183_39, kR183_40, kR183_41, kR183_42, kR183_43, kR183_44, kL184, kA184, kS184, kL185, kA185, kS185, kL186, kA186, kS186, kL187, kA187, kS187, kL188, kA188, kS188, kL189, kL190, kL191, kA191, kS191, kL192, kA192, kS192, kL193, kA193, kS193, kL194, kA194, kS194, kL195, kA195, kS195, kL196, kA196, kS196, kL197, kA197, kS197, kL198, kA198, kS198, kL199, kA199, kS199, kL200, kA200, kS200, kL201, kL202, kA202, kS202, kL203, kA203, kS203, kL204, kA204, kS204, kL205, kL206, kA206, kS206, hG.2.2.2.2.1, nn_le, show ¬ (gSz g ≤ i) by omega, suC hS ha, field_SR hS ha h (show i < 16 by omega) hi]
    rw [bitOf_ok hs (by omega), Option.bind_some, show F (32 + i) = iI (zR F (32 + i)) from iI_of _, iI_neg, iI_add, iI_add, fb_si_succ, ← Int.add_assoc, nI_succ]
    simp only [bI_1]
    unfold eH
    by_cases hb : s.testBit i = true
    · rw [if_pos hb, if_pos hb]
    · rw [if_neg hb, if_neg hb]
  · simp only [f_X3_energyOf_b60]
    simp (disch := first | assumption | omega) only [Option.bind_some, Option.map_some, xw_gR, xw_gN, xw_al, xw_ck, xw_uI, xw_ur, xup_at, xur_at, if_true, if_false, reduceIte, and_true, true_and, and_false, false_and, not_true_eq_false, not_false_eq_true, Nat.reduceEqDiff, eq_self, Nat.reduceAdd, Nat.reduceMul, kC1, kG1, kP1, kR1_0, kR1_1, kR1_2, kR1_3, kR1_4, kR1_5, kR1_6, kR1_7, kR1_8, kR1_9, kR1_10, kR1_11, kR1_12, kR1_13, kC2, kG2, kP2, kR2_0, kR2_1, kC3, kG3, kP3, kR3_0, kR3_1, kR3_2, kR3_3, kL4, kA4, kS4, kL5, kA5, kS5, kL6, kA6, kS6, kL7, kA7, kS7, kC8, kG8, kP8, kR8_0, kR8_1, kL9, kA9, kS9, kL10, kA10, kS10, kC11, kG11, kP11, kR11_0, kR11_1, kR11_2, kR11_3, kL12, kA12, kS12, kL13, kA13, kS13, kL14, kA14, kS14, kL15, kA15, kS15, kC16, kG16, kP16, kR16_0, kR16_1, kL17, kA17, kS17, kL18, kA18, kS18, kC19, kG19, kP19, kR19_0, kL20, kL141, kL146, kA146, kS146, kL151, kA151, kS151, kL156, kA156, kS156, kC157, kG157, kP157, kR157_0, kR157_1, kL158, kA158, kS158, kL159, kA159, kS159, kC161, kG161, kP161, kR161_0, kR161_1, kL162, kA162, kS162, kL163, kA163, kS163, kC165, kG165, kP165, kR165_0, kR165_1, kR165_2, kR165_3, kL166, kA166, kS166, kL167, kA167, kS167, kL168, kA168, kS168, kL169, kA169, kS169, kC170, kG170, kP170, kR170_0, kR170_1, kR170_2, kL171, kA171, kS171, kL172, kA172, kS172, kL173, kA173, kS173, kC174, kG174, kP174, kR174_0, kR174_1, kR174_2, kR174_3, kR174_4, kL175, kA175, kS175, kL176, kA176, kS176, kL177, kA177, kS177, kL178, kA178, kS178, kL179, kC180, kG180, kP180, kL181, kL182, kA182, kS182, kC183, kG183, kP183, kR183_1, kR183_3, kR183_5, kR183_6, kR183_7, kR183_8, kR183_9, kR183_21, kR183_26, kR183_27, kR183_30, kR183_31, kR183_33, kR183_34, kR183_36, kR183_37, kR183_38, kR183_39, kR183_40, kR183_41, kR183_42, kR183_43, kR183_44, kL184, kA184, kS184, kL185, kA185, kS185, kL186, kA186, kS186, kL187, kA187, kS187, kL188, kA188, kS188, kL189, kL190, kL191, kA191, kS191, kL192, kA192, kS192, kL193, kA193, kS193, kL194, kA194, kS194, kL195, kA195, kS195, kL196, kA196, kS196, kL197, kA197, kS197, kL198, kA198, kS198, kL199, kA199, kS199, kL200, kA200, kS200, kL201, kL202, kA202, kS202, kL203, kA203, kS203, kL204, kA204, kS204, kL205, kL206, kA206, kS206, hG.2.2.2.2.1, nn_le, Nat.le_refl]
theorem energy11_ok (hS : Shp σ) (hG : GRD I g) (ha : a ∈ suA) (h : SR g I a F) {s : Nat} (hs : s < 2147483648) : f_X3_energyOf (xw σ I) 11 a (nI s) = some (iI (eE g (zR F) s)) := by
  unfold f_X3_energyOf eE
  refine xforE (fun t : Nat => (iI (fb_si (eT g (zR F) s) t), nI t)) 32 rfl (fun t ht => ?_) ?_
  · simp only [f_X3_energyOf_b5]
    rw [if_neg (by rw [show (32 : Int32) = nI 32 from rfl, nn_le (by omega) (by omega)]; omega), fb_si_succ]
    simp (disch := first | assumption | omega) only [Option.bind_some, Option.map_some, xw_gR, xw_gN, xw_al, xw_ck, xw_uI, xw_ur, xup_at, xur_at, if_true, if_false, reduceIte, and_true, true_and, and_false, false_and, not_true_eq_false, not_false_eq_true, Nat.reduceEqDiff, eq_self, Nat.reduceAdd, Nat.reduceMul, kC1, kG1, kP1, kR1_0, kR1_1, kR1_2, kR1_3, kR1_4, kR1_5, kR1_6, kR1_7, kR1_8, kR1_9, kR1_10, kR1_11, kR1_12, kR1_13, kC2, kG2, kP2, kR2_0, kR2_1, kC3, kG3, kP3, kR3_0, kR3_1, kR3_2, kR3_3, kL4, kA4, kS4, kL5, kA5, kS5, kL6, kA6, kS6, kL7, kA7, kS7, kC8, kG8, kP8, kR8_0, kR8_1, kL9, kA9, kS9, kL10, kA10, kS10, kC11, kG11, kP11, kR11_0, kR11_1, kR11_2, kR11_3, kL12, kA12, kS12, kL13, kA13, kS13, kL14, kA14, kS14, kL15, kA15, kS15, kC16, kG16, kP16, kR16_0, kR16_1, kL17, kA17, kS17, kL18, kA18, kS18, kC19, kG19, kP19, kR19_0, kL20, kL141, kL146, kA146, kS146, kL151, kA151, kS151, kL156, kA156, kS156, kC157, kG157, kP157, kR157_0, kR157_1, kL158, kA158, kS158, kL159, kA159, kS159, kC161, kG161, kP161, kR161_0, kR161_1, kL162, kA162, kS162, kL163, kA163, kS163, kC165, kG165, kP165, kR165_0, kR165_1, kR165_2, kR165_3, kL166, kA166, kS166, kL167, kA167, kS167, kL168, kA168, kS168, kL169, kA169, kS169, kC170, kG170, kP170, kR170_0, kR170_1, kR170_2, kL171, kA171, kS171, kL172, kA172, kS172, kL173, kA173, kS173, kC174, kG174, kP174, kR174_0, kR174_1, kR174_2, kR174_3, kR174_4, kL175, kA175, kS175, kL176, kA176, kS176, kL177, kA177, kS177, kL178, kA178, kS178, kL179, kC180, kG180, kP180, kL181, kL182, kA182, kS182, kC183, kG183, kP183, kR183_1, kR183_3, kR183_5, kR183_6, kR183_7, kR183_8, kR183_9, kR183_21, kR183_26, kR183_27, kR183_30, kR183_31, kR183_33, kR183_34, kR183_36, kR183_37, kR183_38, kR183_39, kR183_40, kR183_41, kR183_42, kR183_43, kR183_44, kL184, kA184, kS184, kL185, kA185, kS185, kL186, kA186, kS186, kL187, kA187, kS187, kL188, kA188, kS188, kL189, kL190, kL191, kA191, kS191, kL192, kA192, kS192, kL193, kA193, kS193, kL194, kA194, kS194, kL195, kA195, kS195, kL196, kA196, kS196, kL197, kA197, kS197, kL198, kA198, kS198, kL199, kA199, kS199, kL200, kA200, kS200, kL201, kL202, kA202, kS202, kL203, kA203, kS203, kL204, kA204, kS204, kL205, kL206, kA206, kS206, endAt_ok hS hG ht, oI_none (gTo_s hG.1 ht)]
    cases he : gTo g t with
    | none =>
      have e : eT g (zR F) s t = 0 := by unfold eT; rw [he]
      rw [if_pos rfl, e, Int.add_zero, nI_succ]
    | some e =>
      have e2 : eT g (zR F) s t = if s.testBit (gFr t) = s.testBit e then -zR F t else zR F t := by unfold eT; rw [he]
      rw [if_neg (by simp), isAlike_ok hS hG hs ht he]
      simp (disch := first | assumption | omega) only [Option.bind_some, Option.map_some, xw_gR, xw_gN, xw_al, xw_ck, xw_uI, xw_ur, xup_at, xur_at, if_true, if_false, reduceIte, and_true, true_and, and_false, false_and, not_true_eq_false, not_false_eq_true, Nat.reduceEqDiff, eq_self, Nat.reduceAdd, Nat.reduceMul, kC1, kG1, kP1, kR1_0, kR1_1, kR1_2, kR1_3, kR1_4, kR1_5, kR1_6, kR1_7, kR1_8, kR1_9, kR1_10, kR1_11, kR1_12, kR1_13, kC2, kG2, kP2, kR2_0, kR2_1, kC3, kG3, kP3, kR3_0, kR3_1, kR3_2, kR3_3, kL4, kA4, kS4, kL5, kA5, kS5, kL6, kA6, kS6, kL7, kA7, kS7, kC8, kG8, kP8, kR8_0, kR8_1, kL9, kA9, kS9, kL10, kA10, kS10, kC11, kG11, kP11, kR11_0, kR11_1, kR11_2, kR11_3, kL12, kA12, kS12, kL13, kA13, kS13, kL14, kA14, kS14, kL15, kA15, kS15, kC16, kG16, kP16, kR16_0, kR16_1, kL17, kA17, kS17, kL18, kA18, kS18, kC19, kG19, kP19, kR19_0, kL20, kL141, kL146, kA146, kS146, kL151, kA151, kS151, kL156, kA156, kS156, kC157, kG157, kP157, kR157_0, kR157_1, kL158, kA158, kS158, kL159, kA159, kS159, kC161, kG161, kP161, kR161_0, kR161_1, kL162, kA162, kS162, kL163, kA163, kS163, kC165, kG165, kP165, kR165_0, kR165_1, kR165_2, kR165_3, kL166, kA166, kS166, kL167, kA167, kS167, kL168, kA168, kS168, kL169, kA169, kS169, kC170, kG170, kP170, kR170_0, kR170_1, kR170_2, kL171, kA171, kS171, kL172, kA172, kS172, kL173, kA173, kS173, kC174, kG174, kP174, kR174_0, kR174_1, kR174_2, kR174_3, kR174_4, kL175, kA175, kS175, kL176, kA176, kS176, kL177, kA177, kS177, kL178, kA178, kS178, kL179, kC180, kG180, kP180, kL181, kL182, kA182, kS182, kC183, kG183, kP183, kR183_1, kR183_3, kR183_5, kR183_6, kR183_7, kR183_8, kR183_9, kR183_21, kR183_26, kR183_27, kR183_30, kR183_31, kR183_33, kR183_34, kR183_36, kR183_37, kR183_38, kR183_39, kR183_40, kR183_41, kR183_42, kR183_43, kR183_44, kL184, kA184, kS184, kL185, kA185, kS185, kL186, kA186, kS186, kL187, kA187, kS187, kL188, kA188, kS188, kL189, kL190, kL191, kA191, kS191, kL192, kA192, kS192, kL193, kA193, kS193, kL194, kA194, kS194, kL195, kA195, kS195, kL196, kA196, kS196, kL197, kA197, kS197, kL198, kA198, kS198, kL199, kA199, kS199, kL200, kA200, kS200, kL201, kL202, kA202, kS202, kL203, kA203, kS203, kL204, kA204, kS204, kL205, kL206, kA206, kS206, suC hS ha, bond_SR hS ha h ht (show (gTo g t).isSome = true by rw [he]; rfl)]
      rw [show F t = iI (zR F t) from iI_of _, iI_neg, iI_add, iI_add, e2, nI_succ]
      by_cases hb : s.testBit (gFr t) = s.testBit e
      · rw [if_pos hb, if_pos hb, if_neg (by decide)]
      · rw [if_neg hb, if_neg hb, if_pos (show nI 0 = 0 from rfl)]
  · simp only [f_X3_energyOf_b5]
    rw [if_pos (by decide), energy11_f hS hG ha h hs]
    rfl
end CENERGY
end
section
/-! site and square -/
theorem gSq : ∀ g ∈ gAll, ∀ i, i < 16 → (gTo g i).all (fun e => (gTo g (i + 16)).all (fun f => (gTo g (e + 16)).isSome && (gTo g f).isSome)) = true := by decide +kernel
theorem gw0 : ∀ g ∈ gAll, 0 < gSz g → 0 < g.1 := by decide +kernel
section SITE
variable {σ : XS} {I : Nat → Nat → Int32} {g : GD} {a : Nat} {F : Nat → Int32}
def sqv (g : GD) (F : Nat → Int32) (i : Nat) : Int32 := match gTo g i, gTo g (i + 16) with
  | some e, some f => if 0 ≤ (((F i * F (i + 16)) * F (e + 16)) * F f) then 0 else 1
  | _, _ => -2
theorem square11_ok (hS : Shp σ) (hG : GRD I g) (ha : a ∈ suA) (h : SR g I a F) {i : Nat} (hi : i < gSz g) : f_X3_squareOf (xw σ I) 11 a (nI i) = some (sqv g F i) := by
  have h16 := (gAll_b g hG.1).2.2.1
  have q := gSq g hG.1 i (by omega)
  unfold f_X3_squareOf sqv
  simp (disch := first | assumption | omega) only [Option.bind_some, Option.map_some, xw_gR, xw_gN, xw_al, xw_ck, xw_uI, xw_ur, xup_at, xur_at, if_true, if_false, reduceIte, and_true, true_and, and_false, false_and, not_true_eq_false, not_false_eq_true, Nat.reduceEqDiff, eq_self, Nat.reduceAdd, Nat.reduceMul, kC1, kG1, kP1, kR1_0, kR1_1, kR1_2, kR1_3, kR1_4, kR1_5, kR1_6, kR1_7, kR1_8, kR1_9, kR1_10, kR1_11, kR1_12, kR1_13, kC2, kG2, kP2, kR2_0, kR2_1, kC3, kG3, kP3, kR3_0, kR3_1, kR3_2, kR3_3, kL4, kA4, kS4, kL5, kA5, kS5, kL6, kA6, kS6, kL7, kA7, kS7, kC8, kG8, kP8, kR8_0, kR8_1, kL9, kA9, kS9, kL10, kA10, kS10, kC11, kG11, kP11, kR11_0, kR11_1, kR11_2, kR11_3, kL12, kA12, kS12, kL13, kA13, kS13, kL14, kA14, kS14, kL15, kA15, kS15, kC16, kG16, kP16, kR16_0, kR16_1, kL17, kA17, kS17, kL18, kA18, kS18, kC19, kG19, kP19, kR19_0, kL20, kL141, kL146, kA146, kS146, kL151, kA151, kS151, kL156, kA156, kS156, kC157, kG157, kP157, kR157_0, kR157_1, kL158, kA158, kS158, kL159, kA159, kS159, kC161, kG161, kP161, kR161_0, kR161_1, kL162, kA162, kS162, kL163, kA163, kS163, kC165, kG165, kP165, kR165_0, kR165_1, kR165_2, kR165_3, kL166, kA166, kS166, kL167, kA167, kS167, kL168, kA168, kS168, kL169, kA169, kS169, kC170, kG170, kP170, kR170_0, kR170_1, kR170_2, kL171, kA171, kS171, kL172, kA172, kS172, kL173, kA173, kS173, kC174, kG174, kP174, kR174_0, kR174_1, kR174_2, kR174_3, kR174_4, kL175, kA175, kS175, kL176, kA176, kS176, kL177, kA177, kS177, kL178, kA178, kS178, kL179, kC180, kG180, kP180, kL181, kL182, kA182, kS182, kC183, kG183, kP183, kR183_1, kR183_3, kR183_5, kR183_6, kR183_7, kR183_8, kR183_9, kR183_21, kR183_26, kR183_27, kR183_30, kR183_31, kR183_33, kR183_34, kR183_36, kR183_37, kR183_38, kR183_39, kR183_40, kR183_41, kR183_42, kR183_43, kR183_44, kL184, kA184, kS184, kL185, kA185, kS185, kL186, kA186, kS186, kL187, kA187, kS187, kL188, kA188, kS188, kL189, kL190, kL191, kA191, kS191, kL192, kA192, kS192, kL193, kA193, kS193, kL194, kA194, kS194, kL195, kA195, kS195, kL196, kA196, kS196, kL197, kA197, kS197, kL198, kA198, kS198, kL199, kA199, kS199, kL200, kA200, kS200, kL201, kL202, kA202, kS202, kL203, kA203, kS203, kL204, kA204, kS204, kL205, kL206, kA206, kS206, endAt_ok hS hG (show i < 32 by omega), show (16 : Int32) = nI 16 from rfl, nn_add, Nat.add_comm 16 i, endAt_ok hS hG (show i + 16 < 32 by omega), oI_none (gTo_s hG.1 (show i < 32 by omega)), oI_none (gTo_s hG.1 (show i + 16 < 32 by omega))]
  cases he : gTo g i with
  | none => simp
  | some e =>
    cases hf : gTo g (i + 16) with
    | none => simp
    | some f =>
      rw [he, hf] at q
      have eb := gTo_b g hG.1 i (by omega) e he
      have fb := gTo_b g hG.1 (i + 16) (by omega) f hf
      simp only [Option.all_some, Bool.and_eq_true] at q
      rw [if_neg (by simp), if_neg (by simp)]
      simp only [suC hS ha, Option.bind_some, bond_SR hS ha h (show i < 32 by omega) (show (gTo g i).isSome = true by rw [he]; rfl), bond_SR hS ha h (show i + 16 < 32 by omega) (show (gTo g (i + 16)).isSome = true by rw [hf]; rfl), oI, nn_add, Nat.add_comm 16 e, bond_SR hS ha h (show e + 16 < 32 by omega) q.1, bond_SR hS ha h (show f < 32 by omega) q.2]
      split <;> rfl
theorem odd12_ok (hS : Shp σ) (hG : GRD I g) {i : Nat} (hi : i < gSz g) : f_X12_oddOf (xw σ I) 183 (nI i) = some (sqv g (I 191) i) := by
  have h16 := (gAll_b g hG.1).2.2.1
  have t0 := tieTo_ok (b := 0) hS hG (by decide) hi
  have t1 := tieTo_ok (b := 1) hS hG (by decide) hi
  rw [show nI 0 = (0 : Int32) from rfl, Nat.mul_zero, Nat.add_zero] at t0
  rw [show nI 1 = (1 : Int32) from rfl, Nat.mul_one] at t1
  unfold f_X12_oddOf sqv
  simp (disch := first | assumption | omega) only [Option.bind_some, Option.map_some, xw_gR, xw_gN, xw_al, xw_ck, xw_uI, xw_ur, xup_at, xur_at, if_true, if_false, reduceIte, and_true, true_and, and_false, false_and, not_true_eq_false, not_false_eq_true, Nat.reduceEqDiff, eq_self, Nat.reduceAdd, Nat.reduceMul, kC1, kG1, kP1, kR1_0, kR1_1, kR1_2, kR1_3, kR1_4, kR1_5, kR1_6, kR1_7, kR1_8, kR1_9, kR1_10, kR1_11, kR1_12, kR1_13, kC2, kG2, kP2, kR2_0, kR2_1, kC3, kG3, kP3, kR3_0, kR3_1, kR3_2, kR3_3, kL4, kA4, kS4, kL5, kA5, kS5, kL6, kA6, kS6, kL7, kA7, kS7, kC8, kG8, kP8, kR8_0, kR8_1, kL9, kA9, kS9, kL10, kA10, kS10, kC11, kG11, kP11, kR11_0, kR11_1, kR11_2, kR11_3, kL12, kA12, kS12, kL13, kA13, kS13, kL14, kA14, kS14, kL15, kA15, kS15, kC16, kG16, kP16, kR16_0, kR16_1, kL17, kA17, kS17, kL18, kA18, kS18, kC19, kG19, kP19, kR19_0, kL20, kL141, kL146, kA146, kS146, kL151, kA151, kS151, kL156, kA156, kS156, kC157, kG157, kP157, kR157_0, kR157_1, kL158, kA158, kS158, kL159, kA159, kS159, kC161, kG161, kP161, kR161_0, kR161_1, kL162, kA162, kS162, kL163, kA163, kS163, kC165, kG165, kP165, kR165_0, kR165_1, kR165_2, kR165_3, kL166, kA166, kS166, kL167, kA167, kS167, kL168, kA168, kS168, kL169, kA169, kS169, kC170, kG170, kP170, kR170_0, kR170_1, kR170_2, kL171, kA171, kS171, kL172, kA172, kS172, kL173, kA173, kS173, kC174, kG174, kP174, kR174_0, kR174_1, kR174_2, kR174_3, kR174_4, kL175, kA175, kS175, kL176, kA176, kS176, kL177, kA177, kS177, kL178, kA178, kS178, kL179, kC180, kG180, kP180, kL181, kL182, kA182, kS182, kC183, kG183, kP183, kR183_1, kR183_3, kR183_5, kR183_6, kR183_7, kR183_8, kR183_9, kR183_21, kR183_26, kR183_27, kR183_30, kR183_31, kR183_33, kR183_34, kR183_36, kR183_37, kR183_38, kR183_39, kR183_40, kR183_41, kR183_42, kR183_43, kR183_44, kL184, kA184, kS184, kL185, kA185, kS185, kL186, kA186, kS186, kL187, kA187, kS187, kL188, kA188, kS188, kL189, kL190, kL191, kA191, kS191, kL192, kA192, kS192, kL193, kA193, kS193, kL194, kA194, kS194, kL195, kA195, kS195, kL196, kA196, kS196, kL197, kA197, kS197, kL198, kA198, kS198, kL199, kA199, kS199, kL200, kA200, kS200, kL201, kL202, kA202, kS202, kL203, kA203, kS203, kL204, kA204, kS204, kL205, kL206, kA206, kS206, t0, t1]
  cases he : gTo g i with
  | none =>
    rw [if_pos (show oI none < 0 by decide)]
  | some e =>
    have eb := gTo_b g hG.1 i (by omega) e he
    rw [if_neg (show ¬ oI (some e) < 0 from nI_pos (by omega))]
    cases hf : gTo g (i + 16) with
    | none =>
      rw [if_neg (show ¬ 0 ≤ oI none by decide)]
    | some f =>
      have fb := gTo_b g hG.1 (i + 16) (by omega) f hf
      rw [if_pos (show (0 : Int32) ≤ oI (some f) by show nI 0 ≤ nI f; rw [nn_le (by decide) (by omega)]; omega)]
      simp (disch := first | assumption | omega) only [Option.bind_some, Option.map_some, xw_gR, xw_gN, xw_al, xw_ck, xw_uI, xw_ur, xup_at, xur_at, if_true, if_false, reduceIte, and_true, true_and, and_false, false_and, not_true_eq_false, not_false_eq_true, Nat.reduceEqDiff, eq_self, Nat.reduceAdd, Nat.reduceMul, kC1, kG1, kP1, kR1_0, kR1_1, kR1_2, kR1_3, kR1_4, kR1_5, kR1_6, kR1_7, kR1_8, kR1_9, kR1_10, kR1_11, kR1_12, kR1_13, kC2, kG2, kP2, kR2_0, kR2_1, kC3, kG3, kP3, kR3_0, kR3_1, kR3_2, kR3_3, kL4, kA4, kS4, kL5, kA5, kS5, kL6, kA6, kS6, kL7, kA7, kS7, kC8, kG8, kP8, kR8_0, kR8_1, kL9, kA9, kS9, kL10, kA10, kS10, kC11, kG11, kP11, kR11_0, kR11_1, kR11_2, kR11_3, kL12, kA12, kS12, kL13, kA13, kS13, kL14, kA14, kS14, kL15, kA15, kS15, kC16, kG16, kP16, kR16_0, kR16_1, kL17, kA17, kS17, kL18, kA18, kS18, kC19, kG19, kP19, kR19_0, kL20, kL141, kL146, kA146, kS146, kL151, kA151, kS151, kL156, kA156, kS156, kC157, kG157, kP157, kR157_0, kR157_1, kL158, kA158, kS158, kL159, kA159, kS159, kC161, kG161, kP161, kR161_0, kR161_1, kL162, kA162, kS162, kL163, kA163, kS163, kC165, kG165, kP165, kR165_0, kR165_1, kR165_2, kR165_3, kL166, kA166, kS166, kL167, kA167, kS167, kL168, kA168, kS168, kL169, kA169, kS169, kC170, kG170, kP170, kR170_0, kR170_1, kR170_2, kL171, kA171, kS171, kL172, kA172, kS172, kL173, kA173, kS173, kC174, kG174, kP174, kR174_0, kR174_1, kR174_2, kR174_3, kR174_4, kL175, kA175, kS175, kL176, kA176, kS176, kL177, kA177, kS177, kL178, kA178, kS178, kL179, kC180, kG180, kP180, kL181, kL182, kA182, kS182, kC183, kG183, kP183, kR183_1, kR183_3, kR183_5, kR183_6, kR183_7, kR183_8, kR183_9, kR183_21, kR183_26, kR183_27, kR183_30, kR183_31, kR183_33, kR183_34, kR183_36, kR183_37, kR183_38, kR183_39, kR183_40, kR183_41, kR183_42, kR183_43, kR183_44, kL184, kA184, kS184, kL185, kA185, kS185, kL186, kA186, kS186, kL187, kA187, kS187, kL188, kA188, kS188, kL189, kL190, kL191, kA191, kS191, kL192, kA192, kS192, kL193, kA193, kS193, kL194, kA194, kS194, kL195, kA195, kS195, kL196, kA196, kS196, kL197, kA197, kS197, kL198, kA198, kS198, kL199, kA199, kS199, kL200, kA200, kS200, kL201, kL202, kA202, kS202, kL203, kA203, kS203, kL204, kA204, kS204, kL205, kL206, kA206, kS206, oI, show (16 : Int32) = nI 16 from rfl, show (0 : Int32) + nI i = nI i by rw [show (0 : Int32) = nI 0 from rfl, nn_add, Nat.zero_add], show (0 : Int32) + nI f = nI f by rw [show (0 : Int32) = nI 0 from rfl, nn_add, Nat.zero_add], nn_add, Nat.add_comm 16 i, Nat.add_comm 16 e]
      split <;> rfl
end SITE
theorem op_square : Op_square INV := by
  intro n σ hn ⟨g, gT, gP, st, H⟩ x
  have hS := H.shp
  have hG := H.grd
  by_cases hs : isS g x = true
  · obtain ⟨i, hi, rfl⟩ := isS_t hs
    refine ⟨sqv g (xI σ 191) i, ?_, ?_, g, gT, gP, st, H.nop⟩
    · show f_X11_square (xw σ (xI σ)) 1 (nI i) = _
      unfold f_X11_square
      simp (disch := first | assumption | omega) only [Option.bind_some, Option.map_some, xw_gR, xw_gN, xw_al, xw_ck, xw_uI, xw_ur, xup_at, xur_at, if_true, if_false, reduceIte, and_true, true_and, and_false, false_and, not_true_eq_false, not_false_eq_true, Nat.reduceEqDiff, eq_self, Nat.reduceAdd, Nat.reduceMul, kC1, kG1, kP1, kR1_0, kR1_1, kR1_2, kR1_3, kR1_4, kR1_5, kR1_6, kR1_7, kR1_8, kR1_9, kR1_10, kR1_11, kR1_12, kR1_13, kC2, kG2, kP2, kR2_0, kR2_1, kC3, kG3, kP3, kR3_0, kR3_1, kR3_2, kR3_3, kL4, kA4, kS4, kL5, kA5, kS5, kL6, kA6, kS6, kL7, kA7, kS7, kC8, kG8, kP8, kR8_0, kR8_1, kL9, kA9, kS9, kL10, kA10, kS10, kC11, kG11, kP11, kR11_0, kR11_1, kR11_2, kR11_3, kL12, kA12, kS12, kL13, kA13, kS13, kL14, kA14, kS14, kL15, kA15, kS15, kC16, kG16, kP16, kR16_0, kR16_1, kL17, kA17, kS17, kL18, kA18, kS18, kC19, kG19, kP19, kR19_0, kL20, kL141, kL146, kA146, kS146, kL151, kA151, kS151, kL156, kA156, kS156, kC157, kG157, kP157, kR157_0, kR157_1, kL158, kA158, kS158, kL159, kA159, kS159, kC161, kG161, kP161, kR161_0, kR161_1, kL162, kA162, kS162, kL163, kA163, kS163, kC165, kG165, kP165, kR165_0, kR165_1, kR165_2, kR165_3, kL166, kA166, kS166, kL167, kA167, kS167, kL168, kA168, kS168, kL169, kA169, kS169, kC170, kG170, kP170, kR170_0, kR170_1, kR170_2, kL171, kA171, kS171, kL172, kA172, kS172, kL173, kA173, kS173, kC174, kG174, kP174, kR174_0, kR174_1, kR174_2, kR174_3, kR174_4, kL175, kA175, kS175, kL176, kA176, kS176, kL177, kA177, kS177, kL178, kA178, kS178, kL179, kC180, kG180, kP180, kL181, kL182, kA182, kS182, kC183, kG183, kP183, kR183_1, kR183_3, kR183_5, kR183_6, kR183_7, kR183_8, kR183_9, kR183_21, kR183_26, kR183_27, kR183_30, kR183_31, kR183_33, kR183_34, kR183_36, kR183_37, kR183_38, kR183_39, kR183_40, kR183_41, kR183_42, kR183_43, kR183_44, kL184, kA184, kS184, kL185, kA185, kS185, kL186, kA186, kS186, kL187, kA187, kS187, kL188, kA188, kS188, kL189, kL190, kL191, kA191, kS191, kL192, kA192, kS192, kL193, kA193, kS193, kL194, kA194, kS194, kL195, kA195, kS195, kL196, kA196, kS196, kL197, kA197, kS197, kL198, kA198, kS198, kL199, kA199, kS199, kL200, kA200, kS200, kL201, kL202, kA202, kS202, kL203, kA203, kS203, kL204, kA204, kS204, kL205, kL206, kA206, kS206, hasSite_ok hS hG, hs, one0, square11_ok hS hG suA_16 H.now.1 hi]
    · show f_X12_square (xw σ (xI σ)) 183 (nI i) = _
      unfold f_X12_square
      simp (disch := first | assumption | omega) only [Option.bind_some, Option.map_some, xw_gR, xw_gN, xw_al, xw_ck, xw_uI, xw_ur, xup_at, xur_at, if_true, if_false, reduceIte, and_true, true_and, and_false, false_and, not_true_eq_false, not_false_eq_true, Nat.reduceEqDiff, eq_self, Nat.reduceAdd, Nat.reduceMul, kC1, kG1, kP1, kR1_0, kR1_1, kR1_2, kR1_3, kR1_4, kR1_5, kR1_6, kR1_7, kR1_8, kR1_9, kR1_10, kR1_11, kR1_12, kR1_13, kC2, kG2, kP2, kR2_0, kR2_1, kC3, kG3, kP3, kR3_0, kR3_1, kR3_2, kR3_3, kL4, kA4, kS4, kL5, kA5, kS5, kL6, kA6, kS6, kL7, kA7, kS7, kC8, kG8, kP8, kR8_0, kR8_1, kL9, kA9, kS9, kL10, kA10, kS10, kC11, kG11, kP11, kR11_0, kR11_1, kR11_2, kR11_3, kL12, kA12, kS12, kL13, kA13, kS13, kL14, kA14, kS14, kL15, kA15, kS15, kC16, kG16, kP16, kR16_0, kR16_1, kL17, kA17, kS17, kL18, kA18, kS18, kC19, kG19, kP19, kR19_0, kL20, kL141, kL146, kA146, kS146, kL151, kA151, kS151, kL156, kA156, kS156, kC157, kG157, kP157, kR157_0, kR157_1, kL158, kA158, kS158, kL159, kA159, kS159, kC161, kG161, kP161, kR161_0, kR161_1, kL162, kA162, kS162, kL163, kA163, kS163, kC165, kG165, kP165, kR165_0, kR165_1, kR165_2, kR165_3, kL166, kA166, kS166, kL167, kA167, kS167, kL168, kA168, kS168, kL169, kA169, kS169, kC170, kG170, kP170, kR170_0, kR170_1, kR170_2, kL171, kA171, kS171, kL172, kA172, kS172, kL173, kA173, kS173, kC174, kG174, kP174, kR174_0, kR174_1, kR174_2, kR174_3, kR174_4, kL175, kA175, kS175, kL176, kA176, kS176, kL177, kA177, kS177, kL178, kA178, kS178, kL179, kC180, kG180, kP180, kL181, kL182, kA182, kS182, kC183, kG183, kP183, kR183_1, kR183_3, kR183_5, kR183_6, kR183_7, kR183_8, kR183_9, kR183_21, kR183_26, kR183_27, kR183_30, kR183_31, kR183_33, kR183_34, kR183_36, kR183_37, kR183_38, kR183_39, kR183_40, kR183_41, kR183_42, kR183_43, kR183_44, kL184, kA184, kS184, kL185, kA185, kS185, kL186, kA186, kS186, kL187, kA187, kS187, kL188, kA188, kS188, kL189, kL190, kL191, kA191, kS191, kL192, kA192, kS192, kL193, kA193, kS193, kL194, kA194, kS194, kL195, kA195, kS195, kL196, kA196, kS196, kL197, kA197, kS197, kL198, kA198, kS198, kL199, kA199, kS199, kL200, kA200, kS200, kL201, kL202, kA202, kS202, kL203, kA203, kS203, kL204, kA204, kS204, kL205, kL206, kA206, kS206, isSite_ok hS hG, hs, one0, odd12_ok hS hG hi]
  · refine ⟨-1, ?_, ?_, g, gT, gP, st, H.nop⟩
    · show f_X11_square (xw σ (xI σ)) 1 x = _
      unfold f_X11_square
      simp (disch := first | assumption | omega) only [Option.bind_some, Option.map_some, xw_gR, xw_gN, xw_al, xw_ck, xw_uI, xw_ur, xup_at, xur_at, if_true, if_false, reduceIte, and_true, true_and, and_false, false_and, not_true_eq_false, not_false_eq_true, Nat.reduceEqDiff, eq_self, Nat.reduceAdd, Nat.reduceMul, kC1, kG1, kP1, kR1_0, kR1_1, kR1_2, kR1_3, kR1_4, kR1_5, kR1_6, kR1_7, kR1_8, kR1_9, kR1_10, kR1_11, kR1_12, kR1_13, kC2, kG2, kP2, kR2_0, kR2_1, kC3, kG3, kP3, kR3_0, kR3_1, kR3_2, kR3_3, kL4, kA4, kS4, kL5, kA5, kS5, kL6, kA6, kS6, kL7, kA7, kS7, kC8, kG8, kP8, kR8_0, kR8_1, kL9, kA9, kS9, kL10, kA10, kS10, kC11, kG11, kP11, kR11_0, kR11_1, kR11_2, kR11_3, kL12, kA12, kS12, kL13, kA13, kS13, kL14, kA14, kS14, kL15, kA15, kS15, kC16, kG16, kP16, kR16_0, kR16_1, kL17, kA17, kS17, kL18, kA18, kS18, kC19, kG19, kP19, kR19_0, kL20, kL141, kL146, kA146, kS146, kL151, kA151, kS151, kL156, kA156, kS156, kC157, kG157, kP157, kR157_0, kR157_1, kL158, kA158, kS158, kL159, kA159, kS159, kC161, kG161, kP161, kR161_0, kR161_1, kL162, kA162, kS162, kL163, kA163, kS163, kC165, kG165, kP165, kR165_0, kR165_1, kR165_2, kR165_3, kL166, kA166, kS166, kL167, kA167, kS167, kL168, kA168, kS168, kL169, kA169, kS169, kC170, kG170, kP170, kR170_0, kR170_1, kR170_2, kL171, kA171, kS171, kL172, kA172, kS172, kL173, kA173, kS173, kC174, kG174, kP174, kR174_0, kR174_1, kR174_2, kR174_3, kR174_4, kL175, kA175, kS175, kL176, kA176, kS176, kL177, kA177, kS177, kL178, kA178, kS178, kL179, kC180, kG180, kP180, kL181, kL182, kA182, kS182, kC183, kG183, kP183, kR183_1, kR183_3, kR183_5, kR183_6, kR183_7, kR183_8, kR183_9, kR183_21, kR183_26, kR183_27, kR183_30, kR183_31, kR183_33, kR183_34, kR183_36, kR183_37, kR183_38, kR183_39, kR183_40, kR183_41, kR183_42, kR183_43, kR183_44, kL184, kA184, kS184, kL185, kA185, kS185, kL186, kA186, kS186, kL187, kA187, kS187, kL188, kA188, kS188, kL189, kL190, kL191, kA191, kS191, kL192, kA192, kS192, kL193, kA193, kS193, kL194, kA194, kS194, kL195, kA195, kS195, kL196, kA196, kS196, kL197, kA197, kS197, kL198, kA198, kS198, kL199, kA199, kS199, kL200, kA200, kS200, kL201, kL202, kA202, kS202, kL203, kA203, kS203, kL204, kA204, kS204, kL205, kL206, kA206, kS206, hasSite_ok hS hG, hs]
      rfl
    · show f_X12_square (xw σ (xI σ)) 183 x = _
      unfold f_X12_square
      simp (disch := first | assumption | omega) only [Option.bind_some, Option.map_some, xw_gR, xw_gN, xw_al, xw_ck, xw_uI, xw_ur, xup_at, xur_at, if_true, if_false, reduceIte, and_true, true_and, and_false, false_and, not_true_eq_false, not_false_eq_true, Nat.reduceEqDiff, eq_self, Nat.reduceAdd, Nat.reduceMul, kC1, kG1, kP1, kR1_0, kR1_1, kR1_2, kR1_3, kR1_4, kR1_5, kR1_6, kR1_7, kR1_8, kR1_9, kR1_10, kR1_11, kR1_12, kR1_13, kC2, kG2, kP2, kR2_0, kR2_1, kC3, kG3, kP3, kR3_0, kR3_1, kR3_2, kR3_3, kL4, kA4, kS4, kL5, kA5, kS5, kL6, kA6, kS6, kL7, kA7, kS7, kC8, kG8, kP8, kR8_0, kR8_1, kL9, kA9, kS9, kL10, kA10, kS10, kC11, kG11, kP11, kR11_0, kR11_1, kR11_2, kR11_3, kL12, kA12, kS12, kL13, kA13, kS13, kL14, kA14, kS14, kL15, kA15, kS15, kC16, kG16, kP16, kR16_0, kR16_1, kL17, kA17, kS17, kL18, kA18, kS18, kC19, kG19, kP19, kR19_0, kL20, kL141, kL146, kA146, kS146, kL151, kA151, kS151, kL156, kA156, kS156, kC157, kG157, kP157, kR157_0, kR157_1, kL158, kA158, kS158, kL159, kA159, kS159, kC161, kG161, kP161, kR161_0, kR161_1, kL162, kA162, kS162, kL163, kA163, kS163, kC165, kG165, kP165, kR165_0, kR165_1, kR165_2, kR165_3, kL166, kA166, kS166, kL167, kA167, kS167, kL168, kA168, kS168, kL169, kA169, kS169, kC170, kG170, kP170, kR170_0, kR170_1, kR170_2, kL171, kA171, kS171, kL172, kA172, kS172, kL173, kA173, kS173, kC174, kG174, kP174, kR174_0, kR174_1, kR174_2, kR174_3, kR174_4, kL175, kA175, kS175, kL176, kA176, kS176, kL177, kA177, kS177, kL178, kA178, kS178, kL179, kC180, kG180, kP180, kL181, kL182, kA182, kS182, kC183, kG183, kP183, kR183_1, kR183_3, kR183_5, kR183_6, kR183_7, kR183_8, kR183_9, kR183_21, kR183_26, kR183_27, kR183_30, kR183_31, kR183_33, kR183_34, kR183_36, kR183_37, kR183_38, kR183_39, kR183_40, kR183_41, kR183_42, kR183_43, kR183_44, kL184, kA184, kS184, kL185, kA185, kS185, kL186, kA186, kS186, kL187, kA187, kS187, kL188, kA188, kS188, kL189, kL190, kL191, kA191, kS191, kL192, kA192, kS192, kL193, kA193, kS193, kL194, kA194, kS194, kL195, kA195, kS195, kL196, kA196, kS196, kL197, kA197, kS197, kL198, kA198, kS198, kL199, kA199, kS199, kL200, kA200, kS200, kL201, kL202, kA202, kS202, kL203, kA203, kS203, kL204, kA204, kS204, kL205, kL206, kA206, kS206, isSite_ok hS hG, hs]
      rfl
theorem costOf_ok {σ : XS} {I : Nat → Nat → Int32} {g : GD} (hS : Shp σ) (hG : GRD I g) {s i : Nat} (hs : s < 65536) (hi : i < gSz g) : f_X12_costOf (xw σ I) 183 (nI s) (nI i) = some (iI (eC g (zR (I 191)) s i)) := by
  have h16 := (gAll_b g hG.1).2.2.1
  have hx2 : s ^^^ 2 ^ i < 65536 := Nat.xor_lt_two_pow (n := 16) hs (Nat.pow_lt_pow_right (by decide) (by omega))
  have K : σ.1 191 = (20, 66) := xw_K hS (by decide) (by decide) (by decide)
  unfold f_X12_costOf
  simp (disch := first | assumption | omega) only [Option.bind_some, Option.map_some, xw_gR, xw_gN, xw_al, xw_ck, xw_uI, xw_ur, xup_at, xur_at, if_true, if_false, reduceIte, and_true, true_and, and_false, false_and, not_true_eq_false, not_false_eq_true, Nat.reduceEqDiff, eq_self, Nat.reduceAdd, Nat.reduceMul, kC1, kG1, kP1, kR1_0, kR1_1, kR1_2, kR1_3, kR1_4, kR1_5, kR1_6, kR1_7, kR1_8, kR1_9, kR1_10, kR1_11, kR1_12, kR1_13, kC2, kG2, kP2, kR2_0, kR2_1, kC3, kG3, kP3, kR3_0, kR3_1, kR3_2, kR3_3, kL4, kA4, kS4, kL5, kA5, kS5, kL6, kA6, kS6, kL7, kA7, kS7, kC8, kG8, kP8, kR8_0, kR8_1, kL9, kA9, kS9, kL10, kA10, kS10, kC11, kG11, kP11, kR11_0, kR11_1, kR11_2, kR11_3, kL12, kA12, kS12, kL13, kA13, kS13, kL14, kA14, kS14, kL15, kA15, kS15, kC16, kG16, kP16, kR16_0, kR16_1, kL17, kA17, kS17, kL18, kA18, kS18, kC19, kG19, kP19, kR19_0, kL20, kL141, kL146, kA146, kS146, kL151, kA151, kS151, kL156, kA156, kS156, kC157, kG157, kP157, kR157_0, kR157_1, kL158, kA158, kS158, kL159, kA159, kS159, kC161, kG161, kP161, kR161_0, kR161_1, kL162, kA162, kS162, kL163, kA163, kS163, kC165, kG165, kP165, kR165_0, kR165_1, kR165_2, kR165_3, kL166, kA166, kS166, kL167, kA167, kS167, kL168, kA168, kS168, kL169, kA169, kS169, kC170, kG170, kP170, kR170_0, kR170_1, kR170_2, kL171, kA171, kS171, kL172, kA172, kS172, kL173, kA173, kS173, kC174, kG174, kP174, kR174_0, kR174_1, kR174_2, kR174_3, kR174_4, kL175, kA175, kS175, kL176, kA176, kS176, kL177, kA177, kS177, kL178, kA178, kS178, kL179, kC180, kG180, kP180, kL181, kL182, kA182, kS182, kC183, kG183, kP183, kR183_1, kR183_3, kR183_5, kR183_6, kR183_7, kR183_8, kR183_9, kR183_21, kR183_26, kR183_27, kR183_30, kR183_31, kR183_33, kR183_34, kR183_36, kR183_37, kR183_38, kR183_39, kR183_40, kR183_41, kR183_42, kR183_43, kR183_44, kL184, kA184, kS184, kL185, kA185, kS185, kL186, kA186, kS186, kL187, kA187, kS187, kL188, kA188, kS188, kL189, kL190, kL191, kA191, kS191, kL192, kA192, kS192, kL193, kA193, kS193, kL194, kA194, kS194, kL195, kA195, kS195, kL196, kA196, kS196, kL197, kA197, kS197, kL198, kA198, kS198, kL199, kA199, kS199, kL200, kA200, kS200, kL201, kL202, kA202, kS202, kL203, kA203, kS203, kL204, kA204, kS204, kL205, kL206, kA206, kS206, hG.2.2.2.2.2.2.2.2.2.1, nn_one, nn_xor, energy12_ok hS hG K (show s ^^^ 2 ^ i < 2147483648 by omega) (Nat.le_refl _), energy12_ok hS hG K (show s < 2147483648 by omega) (Nat.le_refl _)]
  rw [iI_sub]
  congr 2
  have e := eP_all hG.1 (zR (I 191))
  unfold gSz at e
  rw [e, e, eE_flip hG.1 _ hi]
  omega
theorem xsw_n {β : Type} {k : Nat} {as : List (Option β)} {d : Option β} (hk : k < 2147483648) : xsw (nI k) 0 as d = as.getD k d := by
  unfold xsw
  rw [nI_toInt hk, if_neg (by omega), show ((k : Int) - 0).toNat = k by omega, List.getD_eq_getElem?_getD]
theorem sw_c (v : Int32) (n : Nat) : (∃ k, k < n ∧ k < 2147483648 ∧ v = nI k) ∨ (∀ (β : Type) (as : List (Option β)) (d : Option β), as.length ≤ n → xsw v 0 as d = d) := by
  by_cases h0 : v < 0
  · right
    have h1 : v.toInt < 0 := (fa_lt _ _).mp h0
    intro β as d hl
    unfold xsw
    rw [if_pos h1]
  · obtain ⟨k, hk, rfl⟩ := nn_of h0
    by_cases hkn : k < n
    · exact .inl ⟨k, hkn, hk, rfl⟩
    · right
      intro β as d hl
      · rw [xsw_n hk, List.getD_eq_getElem?_getD, List.getElem?_eq_none (by omega)]
        rfl
theorem nn_rem2 {a b : Nat} (ha : a < 2147483648) (hb : b < 2147483648) : nI a - nI (a / b) * nI b = nI (a % b) := by
  rw [← nn_rem ha hb, nn_div ha hb]
theorem op_site : Op_site INV := by
  intro n σ hn ⟨g, gT, gP, st, H⟩ x v
  have hS := H.shp
  have hG := H.grd
  have h16 := (gAll_b g hG.1).2.2.1
  by_cases hs : isS g x = true
  · obtain ⟨i, hi, rfl⟩ := isS_t hs
    have hN := H.now
    obtain ⟨⟨e1, e2, ⟨p, u, e3, e4, e5, e6⟩, e7, -⟩, ⟨-, o2, ⟨b, o3, o4, o5⟩, -⟩, -⟩ := hN
    have hp : p < 65536 := Nat.lt_pow_two_of_testBit (n := 16) p (fun j hj => by rw [e5]; simp; omega)
    have hu : u < 65536 := Nat.lt_pow_two_of_testBit (n := 16) u (fun j hj => by rw [e6]; simp; omega)
    have hb : b < 65536 := Nat.lt_of_lt_of_le o3 (Nat.pow_le_pow_right (by decide) h16)
    have pa : (if p.testBit i then (if u.testBit i then (1 : Int32) else 2) else 0) = xI σ 191 (48 + i) := by
      rw [e5, e6]
      rcases (o2 i (by omega)).1 with z | z | z <;> rw [z] <;> simp [hi]
    have hw := gw0 g hG.1 (by omega)
    have hw4 := (gAll_b g hG.1).1
    have w1 : (nI g.1 ≤ 0) = False := eq_false (nI_nle hw (by omega))
    have w2 : xdz (nI g.1) = some () := by unfold xdz; rw [if_neg (nI_ne0 hw (by omega))]
    have t0 := tieTo_ok (b := 0) hS hG (by decide) hi
    have t1 := tieTo_ok (b := 1) hS hG (by decide) hi
    rw [show nI 0 = (0 : Int32) from rfl, Nat.mul_zero, Nat.add_zero] at t0
    rw [show nI 1 = (1 : Int32) from rfl, Nat.mul_one] at t1
    have p0 := tiePlace_ok (b := 0) hS hG (by decide) hi
    have p1 := tiePlace_ok (b := 1) hS hG (by decide) hi
    rw [show nI 0 = (0 : Int32) from rfl, Nat.mul_zero, Nat.add_zero] at p0
    rw [show nI 1 = (1 : Int32) from rfl, Nat.mul_one] at p1
    have A : f_X11_site (xw σ (xI σ)) 1 (nI i) v = xsw v 0 [some (nI (i / g.1)), some (nI (i % g.1)), some (xI σ 191 (32 + i)), some (xI σ 191 (48 + i)), some (if gTo g i = none then 100 else xI σ 191 i), some (if gTo g (i + 16) = none then 100 else xI σ 191 (i + 16)), some (nI (if b.testBit i then 1 else 0)), some (iI (eC g (zR (xI σ 191)) b i))] (some (-100000)) := by
      unfold f_X11_site f_X3_rowOf f_X3_columnOf f_X11_bondOrNoTie
      simp (disch := first | assumption | omega) only [Option.bind_some, Option.map_some, xw_gR, xw_gN, xw_al, xw_ck, xw_uI, xw_ur, xup_at, xur_at, if_true, if_false, reduceIte, and_true, true_and, and_false, false_and, not_true_eq_false, not_false_eq_true, Nat.reduceEqDiff, eq_self, Nat.reduceAdd, Nat.reduceMul, kC1, kG1, kP1, kR1_0, kR1_1, kR1_2, kR1_3, kR1_4, kR1_5, kR1_6, kR1_7, kR1_8, kR1_9, kR1_10, kR1_11, kR1_12, kR1_13, kC2, kG2, kP2, kR2_0, kR2_1, kC3, kG3, kP3, kR3_0, kR3_1, kR3_2, kR3_3, kL4, kA4, kS4, kL5, kA5, kS5, kL6, kA6, kS6, kL7, kA7, kS7, kC8, kG8, kP8, kR8_0, kR8_1, kL9, kA9, kS9, kL10, kA10, kS10, kC11, kG11, kP11, kR11_0, kR11_1, kR11_2, kR11_3, kL12, kA12, kS12, kL13, kA13, kS13, kL14, kA14, kS14, kL15, kA15, kS15, kC16, kG16, kP16, kR16_0, kR16_1, kL17, kA17, kS17, kL18, kA18, kS18, kC19, kG19, kP19, kR19_0, kL20, kL141, kL146, kA146, kS146, kL151, kA151, kS151, kL156, kA156, kS156, kC157, kG157, kP157, kR157_0, kR157_1, kL158, kA158, kS158, kL159, kA159, kS159, kC161, kG161, kP161, kR161_0, kR161_1, kL162, kA162, kS162, kL163, kA163, kS163, kC165, kG165, kP165, kR165_0, kR165_1, kR165_2, kR165_3, kL166, kA166, kS166, kL167, kA167, kS167, kL168, kA168, kS168, kL169, kA169, kS169, kC170, kG170, kP170, kR170_0, kR170_1, kR170_2, kL171, kA171, kS171, kL172, kA172, kS172, kL173, kA173, kS173, kC174, kG174, kP174, kR174_0, kR174_1, kR174_2, kR174_3, kR174_4, kL175, kA175, kS175, kL176, kA176, kS176, kL177, kA177, kS177, kL178, kA178, kS178, kL179, kC180, kG180, kP180, kL181, kL182, kA182, kS182, kC183, kG183, kP183, kR183_1, kR183_3, kR183_5, kR183_6, kR183_7, kR183_8, kR183_9, kR183_21, kR183_26, kR183_27, kR183_30, kR183_31, kR183_33, kR183_34, kR183_36, kR183_37, kR183_38, kR183_39, kR183_40, kR183_41, kR183_42, kR183_43, kR183_44, kL184, kA184, kS184, kL185, kA185, kS185, kL186, kA186, kS186, kL187, kA187, kS187, kL188, kA188, kS188, kL189, kL190, kL191, kA191, kS191, kL192, kA192, kS192, kL193, kA193, kS193, kL194, kA194, kS194, kL195, kA195, kS195, kL196, kA196, kS196, kL197, kA197, kS197, kL198, kA198, kS198, kL199, kA199, kS199, kL200, kA200, kS200, kL201, kL202, kA202, kS202, kL203, kA203, kS203, kL204, kA204, kS204, kL205, kL206, kA206, kS206, hasSite_ok hS hG, hs, one0, hG.2.1, w1, w2, nn_div, nn_rem2, field_SR hS suA_16 H.now.1 (show i < 16 by omega) hi, pinAt_ok hS suA_16 e3 hp e4 hu (show i < 32 by omega), pa, p0, p1, e7, o4, bitOf_ok (show b < 2147483648 by omega) (show i < 32 by omega), cost_ok hS hG suA_16 H.now.1 (show b < 2147483648 by omega) hi]
      have q0 : ∀ t, t < 32 → (if (if gTo g t = none then (-1 : Int32) else nI t) = -1 then some (100 : Int32) else (f_X6_bondAt (xw σ (xI σ)) 16 (if gTo g t = none then (-1 : Int32) else nI t)).bind fun v5 => some v5) = some (if gTo g t = none then 100 else xI σ 191 t) := by
        intro t ht
        cases he : gTo g t with
        | none => simp
        | some e =>
          simp only [reduceCtorEq, if_false, nn_m1 (show t < 2147483648 by omega)]
          rw [bond_SR hS suA_16 H.now.1 ht (by rw [he]; rfl)]
          rfl
      rw [q0 i (by omega), q0 (i + 16) (by omega), Option.bind_some, Option.bind_some]
    have B : f_X12_site (xw σ (xI σ)) 183 (nI i) v = xsw v 0 [some (nI (i / g.1)), some (nI (i % g.1)), some (xI σ 191 (32 + i)), some (xI σ 191 (48 + i)), some (if gTo g i = none then 100 else xI σ 191 i), some (if gTo g (i + 16) = none then 100 else xI σ 191 (i + 16)), some (nI (if b.testBit i then 1 else 0)), some (iI (eC g (zR (xI σ 191)) b i))] (some (-100000)) := by
      unfold f_X12_site
      simp (disch := first | assumption | omega) only [Option.bind_some, Option.map_some, xw_gR, xw_gN, xw_al, xw_ck, xw_uI, xw_ur, xup_at, xur_at, if_true, if_false, reduceIte, and_true, true_and, and_false, false_and, not_true_eq_false, not_false_eq_true, Nat.reduceEqDiff, eq_self, Nat.reduceAdd, Nat.reduceMul, kC1, kG1, kP1, kR1_0, kR1_1, kR1_2, kR1_3, kR1_4, kR1_5, kR1_6, kR1_7, kR1_8, kR1_9, kR1_10, kR1_11, kR1_12, kR1_13, kC2, kG2, kP2, kR2_0, kR2_1, kC3, kG3, kP3, kR3_0, kR3_1, kR3_2, kR3_3, kL4, kA4, kS4, kL5, kA5, kS5, kL6, kA6, kS6, kL7, kA7, kS7, kC8, kG8, kP8, kR8_0, kR8_1, kL9, kA9, kS9, kL10, kA10, kS10, kC11, kG11, kP11, kR11_0, kR11_1, kR11_2, kR11_3, kL12, kA12, kS12, kL13, kA13, kS13, kL14, kA14, kS14, kL15, kA15, kS15, kC16, kG16, kP16, kR16_0, kR16_1, kL17, kA17, kS17, kL18, kA18, kS18, kC19, kG19, kP19, kR19_0, kL20, kL141, kL146, kA146, kS146, kL151, kA151, kS151, kL156, kA156, kS156, kC157, kG157, kP157, kR157_0, kR157_1, kL158, kA158, kS158, kL159, kA159, kS159, kC161, kG161, kP161, kR161_0, kR161_1, kL162, kA162, kS162, kL163, kA163, kS163, kC165, kG165, kP165, kR165_0, kR165_1, kR165_2, kR165_3, kL166, kA166, kS166, kL167, kA167, kS167, kL168, kA168, kS168, kL169, kA169, kS169, kC170, kG170, kP170, kR170_0, kR170_1, kR170_2, kL171, kA171, kS171, kL172, kA172, kS172, kL173, kA173, kS173, kC174, kG174, kP174, kR174_0, kR174_1, kR174_2, kR174_3, kR174_4, kL175, kA175, kS175, kL176, kA176, kS176, kL177, kA177, kS177, kL178, kA178, kS178, kL179, kC180, kG180, kP180, kL181, kL182, kA182, kS182, kC183, kG183, kP183, kR183_1, kR183_3, kR183_5, kR183_6, kR183_7, kR183_8, kR183_9, kR183_21, kR183_26, kR183_27, kR183_30, kR183_31, kR183_33, kR183_34, kR183_36, kR183_37, kR183_38, kR183_39, kR183_40, kR183_41, kR183_42, kR183_43, kR183_44, kL184, kA184, kS184, kL185, kA185, kS185, kL186, kA186, kS186, kL187, kA187, kS187, kL188, kA188, kS188, kL189, kL190, kL191, kA191, kS191, kL192, kA192, kS192, kL193, kA193, kS193, kL194, kA194, kS194, kL195, kA195, kS195, kL196, kA196, kS196, kL197, kA197, kS197, kL198, kA198, kS198, kL199, kA199, kS199, kL200, kA200, kS200, kL201, kL202, kA202, kS202, kL203, kA203, kS203, kL204, kA204, kS204, kL205, kL206, kA206, kS206, isSite_ok hS hG, hs, one0, hG.2.2.2.2.2.2.2.2.1, w2, nn_div, nn_rem2, show (32 : Int32) = nI 32 from rfl, show (48 : Int32) = nI 48 from rfl, show (64 : Int32) = nI 64 from rfl, show (16 : Int32) = nI 16 from rfl, nn_add, t0, t1, o4, costOf_ok hS hG hb hi, nn_bit, Nat.add_comm 16 i, show (0 : Int32) + nI i = nI i by rw [show (0 : Int32) = nI 0 from rfl, nn_add, Nat.zero_add]]
      have q0 : ∀ t, t < 32 → (if 0 ≤ oI (gTo g t) then some (xI σ 191 t) else some (100 : Int32)) = some (if gTo g t = none then 100 else xI σ 191 t) := by
        intro t ht
        cases he : gTo g t with
        | none => rfl
        | some e =>
          have eb := gTo_s hG.1 ht e he
          rw [if_pos (show (0 : Int32) ≤ oI (some e) by show nI 0 ≤ nI e; rw [nn_le (by decide) (by omega)]; omega)]
          simp
      rw [q0 i (by omega), q0 (i + 16) (by omega)]
    rcases sw_c v 8 with ⟨k, hk, hk2, rfl⟩ | hd
    · obtain ⟨r, hr⟩ : ∃ r, xsw (nI k) 0 [some (nI (i / g.1)), some (nI (i % g.1)), some (xI σ 191 (32 + i)), some (xI σ 191 (48 + i)), some (if gTo g i = none then 100 else xI σ 191 i), some (if gTo g (i + 16) = none then 100 else xI σ 191 (i + 16)), some (nI (if b.testBit i then 1 else 0)), some (iI (eC g (zR (xI σ 191)) b i))] (some (-100000)) = some r := by
        rw [xsw_n hk2]
        rcases (show k = 0 ∨ k = 1 ∨ k = 2 ∨ k = 3 ∨ k = 4 ∨ k = 5 ∨ k = 6 ∨ k = 7 by omega) with rfl | rfl | rfl | rfl | rfl | rfl | rfl | rfl <;> exact ⟨_, rfl⟩
      exact ⟨r, A.trans hr, B.trans hr, g, gT, gP, st, H.nop⟩
    · exact ⟨-100000, A.trans (hd _ _ _ (Nat.le_refl 8)), B.trans (hd _ _ _ (Nat.le_refl 8)), g, gT, gP, st, H.nop⟩
  · refine ⟨-100000, ?_, ?_, g, gT, gP, st, H.nop⟩
    · show f_X11_site (xw σ (xI σ)) 1 x v = _
      unfold f_X11_site
      simp (disch := first | assumption | omega) only [Option.bind_some, Option.map_some, xw_gR, xw_gN, xw_al, xw_ck, xw_uI, xw_ur, xup_at, xur_at, if_true, if_false, reduceIte, and_true, true_and, and_false, false_and, not_true_eq_false, not_false_eq_true, Nat.reduceEqDiff, eq_self, Nat.reduceAdd, Nat.reduceMul, kC1, kG1, kP1, kR1_0, kR1_1, kR1_2, kR1_3, kR1_4, kR1_5, kR1_6, kR1_7, kR1_8, kR1_9, kR1_10, kR1_11, kR1_12, kR1_13, kC2, kG2, kP2, kR2_0, kR2_1, kC3, kG3, kP3, kR3_0, kR3_1, kR3_2, kR3_3, kL4, kA4, kS4, kL5, kA5, kS5, kL6, kA6, kS6, kL7, kA7, kS7, kC8, kG8, kP8, kR8_0, kR8_1, kL9, kA9, kS9, kL10, kA10, kS10, kC11, kG11, kP11, kR11_0, kR11_1, kR11_2, kR11_3, kL12, kA12, kS12, kL13, kA13, kS13, kL14, kA14, kS14, kL15, kA15, kS15, kC16, kG16, kP16, kR16_0, kR16_1, kL17, kA17, kS17, kL18, kA18, kS18, kC19, kG19, kP19, kR19_0, kL20, kL141, kL146, kA146, kS146, kL151, kA151, kS151, kL156, kA156, kS156, kC157, kG157, kP157, kR157_0, kR157_1, kL158, kA158, kS158, kL159, kA159, kS159, kC161, kG161, kP161, kR161_0, kR161_1, kL162, kA162, kS162, kL163, kA163, kS163, kC165, kG165, kP165, kR165_0, kR165_1, kR165_2, kR165_3, kL166, kA166, kS166, kL167, kA167, kS167, kL168, kA168, kS168, kL169, kA169, kS169, kC170, kG170, kP170, kR170_0, kR170_1, kR170_2, kL171, kA171, kS171, kL172, kA172, kS172, kL173, kA173, kS173, kC174, kG174, kP174, kR174_0, kR174_1, kR174_2, kR174_3, kR174_4, kL175, kA175, kS175, kL176, kA176, kS176, kL177, kA177, kS177, kL178, kA178, kS178, kL179, kC180, kG180, kP180, kL181, kL182, kA182, kS182, kC183, kG183, kP183, kR183_1, kR183_3, kR183_5, kR183_6, kR183_7, kR183_8, kR183_9, kR183_21, kR183_26, kR183_27, kR183_30, kR183_31, kR183_33, kR183_34, kR183_36, kR183_37, kR183_38, kR183_39, kR183_40, kR183_41, kR183_42, kR183_43, kR183_44, kL184, kA184, kS184, kL185, kA185, kS185, kL186, kA186, kS186, kL187, kA187, kS187, kL188, kA188, kS188, kL189, kL190, kL191, kA191, kS191, kL192, kA192, kS192, kL193, kA193, kS193, kL194, kA194, kS194, kL195, kA195, kS195, kL196, kA196, kS196, kL197, kA197, kS197, kL198, kA198, kS198, kL199, kA199, kS199, kL200, kA200, kS200, kL201, kL202, kA202, kS202, kL203, kA203, kS203, kL204, kA204, kS204, kL205, kL206, kA206, kS206, hasSite_ok hS hG, hs]
      rfl
    · show f_X12_site (xw σ (xI σ)) 183 x v = _
      unfold f_X12_site
      simp (disch := first | assumption | omega) only [Option.bind_some, Option.map_some, xw_gR, xw_gN, xw_al, xw_ck, xw_uI, xw_ur, xup_at, xur_at, if_true, if_false, reduceIte, and_true, true_and, and_false, false_and, not_true_eq_false, not_false_eq_true, Nat.reduceEqDiff, eq_self, Nat.reduceAdd, Nat.reduceMul, kC1, kG1, kP1, kR1_0, kR1_1, kR1_2, kR1_3, kR1_4, kR1_5, kR1_6, kR1_7, kR1_8, kR1_9, kR1_10, kR1_11, kR1_12, kR1_13, kC2, kG2, kP2, kR2_0, kR2_1, kC3, kG3, kP3, kR3_0, kR3_1, kR3_2, kR3_3, kL4, kA4, kS4, kL5, kA5, kS5, kL6, kA6, kS6, kL7, kA7, kS7, kC8, kG8, kP8, kR8_0, kR8_1, kL9, kA9, kS9, kL10, kA10, kS10, kC11, kG11, kP11, kR11_0, kR11_1, kR11_2, kR11_3, kL12, kA12, kS12, kL13, kA13, kS13, kL14, kA14, kS14, kL15, kA15, kS15, kC16, kG16, kP16, kR16_0, kR16_1, kL17, kA17, kS17, kL18, kA18, kS18, kC19, kG19, kP19, kR19_0, kL20, kL141, kL146, kA146, kS146, kL151, kA151, kS151, kL156, kA156, kS156, kC157, kG157, kP157, kR157_0, kR157_1, kL158, kA158, kS158, kL159, kA159, kS159, kC161, kG161, kP161, kR161_0, kR161_1, kL162, kA162, kS162, kL163, kA163, kS163, kC165, kG165, kP165, kR165_0, kR165_1, kR165_2, kR165_3, kL166, kA166, kS166, kL167, kA167, kS167, kL168, kA168, kS168, kL169, kA169, kS169, kC170, kG170, kP170, kR170_0, kR170_1, kR170_2, kL171, kA171, kS171, kL172, kA172, kS172, kL173, kA173, kS173, kC174, kG174, kP174, kR174_0, kR174_1, kR174_2, kR174_3, kR174_4, kL175, kA175, kS175, kL176, kA176, kS176, kL177, kA177, kS177, kL178, kA178, kS178, kL179, kC180, kG180, kP180, kL181, kL182, kA182, kS182, kC183, kG183, kP183, kR183_1, kR183_3, kR183_5, kR183_6, kR183_7, kR183_8, kR183_9, kR183_21, kR183_26, kR183_27, kR183_30, kR183_31, kR183_33, kR183_34, kR183_36, kR183_37, kR183_38, kR183_39, kR183_40, kR183_41, kR183_42, kR183_43, kR183_44, kL184, kA184, kS184, kL185, kA185, kS185, kL186, kA186, kS186, kL187, kA187, kS187, kL188, kA188, kS188, kL189, kL190, kL191, kA191, kS191, kL192, kA192, kS192, kL193, kA193, kS193, kL194, kA194, kS194, kL195, kA195, kS195, kL196, kA196, kS196, kL197, kA197, kS197, kL198, kA198, kS198, kL199, kA199, kS199, kL200, kA200, kS200, kL201, kL202, kA202, kS202, kL203, kA203, kS203, kL204, kA204, kS204, kL205, kL206, kA206, kS206, isSite_ok hS hG, hs]
      rfl
end
section
/-! sites come in one by one -/
def lwM (g : GD) (F : Nat → Int) (i : Nat) : List (Nat × Nat) := (gMt g i).filter (fun q => decide (q.1 < i) && decide (F q.2 ≠ 0))
def plS (g : GD) (F : Nat → Int) (i s : Nat) : Int := F (32 + i) + ((lwM g F i).map (fun q => if s.testBit q.1 then F q.2 else -F q.2)).sum
theorem eP_step {g : GD} (hg : g ∈ gAll) (F : Nat → Int) {i s s' : Nat} (hi : i < gSz g) (hb : ∀ j, j < i → s'.testBit j = s.testBit j) : eP g F (i + 1) s' = eP g F i s + (if s'.testBit i then -plS g F i s else plS g F i s) := by
  have h16 := (gAll_b g hg).2.2.1
  have h1 : fb_si (eH F s') (i + 1) = fb_si (eH F s) i + (if s'.testBit i then -F (32 + i) else F (32 + i)) := by
    rw [fb_si_succ]
    congr 1
    apply fb_si_cong
    intro k hk
    unfold eH
    rw [hb k hk]
  have h2 : fb_si (fun t => if gIn g (i + 1) t then eT g F s' t else 0) 32 = fb_si (fun t => if gIn g i t then eT g F s t else 0) 32 + (if s'.testBit i then (-1 : Int) else 1) * ((lwM g F i).map (fun q => if s.testBit q.1 then F q.2 else -F q.2)).sum := by
    unfold lwM gMt
    rw [List.filter_flatMap, lsum_flat, ← fb_si_mul, ← fb_si_add]
    apply fb_si_cong
    intro t ht
    unfold gIn eT
    cases he : gTo g t with
    | none => simp
    | some e =>
      have hne := (gTo_b g hg t ht e he).2.2
      dsimp only
      by_cases q1 : gFr t = i
      · have q2 : ¬ e = i := fun z => hne (q1.trans z.symm)
        rw [if_pos q1, q1]
        by_cases q3 : e < i
        · have q4 : e < i + 1 := by omega
          by_cases q5 : F t = 0
          · simp [q3, q4, q5]
          · simp [q3, q4, q5, hb e q3]
            cases s'.testBit i <;> cases s.testBit e <;> simp
        · have q4 : ¬ e < i + 1 := by omega
          simp [q3, q4]
      · rw [if_neg q1]
        by_cases q2 : e = i
        · rw [if_pos q2, q2]
          by_cases q3 : gFr t < i
          · have q4 : gFr t < i + 1 := by omega
            by_cases q5 : F t = 0
            · simp [q3, q4, q5]
            · simp [q3, q4, q5, hb _ q3]
              cases s'.testBit i <;> cases s.testBit (gFr t) <;> simp
          · have q4 : ¬ gFr t < i + 1 := by omega
            simp [q3, q4]
        · rw [if_neg q2]
          have e1 : (gFr t < i + 1) ↔ (gFr t < i) := by omega
          have e2 : (e < i + 1) ↔ (e < i) := by omega
          simp only [e1, e2]
          by_cases q3 : gFr t < i ∧ e < i
          · simp [q3, hb _ q3.1, hb _ q3.2]
          · by_cases q4 : gFr t < i
            · have : ¬ e < i := fun z => q3 ⟨q4, z⟩
              simp [q4, this]
            · simp [q4]
  unfold eP plS
  rw [h1, h2]
  cases s'.testBit i <;> simp <;> omega
theorem eP_lo {g : GD} (hg : g ∈ gAll) (F : Nat → Int) {i s : Nat} (hi : i < gSz g) (hs : s < 2 ^ i) : eP g F (i + 1) s = eP g F i s + plS g F i s := by
  rw [eP_step hg F hi (fun j _ => rfl), Nat.testBit_lt_two_pow hs]
  simp
theorem eP_hi {g : GD} (hg : g ∈ gAll) (F : Nat → Int) {i s : Nat} (hi : i < gSz g) (hs : s < 2 ^ i) : eP g F (i + 1) (2 ^ i + s) = eP g F i s - plS g F i s := by
  have e : (2 ^ i + s).testBit i = true := by
    rw [Nat.testBit_two_pow_add_eq, Nat.testBit_lt_two_pow hs]; rfl
  rw [eP_step hg F (s := s) hi (fun j hj => Nat.testBit_two_pow_add_gt hj s), e]
  simp
  omega
/-- what lies below the lowest mate doesn't matter -/
theorem plS_block {g : GD} {F : Nat → Int} {i b r lo : Nat} (hlo : ∀ q ∈ lwM g F i, lo ≤ q.1) (hr : r < 2 ^ lo) : plS g F i (b * 2 ^ lo + r) = plS g F i (b * 2 ^ lo) := by
  unfold plS
  congr 2
  apply List.map_congr_left
  intro q hq
  have h := hlo q hq
  have e : (b * 2 ^ lo + r).testBit q.1 = (b * 2 ^ lo).testBit q.1 := by
    rw [Nat.mul_comm b, Nat.testBit_two_pow_mul_add b hr, Nat.testBit_two_pow_mul]
    have h2 : ¬ q.1 < lo := by omega
    simp [h2, h]
  rw [e]
theorem eP_congr {g : GD} (hg : g ∈ gAll) {F G : Nat → Int} {k s : Nat} (hk : k ≤ gSz g) (h1 : ∀ t, t < 32 → (gTo g t).isSome = true → F t = G t) (h2 : ∀ i, i < gSz g → F (32 + i) = G (32 + i)) : eP g F k s = eP g G k s := by
  unfold eP
  congr 1
  · apply fb_si_cong
    intro t ht
    unfold eT
    cases he : gTo g t with
    | none => simp
    | some e => simp only [h1 t ht (by rw [he]; rfl)]
  · apply fb_si_cong
    intro i hi
    unfold eH
    rw [h2 i (by omega)]
end
section
/-! the class's energies on the heap: the mates below a site -/
def low (i : Nat) (L : List (Nat × Nat)) : Nat := L.foldl (fun a q => min a q.1) i
theorem low_s (i : Nat) (L : List (Nat × Nat)) (q : Nat × Nat) : low i (L ++ [q]) = min (low i L) q.1 := by
  unfold low
  rw [List.foldl_append]
  rfl
theorem low_le : ∀ (L : List (Nat × Nat)) (i : Nat), low i L ≤ i ∧ ∀ q ∈ L, low i L ≤ q.1 := by
  intro L
  induction L with
  | nil => intro i; exact ⟨Nat.le_refl _, fun q hq => by cases hq⟩
  | cons x L ih =>
    intro i
    have h := ih (min i x.1)
    have e : low i (x :: L) = low (min i x.1) L := rfl
    rw [e]
    refine ⟨by omega, fun q hq => ?_⟩
    rcases List.mem_cons.mp hq with z | z
    · rw [z]; omega
    · exact h.2 q z
def slI (I : Nat → Nat → Int32) (E i : Nat) (F : Nat → Int) (L : List (Nat × Nat)) : Nat → Nat → Int32 := fun c k => if c = E ∧ k = 2 then nI L.length else if c = E ∧ k = 3 then nI (low i L) else if c = E + 1 ∧ k < L.length then nI (L.getD k (0, 0)).1 else if c = E + 2 ∧ k < L.length then iI (F (L.getD k (0, 0)).2) else I c k
theorem slI_out {I : Nat → Nat → Int32} {E i : Nat} {F : Nat → Int} {L : List (Nat × Nat)} {c k : Nat} (h : c < E ∨ E + 2 < c) : slI I E i F L c k = I c k := by
  unfold slI
  rw [if_neg (by omega), if_neg (by omega), if_neg (by omega), if_neg (by omega)]
theorem slI_ot {I : Nat → Nat → Int32} {E i : Nat} {F : Nat → Int} {L : List (Nat × Nat)} {k : Nat} (h : k ≠ 2) (h2 : k ≠ 3) : slI I E i F L E k = I E k := by
  unfold slI
  rw [if_neg (by omega), if_neg (by omega), if_neg (by omega), if_neg (by omega)]
theorem slI_2 {I : Nat → Nat → Int32} {E i : Nat} {F : Nat → Int} {L : List (Nat × Nat)} : slI I E i F L E 2 = nI L.length := by
  unfold slI; rw [if_pos ⟨rfl, rfl⟩]
theorem slI_3 {I : Nat → Nat → Int32} {E i : Nat} {F : Nat → Int} {L : List (Nat × Nat)} : slI I E i F L E 3 = nI (low i L) := by
  unfold slI; rw [if_neg (by omega), if_pos ⟨rfl, rfl⟩]
theorem slI_a {I : Nat → Nat → Int32} {E i : Nat} {F : Nat → Int} {L : List (Nat × Nat)} {k : Nat} (h : k < L.length) : slI I E i F L (E + 1) k = nI (L.getD k (0, 0)).1 := by
  unfold slI; rw [if_neg (by omega), if_neg (by omega), if_pos ⟨rfl, h⟩]
theorem slI_b {I : Nat → Nat → Int32} {E i : Nat} {F : Nat → Int} {L : List (Nat × Nat)} {k : Nat} (h : k < L.length) : slI I E i F L (E + 2) k = iI (F (L.getD k (0, 0)).2) := by
  unfold slI; rw [if_neg (by omega), if_neg (by omega), if_neg (by omega), if_pos ⟨rfl, h⟩]
theorem getD_app {α : Type} (L : List α) (q d : α) (k : Nat) : (L ++ [q]).getD k d = if k < L.length then L.getD k d else if k = L.length then q else d := by
  rw [List.getD_eq_getElem?_getD, List.getD_eq_getElem?_getD]
  by_cases h : k < L.length
  · rw [if_pos h, List.getElem?_append_left h]
  · rw [if_neg h, List.getElem?_append_right (by omega)]
    by_cases h2 : k = L.length
    · rw [if_pos h2, h2, Nat.sub_self]; rfl
    · rw [if_neg h2, List.getElem?_eq_none (by simp; omega)]; rfl
theorem slI_s {I : Nat → Nat → Int32} {E i : Nat} {F : Nat → Int} {L : List (Nat × Nat)} {q : Nat × Nat} : xup (xup (xup (xup (slI I E i F L) (E + 1) L.length (nI q.1)) (E + 2) L.length (iI (F q.2))) E 2 (nI (L.length + 1))) E 3 (nI (min (low i L) q.1)) = slI I E i F (L ++ [q]) := by
  funext c k
  simp only [xup_at, slI, low_s, List.length_append, List.length_singleton, getD_app]
  by_cases h0 : c = E
  · subst h0
    by_cases h2 : k = 2
    · simp [h2]
    · by_cases h3 : k = 3
      · simp [h3]
      · simp [h2, h3]
  · by_cases h1 : c = E + 1
    · subst h1
      by_cases h2 : k = L.length
      · simp [h2]
      · by_cases h3 : k < L.length
        · have : k < L.length + 1 := by omega
          simp [h2, h3, this]
        · have : ¬ k < L.length + 1 := by omega
          simp [h2, h3, this]
    · by_cases h4 : c = E + 2
      · subst h4
        by_cases h2 : k = L.length
        · simp [h2]
        · by_cases h3 : k < L.length
          · have : k < L.length + 1 := by omega
            simp [h2, h3, this]
          · have : ¬ k < L.length + 1 := by omega
            simp [h2, h3, this]
      · simp [h0, h1, h4]
/-- an object of energies, and where its row lies -/
def EnO (σ : XS) (E c m : Nat) : Prop := (E = 157 ∨ E = 161) ∧ xR σ E 4 = c ∧ σ.1 c = (20, m) ∧ m ≤ 65536 ∧ (c = E + 3 ∨ 206 < c)
section ENO
variable {σ : XS} {I : Nat → Nat → Int32} {E c m : Nat}
theorem EnO.T (h : EnO σ E c m) (hS : Shp σ) : xT σ E = 2 := by
  rcases h.1 with rfl | rfl
  · exact sT157 hS
  · exact sT161 hS
theorem EnO.R0 (h : EnO σ E c m) (hS : Shp σ) : xgR σ E 2 0 = some (E + 1) := by
  rcases h.1 with rfl | rfl
  · exact kR157_0 hS
  · exact kR161_0 hS
theorem EnO.R1 (h : EnO σ E c m) (hS : Shp σ) : xgR σ E 2 1 = some (E + 2) := by
  rcases h.1 with rfl | rfl
  · exact kR157_1 hS
  · exact kR161_1 hS
theorem EnO.R4 (h : EnO σ E c m) (hS : Shp σ) : xgR σ E 2 4 = some c := by
  refine xgR_to (h.T hS) h.2.1 ?_
  rcases h.1 with q | q <;> rcases h.2.2.2.2 with z | z <;> omega
theorem EnO.K1 (h : EnO σ E c m) (hS : Shp σ) : σ.1 (E + 1) = (20, 4) := by
  rcases h.1 with rfl | rfl
  · exact xw_K hS (by decide) (by decide) (by decide)
  · exact xw_K hS (by decide) (by decide) (by decide)
theorem EnO.K2 (h : EnO σ E c m) (hS : Shp σ) : σ.1 (E + 2) = (20, 4) := by
  rcases h.1 with rfl | rfl
  · exact xw_K hS (by decide) (by decide) (by decide)
  · exact xw_K hS (by decide) (by decide) (by decide)
theorem EnO.L (h : EnO σ E c m) : xal σ c = some (nI m) := by
  rw [xal_ok (by unfold xT; rw [h.2.2.1]; exact ⟨Nat.le_refl 20, (by decide : 20 ≤ 25)⟩)]
  unfold xlen
  rw [h.2.2.1]
theorem EnO.b (h : EnO σ E c m) : E = 157 ∧ (c = 160 ∨ 206 < c) ∨ E = 161 ∧ (c = 164 ∨ 206 < c) := by
  rcases h.1 with q | q <;> rcases h.2.2.2.2 with z | z <;> omega
theorem see_ok (hS : Shp σ) {g : GD} (hG : GRD I g) (hE : EnO σ E c m) {B i : Nat} {F : Nat → Int} (hB : σ.1 B = (20, 32)) (hBo : B < E ∨ E + 2 < B) (hi : i < gSz g)
    (hF : ∀ t, t < 32 → (gTo g t).isSome = true → I B t = iI (F t) ∧ -3 ≤ F t ∧ F t ≤ 3) : f_X2_seeLowerMates (xw σ I) E 11 B (nI i) = some (xw σ (slI I E i F (lwM g F i))) := by
  have h16 := (gAll_b g hG.1).2.2.1
  have hm := gMt_b g hG.1 i (by omega)
  have hEb := hE.b
  have hC := hG.2.2.2.2.2.2.1 i (by omega)
  unfold f_X2_seeLowerMates
  rw [xw_pI (hE.T hS), Option.bind_some, xw_pI (hE.T hS), Option.bind_some]
  refine xforE (fun j : Nat => (nI j, xw σ (slI I E i F (((gMt g i).take j).filter (fun q => decide (q.1 < i) && decide (F q.2 ≠ 0)))))) (gMt g i).length ?_ (fun j hj => ?_) ?_
  · congr 2
    funext c k
    simp only [xup_at, slI, List.take_zero, List.filter_nil, List.length_nil, low, List.foldl_nil]
    by_cases h0 : c = E ∧ k = 3
    · simp [h0]
    · by_cases h1 : c = E ∧ k = 2
      · simp [h1]; rfl
      · simp [h0, h1]
  · obtain ⟨L, hL⟩ : ∃ L, L = ((gMt g i).take j).filter (fun q => decide (q.1 < i) && decide (F q.2 ≠ 0)) := ⟨_, rfl⟩
    obtain ⟨q, hq⟩ : ∃ q, q = (gMt g i).getD j (0, 0) := ⟨_, rfl⟩
    have hqe : (gMt g i)[j] = q := by rw [hq, List.getD_eq_getElem?_getD, List.getElem?_eq_getElem hj]; rfl
    have hqm : q ∈ gMt g i := by rw [← hqe]; exact List.getElem_mem hj
    have hqb := hm.2 q hqm
    have hLl : L.length ≤ j := by
      rw [hL]
      refine Nat.le_trans (List.length_filter_le _ _) ?_
      rw [List.length_take]
      omega
    have hnx : ((gMt g i).take (j + 1)).filter (fun q => decide (q.1 < i) && decide (F q.2 ≠ 0)) = if q.1 < i ∧ F q.2 ≠ 0 then L ++ [q] else L := by
      rw [List.take_succ_eq_append_getElem hj, List.filter_append, ← hL, hqe]
      by_cases hp : q.1 < i ∧ F q.2 ≠ 0
      · rw [if_pos hp]
        simp [List.filter_cons, hp.1, hp.2]
      · rw [if_neg hp]
        have : (decide (q.1 < i) && decide (F q.2 ≠ 0)) = false := by
          rw [Bool.and_eq_false_iff, decide_eq_false_iff_not, decide_eq_false_iff_not]
          by_cases z : q.1 < i
          · exact .inr (fun w => hp ⟨z, w⟩)
          · exact .inl z
        simp only [List.filter_cons, this, List.filter_nil]
        simp
    simp only [f_X2_seeLowerMates_b13, hnx, ← hL]
    have hm2 := hG.2.2.2.2.2.2.2.1 i j (by omega) hj
    rw [← hq] at hm2
    have hFq := hF q.2 hqb.2.1 hqb.2.2.2
    have hBl : xal σ B = some (nI 32) := by
      rw [xal_ok (by unfold xT; rw [hB]; decide)]
      unfold xlen
      rw [hB]
    have z0 : (iI (F q.2) = 0) = (F q.2 = 0) := iI_eq (b := 0) (by omega) (by omega) (by omega) (by omega)
    rw [if_neg (by rw [show (4 : Int32) = nI 4 from rfl, nn_le (by omega) (by omega)]; omega)]
    simp (disch := first | assumption | omega) only [Option.bind_some, Option.map_some, xw_gR, xw_gN, xw_al, xw_ck, xw_uI, xw_ur, xup_at, xur_at, if_true, if_false, reduceIte, and_true, true_and, and_false, false_and, not_true_eq_false, not_false_eq_true, Nat.reduceEqDiff, eq_self, Nat.reduceAdd, Nat.reduceMul, kC1, kG1, kP1, kR1_0, kR1_1, kR1_2, kR1_3, kR1_4, kR1_5, kR1_6, kR1_7, kR1_8, kR1_9, kR1_10, kR1_11, kR1_12, kR1_13, kC2, kG2, kP2, kR2_0, kR2_1, kC3, kG3, kP3, kR3_0, kR3_1, kR3_2, kR3_3, kL4, kA4, kS4, kL5, kA5, kS5, kL6, kA6, kS6, kL7, kA7, kS7, kC8, kG8, kP8, kR8_0, kR8_1, kL9, kA9, kS9, kL10, kA10, kS10, kC11, kG11, kP11, kR11_0, kR11_1, kR11_2, kR11_3, kL12, kA12, kS12, kL13, kA13, kS13, kL14, kA14, kS14, kL15, kA15, kS15, kC16, kG16, kP16, kR16_0, kR16_1, kL17, kA17, kS17, kL18, kA18, kS18, kC19, kG19, kP19, kR19_0, kL20, kL141, kL146, kA146, kS146, kL151, kA151, kS151, kL156, kA156, kS156, kC157, kG157, kP157, kR157_0, kR157_1, kL158, kA158, kS158, kL159, kA159, kS159, kC161, kG161, kP161, kR161_0, kR161_1, kL162, kA162, kS162, kL163, kA163, kS163, kC165, kG165, kP165, kR165_0, kR165_1, kR165_2, kR165_3, kL166, kA166, kS166, kL167, kA167, kS167, kL168, kA168, kS168, kL169, kA169, kS169, kC170, kG170, kP170, kR170_0, kR170_1, kR170_2, kL171, kA171, kS171, kL172, kA172, kS172, kL173, kA173, kS173, kC174, kG174, kP174, kR174_0, kR174_1, kR174_2, kR174_3, kR174_4, kL175, kA175, kS175, kL176, kA176, kS176, kL177, kA177, kS177, kL178, kA178, kS178, kL179, kC180, kG180, kP180, kL181, kL182, kA182, kS182, kC183, kG183, kP183, kR183_1, kR183_3, kR183_5, kR183_6, kR183_7, kR183_8, kR183_9, kR183_21, kR183_26, kR183_27, kR183_30, kR183_31, kR183_33, kR183_34, kR183_36, kR183_37, kR183_38, kR183_39, kR183_40, kR183_41, kR183_42, kR183_43, kR183_44, kL184, kA184, kS184, kL185, kA185, kS185, kL186, kA186, kS186, kL187, kA187, kS187, kL188, kA188, kS188, kL189, kL190, kL191, kA191, kS191, kL192, kA192, kS192, kL193, kA193, kS193, kL194, kA194, kS194, kL195, kA195, kS195, kL196, kA196, kS196, kL197, kA197, kS197, kL198, kA198, kS198, kL199, kA199, kS199, kL200, kA200, kS200, kL201, kL202, kA202, kS202, kL203, kA203, kS203, kL204, kA204, kS204, kL205, kL206, kA206, kS206, slI_out, hC, nn_le, show ¬ ((gMt g i).length ≤ j) by omega, show (4 : Int32) = nI 4 from rfl, nn_mul, nn_add, hm2.1, hm2.2]
    by_cases h1 : i ≤ q.1
    · rw [if_pos h1, if_neg (by omega), nI_succ]
    · rw [if_neg h1, if_neg (nI_pos (by omega)), hBl]
      simp (disch := first | assumption | omega) only [Option.bind_some, Option.map_some, xw_gR, xw_gN, xw_al, xw_ck, xw_uI, xw_ur, xup_at, xur_at, if_true, if_false, reduceIte, and_true, true_and, and_false, false_and, not_true_eq_false, not_false_eq_true, Nat.reduceEqDiff, eq_self, Nat.reduceAdd, Nat.reduceMul, kC1, kG1, kP1, kR1_0, kR1_1, kR1_2, kR1_3, kR1_4, kR1_5, kR1_6, kR1_7, kR1_8, kR1_9, kR1_10, kR1_11, kR1_12, kR1_13, kC2, kG2, kP2, kR2_0, kR2_1, kC3, kG3, kP3, kR3_0, kR3_1, kR3_2, kR3_3, kL4, kA4, kS4, kL5, kA5, kS5, kL6, kA6, kS6, kL7, kA7, kS7, kC8, kG8, kP8, kR8_0, kR8_1, kL9, kA9, kS9, kL10, kA10, kS10, kC11, kG11, kP11, kR11_0, kR11_1, kR11_2, kR11_3, kL12, kA12, kS12, kL13, kA13, kS13, kL14, kA14, kS14, kL15, kA15, kS15, kC16, kG16, kP16, kR16_0, kR16_1, kL17, kA17, kS17, kL18, kA18, kS18, kC19, kG19, kP19, kR19_0, kL20, kL141, kL146, kA146, kS146, kL151, kA151, kS151, kL156, kA156, kS156, kC157, kG157, kP157, kR157_0, kR157_1, kL158, kA158, kS158, kL159, kA159, kS159, kC161, kG161, kP161, kR161_0, kR161_1, kL162, kA162, kS162, kL163, kA163, kS163, kC165, kG165, kP165, kR165_0, kR165_1, kR165_2, kR165_3, kL166, kA166, kS166, kL167, kA167, kS167, kL168, kA168, kS168, kL169, kA169, kS169, kC170, kG170, kP170, kR170_0, kR170_1, kR170_2, kL171, kA171, kS171, kL172, kA172, kS172, kL173, kA173, kS173, kC174, kG174, kP174, kR174_0, kR174_1, kR174_2, kR174_3, kR174_4, kL175, kA175, kS175, kL176, kA176, kS176, kL177, kA177, kS177, kL178, kA178, kS178, kL179, kC180, kG180, kP180, kL181, kL182, kA182, kS182, kC183, kG183, kP183, kR183_1, kR183_3, kR183_5, kR183_6, kR183_7, kR183_8, kR183_9, kR183_21, kR183_26, kR183_27, kR183_30, kR183_31, kR183_33, kR183_34, kR183_36, kR183_37, kR183_38, kR183_39, kR183_40, kR183_41, kR183_42, kR183_43, kR183_44, kL184, kA184, kS184, kL185, kA185, kS185, kL186, kA186, kS186, kL187, kA187, kS187, kL188, kA188, kS188, kL189, kL190, kL191, kA191, kS191, kL192, kA192, kS192, kL193, kA193, kS193, kL194, kA194, kS194, kL195, kA195, kS195, kL196, kA196, kS196, kL197, kA197, kS197, kL198, kA198, kS198, kL199, kA199, kS199, kL200, kA200, kS200, kL201, kL202, kA202, kS202, kL203, kA203, kS203, kL204, kA204, kS204, kL205, kL206, kA206, kS206, nn_le, show ¬ (32 ≤ q.2) by omega, xw_aI hB hqb.2.1 (by decide), slI_out hBo, hFq.1, z0]
      by_cases h2 : F q.2 = 0
      · rw [if_pos h2, if_neg (fun z => z.2 h2), nI_succ]
      · rw [if_neg h2, if_pos ⟨by omega, h2⟩]
        have e1 : L.length < 4 := by omega
        simp (disch := first | assumption | omega) only [Option.bind_some, Option.map_some, xw_gR, xw_gN, xw_al, xw_ck, xw_uI, xw_ur, xup_at, xur_at, if_true, if_false, reduceIte, and_true, true_and, and_false, false_and, not_true_eq_false, not_false_eq_true, Nat.reduceEqDiff, eq_self, Nat.reduceAdd, Nat.reduceMul, kC1, kG1, kP1, kR1_0, kR1_1, kR1_2, kR1_3, kR1_4, kR1_5, kR1_6, kR1_7, kR1_8, kR1_9, kR1_10, kR1_11, kR1_12, kR1_13, kC2, kG2, kP2, kR2_0, kR2_1, kC3, kG3, kP3, kR3_0, kR3_1, kR3_2, kR3_3, kL4, kA4, kS4, kL5, kA5, kS5, kL6, kA6, kS6, kL7, kA7, kS7, kC8, kG8, kP8, kR8_0, kR8_1, kL9, kA9, kS9, kL10, kA10, kS10, kC11, kG11, kP11, kR11_0, kR11_1, kR11_2, kR11_3, kL12, kA12, kS12, kL13, kA13, kS13, kL14, kA14, kS14, kL15, kA15, kS15, kC16, kG16, kP16, kR16_0, kR16_1, kL17, kA17, kS17, kL18, kA18, kS18, kC19, kG19, kP19, kR19_0, kL20, kL141, kL146, kA146, kS146, kL151, kA151, kS151, kL156, kA156, kS156, kC157, kG157, kP157, kR157_0, kR157_1, kL158, kA158, kS158, kL159, kA159, kS159, kC161, kG161, kP161, kR161_0, kR161_1, kL162, kA162, kS162, kL163, kA163, kS163, kC165, kG165, kP165, kR165_0, kR165_1, kR165_2, kR165_3, kL166, kA166, kS166, kL167, kA167, kS167, kL168, kA168, kS168, kL169, kA169, kS169, kC170, kG170, kP170, kR170_0, kR170_1, kR170_2, kL171, kA171, kS171, kL172, kA172, kS172, kL173, kA173, kS173, kC174, kG174, kP174, kR174_0, kR174_1, kR174_2, kR174_3, kR174_4, kL175, kA175, kS175, kL176, kA176, kS176, kL177, kA177, kS177, kL178, kA178, kS178, kL179, kC180, kG180, kP180, kL181, kL182, kA182, kS182, kC183, kG183, kP183, kR183_1, kR183_3, kR183_5, kR183_6, kR183_7, kR183_8, kR183_9, kR183_21, kR183_26, kR183_27, kR183_30, kR183_31, kR183_33, kR183_34, kR183_36, kR183_37, kR183_38, kR183_39, kR183_40, kR183_41, kR183_42, kR183_43, kR183_44, kL184, kA184, kS184, kL185, kA185, kS185, kL186, kA186, kS186, kL187, kA187, kS187, kL188, kA188, kS188, kL189, kL190, kL191, kA191, kS191, kL192, kA192, kS192, kL193, kA193, kS193, kL194, kA194, kS194, kL195, kA195, kS195, kL196, kA196, kS196, kL197, kA197, kS197, kL198, kA198, kS198, kL199, kA199, kS199, kL200, kA200, kS200, kL201, kL202, kA202, kS202, kL203, kA203, kS203, kL204, kA204, kS204, kL205, kL206, kA206, kS206, hE.R0 hS, hE.R1 hS, xw_gI (hE.T hS), slI_2, xw_sI (hE.K1 hS) e1 (by decide), xw_sI (hE.K2 hS) e1 (by decide), xw_pI (hE.T hS), show ¬ (E = E + 1) by omega, show ¬ (E = E + 2) by omega, show ¬ (B = E + 1) by omega, xw_aI hB hqb.2.1 (by decide), slI_out hBo, hFq.1, slI_3, show (1 : Int32) = nI 1 from rfl, nn_add, show ¬ (3 = 2) by omega]
        have hlo : low i L ≤ i := (low_le L i).1
        rw [xmin_n (by omega) (by omega), slI_s]
  · simp only [f_X2_seeLowerMates_b13]
    have ha : ((gMt g i).take (gMt g i).length).filter (fun q => decide (q.1 < i) && decide (F q.2 ≠ 0)) = lwM g F i := by rw [List.take_length]; rfl
    rw [ha]
    by_cases h4 : (4 : Int32) ≤ nI (gMt g i).length
    · rw [if_pos h4]; rfl
    · rw [if_neg h4]
      have := hm.1
      simp (disch := first | assumption | omega) only [Option.bind_some, Option.map_some, xw_gR, xw_gN, xw_al, xw_ck, xw_uI, xw_ur, xup_at, xur_at, if_true, if_false, reduceIte, and_true, true_and, and_false, false_and, not_true_eq_false, not_false_eq_true, Nat.reduceEqDiff, eq_self, Nat.reduceAdd, Nat.reduceMul, kC1, kG1, kP1, kR1_0, kR1_1, kR1_2, kR1_3, kR1_4, kR1_5, kR1_6, kR1_7, kR1_8, kR1_9, kR1_10, kR1_11, kR1_12, kR1_13, kC2, kG2, kP2, kR2_0, kR2_1, kC3, kG3, kP3, kR3_0, kR3_1, kR3_2, kR3_3, kL4, kA4, kS4, kL5, kA5, kS5, kL6, kA6, kS6, kL7, kA7, kS7, kC8, kG8, kP8, kR8_0, kR8_1, kL9, kA9, kS9, kL10, kA10, kS10, kC11, kG11, kP11, kR11_0, kR11_1, kR11_2, kR11_3, kL12, kA12, kS12, kL13, kA13, kS13, kL14, kA14, kS14, kL15, kA15, kS15, kC16, kG16, kP16, kR16_0, kR16_1, kL17, kA17, kS17, kL18, kA18, kS18, kC19, kG19, kP19, kR19_0, kL20, kL141, kL146, kA146, kS146, kL151, kA151, kS151, kL156, kA156, kS156, kC157, kG157, kP157, kR157_0, kR157_1, kL158, kA158, kS158, kL159, kA159, kS159, kC161, kG161, kP161, kR161_0, kR161_1, kL162, kA162, kS162, kL163, kA163, kS163, kC165, kG165, kP165, kR165_0, kR165_1, kR165_2, kR165_3, kL166, kA166, kS166, kL167, kA167, kS167, kL168, kA168, kS168, kL169, kA169, kS169, kC170, kG170, kP170, kR170_0, kR170_1, kR170_2, kL171, kA171, kS171, kL172, kA172, kS172, kL173, kA173, kS173, kC174, kG174, kP174, kR174_0, kR174_1, kR174_2, kR174_3, kR174_4, kL175, kA175, kS175, kL176, kA176, kS176, kL177, kA177, kS177, kL178, kA178, kS178, kL179, kC180, kG180, kP180, kL181, kL182, kA182, kS182, kC183, kG183, kP183, kR183_1, kR183_3, kR183_5, kR183_6, kR183_7, kR183_8, kR183_9, kR183_21, kR183_26, kR183_27, kR183_30, kR183_31, kR183_33, kR183_34, kR183_36, kR183_37, kR183_38, kR183_39, kR183_40, kR183_41, kR183_42, kR183_43, kR183_44, kL184, kA184, kS184, kL185, kA185, kS185, kL186, kA186, kS186, kL187, kA187, kS187, kL188, kA188, kS188, kL189, kL190, kL191, kA191, kS191, kL192, kA192, kS192, kL193, kA193, kS193, kL194, kA194, kS194, kL195, kA195, kS195, kL196, kA196, kS196, kL197, kA197, kS197, kL198, kA198, kS198, kL199, kA199, kS199, kL200, kA200, kS200, kL201, kL202, kA202, kS202, kL203, kA203, kS203, kL204, kA204, kS204, kL205, kL206, kA206, kS206, slI_out, hC, nn_le, Nat.le_refl]
end ENO
end
section
/-! a site is added -/
def lsP (J : Nat → Nat → Int32) (E i : Nat) (F : Nat → Int) (L : List (Nat × Nat)) : Prop := J E 2 = nI L.length ∧ J E 3 = nI (low i L) ∧ ∀ k, k < L.length → J (E + 1) k = nI (L.getD k (0, 0)).1 ∧ J (E + 2) k = iI (F (L.getD k (0, 0)).2)
theorem slI_P {I : Nat → Nat → Int32} {E i : Nat} {F : Nat → Int} {L : List (Nat × Nat)} : lsP (slI I E i F L) E i F L := ⟨slI_2, slI_3, fun k hk => ⟨slI_a hk, slI_b hk⟩⟩
def adI (J : Nat → Nat → Int32) (c i : Nat) (P : Nat → Int) (M : Nat) : Nat → Nat → Int32 := fun d k => if d = c ∧ k < M then J c k + iI (P k) else if d = c ∧ 2 ^ i ≤ k ∧ k < 2 ^ i + M then J c (k - 2 ^ i) - iI (P (k - 2 ^ i)) else J d k
theorem adI_0 {J : Nat → Nat → Int32} {c i : Nat} {P : Nat → Int} : adI J c i P 0 = J := by
  funext d k
  unfold adI
  rw [if_neg (by omega), if_neg (by omega)]
theorem adI_out {J : Nat → Nat → Int32} {c i : Nat} {P : Nat → Int} {M d k : Nat} (h : d ≠ c) : adI J c i P M d k = J d k := by
  unfold adI
  rw [if_neg (fun z => h z.1), if_neg (fun z => h z.1)]
theorem adI_at {J : Nat → Nat → Int32} {c i : Nat} {P : Nat → Int} {M : Nat} (h : M < 2 ^ i) : adI J c i P M c M = J c M := by
  unfold adI
  rw [if_neg (by omega), if_neg (by omega)]
theorem adI_s {J : Nat → Nat → Int32} {c i : Nat} {P : Nat → Int} {M : Nat} (h : M < 2 ^ i) : xup (xup (adI J c i P M) c (2 ^ i + M) (J c M - iI (P M))) c M (J c M + iI (P M)) = adI J c i P (M + 1) := by
  funext d k
  simp only [xup_at, adI]
  by_cases h0 : d = c
  · subst h0
    simp only [true_and]
    by_cases h1 : k = M
    · subst h1
      rw [if_pos rfl, if_pos (by omega)]
    · rw [if_neg h1]
      by_cases h2 : k = 2 ^ i + M
      · subst h2
        rw [if_pos rfl, if_neg (by omega), if_pos (by omega), show 2 ^ i + M - 2 ^ i = M by omega]
      · rw [if_neg h2]
        by_cases h3 : k < M
        · rw [if_pos h3, if_pos (by omega)]
        · rw [if_neg h3, if_neg (show ¬ k < M + 1 by omega)]
          by_cases h4 : 2 ^ i ≤ k ∧ k < 2 ^ i + M
          · rw [if_pos h4, if_pos (by omega)]
          · rw [if_neg h4, if_neg (by omega)]
  · simp [h0]
section ADD
variable {σ : XS} {J : Nat → Nat → Int32} {E c m : Nat}
theorem pulled_ok (hS : Shp σ) (hE : EnO σ E c m) {i s : Nat} {F : Nat → Int} {L : List (Nat × Nat)} (hL : lsP J E i F L) (hl : L.length ≤ 4) (hb : ∀ q ∈ L, q.1 < 32) (hs : s < 2147483648) : f_X2_pulledByMates (xw σ J) E (nI s) = some (iI ((L.map (fun q => if s.testBit q.1 then F q.2 else -F q.2)).sum)) := by
  unfold f_X2_pulledByMates
  rw [← lsum_get _ (0, 0)]
  refine xforE (fun j : Nat => (iI (fb_si (fun j => (fun q : Nat × Nat => if s.testBit q.1 then F q.2 else -F q.2) (L.getD j (0, 0))) j), nI j)) L.length rfl (fun j hj => ?_) ?_
  · simp only [f_X2_pulledByMates_b4]
    have hq := hb (L.getD j (0, 0)) (by rw [List.getD_eq_getElem?_getD, List.getElem?_eq_getElem hj]; exact List.getElem_mem hj)
    have e4 : (nI L.length ≤ nI j) = False := by rw [nn_le (by omega) (by omega)]; exact eq_false (by omega)
    have e5 : ((4 : Int32) ≤ nI j) = False := by rw [show (4 : Int32) = nI 4 from rfl, nn_le (by omega) (by omega)]; exact eq_false (by omega)
    simp only [xw_gI (hE.T hS), Option.bind_some, hL.1, e4, e5, if_false, xw_gR, hE.R0 hS, hE.R1 hS, xw_aI (hE.K1 hS) (show j < 4 by omega) (show 4 < 2147483648 by decide), xw_aI (hE.K2 hS) (show j < 4 by omega) (show 4 < 2147483648 by decide), (hL.2.2 j hj).1, (hL.2.2 j hj).2, nn_bit hs hq, bI_1, iI_neg, iI_add, fb_si_succ, ← nI_succ]
    by_cases hbit : s.testBit (L.getD j (0, 0)).1 = true
    · rw [if_pos hbit, if_pos hbit]
    · rw [if_neg hbit, if_neg hbit]
  · simp only [f_X2_pulledByMates_b4]
    rw [xw_gI (hE.T hS), Option.bind_some, hL.1, if_pos (by rw [nn_le (by omega) (by omega)]; exact Nat.le_refl _)]
    rfl
theorem add_in (hS : Shp σ) (hE : EnO σ E c m) {i bk fi n : Nat} {x2 : Int32} (P : Nat → Int) (z : Int) (hi : i ≤ 15) (hm : 2 ^ (i + 1) ≤ m) (hf : fi + n ≤ 2 ^ i) (hz : ∀ r, r < n → P (fi + r) = z) :
    xloop (f_X2_addSite_b35 E x2 (nI (2 ^ i)) (nI n) (nI fi) (iI z)) (nI fi, xw σ (adI J c i P fi)) = some (.inl (nI (fi + n), xw σ (adI J c i P (fi + n)))) := by
  have hp : 2 ^ (i + 1) = 2 ^ i + 2 ^ i := by rw [Nat.pow_succ]; omega
  have hp2 : 2 ^ i ≤ 2 ^ 15 := Nat.pow_le_pow_right (by decide) hi
  have hp3 : (2 : Nat) ^ 15 = 32768 := by decide
  refine xforE (fun r : Nat => (nI (fi + r), xw σ (adI J c i P (fi + r)))) n rfl (fun r hr => ?_) ?_
  · simp only [f_X2_addSite_b35]
    have e1 : (nI (fi + n) ≤ nI (fi + r)) = False := by rw [nn_le (by omega) (by omega)]; exact eq_false (by omega)
    have e2 : (nI m ≤ nI (2 ^ i + (fi + r))) = False := by
      have := hE.2.2.2.1
      rw [nn_le (by omega) (by omega)]; exact eq_false (by omega)
    have e3 : adI J c i P (fi + r) c (fi + r) = J c (fi + r) := adI_at (by omega)
    have e4 : ¬ (fi + r = 2 ^ i + (fi + r)) := by have := Nat.two_pow_pos i; omega
    have h1 := xw_aI (σ := σ) (I := adI J c i P (fi + r)) hE.2.2.1 (show fi + r < m by omega) (by have := hE.2.2.2.1; omega)
    simp only [e1, if_false, xw_gR, hE.R4 hS, Option.bind_some, xw_al, hE.L, e2, h1, e3, nn_add, xw_sI hE.2.2.1 (show 2 ^ i + (fi + r) < m by omega) (show m < 2147483648 by have := hE.2.2.2.1; omega), xw_aI hE.2.2.1 (show fi + r < m by omega) (show m < 2147483648 by have := hE.2.2.2.1; omega), xup_at, e4, and_false, xw_sI hE.2.2.1 (show fi + r < m by omega) (show m < 2147483648 by have := hE.2.2.2.1; omega)]
    rw [← hz r hr, adI_s (by omega), ← nI_succ]
    rfl
  · simp only [f_X2_addSite_b35]
    rw [if_pos (by rw [nn_add, nn_le (by omega) (by omega)]; exact Nat.le_refl _), nn_add]
    rfl
theorem add_ok (hS : Shp σ) {g : GD} (hg : g ∈ gAll) (hE : EnO σ E c m) {i : Nat} {F : Nat → Int} (hi : i < gSz g) (hm : 2 ^ (i + 1) ≤ m) (hL : lsP J E i F (lwM g F i)) {v : Int32} (hv : v = iI (F (32 + i))) :
    f_X2_addSite (xw σ J) E (nI i) v = some (xw σ (adI J c i (plS g F i) (2 ^ i))) := by
  have h16 := (gAll_b g hg).2.2.1
  have hM := gMt_b g hg i (by omega)
  have hlo := low_le (lwM g F i) i
  have hl4 : (lwM g F i).length ≤ 4 := Nat.le_trans (List.length_filter_le _ _) hM.1
  have hlb : ∀ q ∈ lwM g F i, q.1 < 32 := fun q hq => by have := hM.2 q (List.mem_filter.mp hq).1; omega
  have hEb := hE.b
  obtain ⟨lo, hlo2⟩ : ∃ lo, lo = low i (lwM g F i) := ⟨_, rfl⟩
  rw [← hlo2] at hlo
  have hpp : 2 ^ i = 2 ^ (i - lo) * 2 ^ lo := by rw [← Nat.pow_add]; congr 1; omega
  have hp2 : 2 ^ i ≤ 2 ^ 15 := Nat.pow_le_pow_right (by decide) (by omega)
  have hp3 : (2 : Nat) ^ 15 = 32768 := by decide
  have hpl : 0 < 2 ^ lo := Nat.two_pow_pos lo
  unfold f_X2_addSite
  rw [xw_gI (hE.T hS), Option.bind_some, hL.2.1, ← hlo2, nn_one (by omega), nn_one (by omega)]
  refine xforE (fun b : Nat => (nI (b * 2 ^ lo), xw σ (adI J c i (plS g F i) (b * 2 ^ lo)))) (2 ^ (i - lo)) (by simp only [Nat.zero_mul, adI_0]; rfl) (fun b hb => ?_) ?_
  · have hb2 : (b + 1) * 2 ^ lo ≤ 2 ^ i := by rw [hpp]; exact Nat.mul_le_mul_right _ hb
    have hb3 : (b + 1) * 2 ^ lo = b * 2 ^ lo + 2 ^ lo := by rw [Nat.succ_mul]
    have hL2 : lsP (adI J c i (plS g F i) (b * 2 ^ lo)) E i F (lwM g F i) := by
      refine ⟨?_, ?_, fun k hk => ⟨?_, ?_⟩⟩
      · rw [adI_out (by omega)]; exact hL.1
      · rw [adI_out (by omega)]; exact hL.2.1
      · rw [adI_out (by omega)]; exact (hL.2.2 k hk).1
      · rw [adI_out (by omega)]; exact (hL.2.2 k hk).2
    simp only [f_X2_addSite_b15]
    rw [if_neg (by rw [nn_le (by omega) (by omega)]; omega), xw_ck, xck_ok (hE.T hS), Option.bind_some, pulled_ok hS hE hL2 hl4 hlb (by omega), Option.bind_some, hv, iI_add]
    rw [hb3]
    exact add_in (bk := 0) hS hE (plS g F i) (plS g F i (b * 2 ^ lo)) (by omega) hm (by omega) (fun r hr => plS_block (fun q hq => hlo.2 q hq) hr)
  · simp only [f_X2_addSite_b15]
    rw [← hpp, if_pos (by rw [nn_le (by omega) (by omega)]; exact Nat.le_refl _)]
    rfl
end ADD
end
section
/-! the energies of all states of the first sites -/
theorem EnO.mem {σ : XS} {E c m : Nat} (h : EnO σ E c m) (I : Nat → Nat → Int32) : EnO (xw σ I) E c m := h
section FILL
variable {σ : XS} {I : Nat → Nat → Int32} {E c m : Nat} {g : GD}
/-- the row of the first i sites' states, and nothing else changed but the marks of E -/
def flP (I J : Nat → Nat → Int32) (E c : Nat) (g : GD) (F : Nat → Int) (i : Nat) : Prop := (∀ s, s < 2 ^ i → J c s = iI (eP g F i s)) ∧ ∀ a k, a ≠ c → (a < E ∨ E + 2 < a ∨ (a = E ∧ k ≠ 2 ∧ k ≠ 3)) → J a k = I a k
theorem fill_l (hS : Shp σ) (hG : GRD I g) (hE : EnO σ E c m) {B H k : Nat} {F : Nat → Int} (hB : σ.1 B = (20, 32)) (hH : σ.1 H = (20, 16)) (hBo : B < E ∨ E + 2 < B) (hHo : H < E ∨ E + 2 < H) (hBc : B ≠ c) (hHc : H ≠ c) (hk : k ≤ gSz g) (hm : 2 ^ k ≤ m)
    (hF : ∀ t, t < 32 → (gTo g t).isSome = true → I B t = iI (F t) ∧ -3 ≤ F t ∧ F t ≤ 3) (hF2 : ∀ i, i < gSz g → I H i = iI (F (32 + i))) :
    ∃ J, f_X2_fill_j35 (xw σ I) E 11 B H (nI k) = some (xw σ J) ∧ flP I J E c g F k := by
  have h16 := (gAll_b g hG.1).2.2.1
  have hEb := hE.b
  have hm0 : 0 < m := Nat.lt_of_lt_of_le (Nat.two_pow_pos k) hm
  have hm1 := hE.2.2.2.1
  unfold f_X2_fill_j35
  rw [xw_gR, hE.R4 hS, Option.bind_some, show (0 : Int32) = nI 0 from rfl, xw_sI hE.2.2.1 hm0 (by omega), Option.bind_some]
  have key : ∃ τ, xloop (f_X2_fill_b45 E 11 B H (nI k)) (nI 0, xw σ (xup I c 0 (nI 0))) = some τ ∧ ∃ J, τ = xw σ J ∧ flP I J E c g F k := by
    refine xforI (fun i x => ∃ J, x = (nI i, xw σ J) ∧ flP I J E c g F i) k ⟨_, rfl, ?_, ?_⟩ ?_ ?_
    · intro s hs
      have : s = 0 := by simpa using hs
      subst this
      rw [xup_at, if_pos ⟨rfl, rfl⟩]
      have e : eP g F 0 0 = 0 := by
        unfold eP
        rw [fb_si_z (k := 0) (by omega) (fun t _ _ => by
          have : gIn g 0 t = false := by
            unfold gIn
            split
            · rfl
            · simp
          rw [this]; rfl)]
        rfl
      rw [e]; rfl
    · intro a k h1 h2
      rw [xup_at, if_neg (by omega)]
    · rintro i x hi ⟨J, rfl, hJ1, hJ2⟩
      have hiz : i < gSz g := by omega
      have hG2 : GRD J g := GRD_c (fun a k z => hJ2 a k (by unfold sGRD at z; omega) (by unfold sGRD at z; omega)) hG
      have hFJ : ∀ t, t < 32 → (gTo g t).isSome = true → J B t = iI (F t) ∧ -3 ≤ F t ∧ F t ≤ 3 := fun t ht h => by rw [hJ2 B t hBc (by omega)]; exact hF t ht h
      have hHl : xal σ H = some (nI 16) := by
        rw [xal_ok (by unfold xT; rw [hH]; decide)]
        unfold xlen
        rw [hH]
      have hpw : 2 ^ (i + 1) ≤ m := Nat.le_trans (Nat.pow_le_pow_right (by decide) (by omega)) hm
      refine ⟨(nI (i + 1), xw σ (adI (slI J E i F (lwM g F i)) c i (plS g F i) (2 ^ i))), ?_, _, rfl, ?_, ?_⟩
      · simp only [f_X2_fill_b45]
        rw [if_neg (by rw [nn_le (by omega) (by omega)]; omega), xw_al, hHl, Option.bind_some, if_neg (by rw [nn_le (by omega) (by omega)]; omega), xw_ck, xck_ok (hE.T hS), Option.bind_some, see_ok hS hG2 hE hB hBo hiz hFJ, Option.bind_some, xw_aI hH (by omega) (by decide), Option.bind_some, xw_ck, xck_ok (hE.T hS), Option.bind_some, add_ok hS hG.1 hE hiz hpw slI_P (by rw [slI_out hHo, hJ2 H i hHc (by omega)]; exact hF2 i hiz), Option.bind_some, nI_succ]
      · intro s hs
        have hp : 2 ^ (i + 1) = 2 ^ i + 2 ^ i := by rw [Nat.pow_succ]; omega
        unfold adI
        by_cases h1 : s < 2 ^ i
        · rw [if_pos ⟨rfl, h1⟩, slI_out (by omega), hJ1 s h1, iI_add, eP_lo hG.1 F hiz h1]
        · rw [if_neg (by omega), if_pos ⟨rfl, by omega, by omega⟩, slI_out (by omega), hJ1 _ (by omega), iI_sub, ← eP_hi hG.1 F hiz (by omega), show 2 ^ i + (s - 2 ^ i) = s by omega]
      · intro a k h1 h2
        rw [adI_out h1]
        rcases h2 with h2 | h2 | h2
        · rw [slI_out (by omega)]; exact hJ2 a k h1 (by omega)
        · rw [slI_out (by omega)]; exact hJ2 a k h1 (by omega)
        · rw [h2.1, slI_ot h2.2.1 h2.2.2]; exact hJ2 E k (by omega) (by omega)
    · rintro x ⟨J, rfl, hJ⟩
      refine ⟨xw σ J, ?_, J, rfl, hJ⟩
      simp only [f_X2_fill_b45]
      rw [if_pos (by rw [nn_le (by omega) (by omega)]; exact Nat.le_refl _)]
      rfl
  obtain ⟨τ, h1, J, rfl, h2⟩ := key
  exact ⟨J, h1, h2⟩
end FILL
/-- what filling leaves -/
def FlR (σ : XS) (I : Nat → Nat → Int32) (E : Nat) (g : GD) (F : Nat → Int) (k : Nat) (a : Nat) (τ : XS) : Prop := Shp τ ∧ (∃ c a', EnO τ E c (2 ^ a') ∧ a ≤ a' ∧ a' ≤ 16 ∧ k ≤ a' ∧ c ≤ xn τ ∧ (c = xR σ E 4 ∨ c = xn σ + 1) ∧ xn τ ≤ xn σ + (a' - a) ∧ xz τ ≤ xz σ + 65536 * (a' - a) ∧ (∀ s, s < 2 ^ k → xI τ c s = iI (eP g F k s)) ∧
  ∀ b j, b ≠ c → b ≤ xn σ → (b < E ∨ E + 2 < b ∨ (b = E ∧ j ≠ 2 ∧ j ≠ 3)) → xI τ b j = I b j) ∧ xn σ ≤ xn τ ∧ (∀ b, b ≤ xn σ → τ.1 b = σ.1 b) ∧ (∀ b j, b ≤ xn σ → ¬ (b = E ∧ j = 4) → xR τ b j = xR σ b j) ∧ ∀ b j, b ≤ xn σ → xL τ b j = xL σ b j
theorem fill11_ok {σ : XS} {I : Nat → Nat → Int32} {E c a : Nat} {g : GD} (hS : Shp σ) (hG : GRD I g) (hE : EnO σ E c (2 ^ a)) (ha : a ≤ 16) (hcn : c ≤ xn σ) {B H k : Nat} {F : Nat → Int} (hB : σ.1 B = (20, 32)) (hH : σ.1 H = (20, 16)) (hBo : B < E ∨ E + 2 < B) (hHo : H < E ∨ E + 2 < H) (hBc : B ≠ c) (hHc : H ≠ c) (hB2 : B < 207) (hH2 : H < 207) (hk : k ≤ gSz g)
    (hF : ∀ t, t < 32 → (gTo g t).isSome = true → I B t = iI (F t) ∧ -3 ≤ F t ∧ F t ≤ 3) (hF2 : ∀ i, i < gSz g → I H i = iI (F (32 + i))) :
    ∃ τ, f_X2_fill (xw σ I) E 11 B H (nI k) = some τ ∧ FlR σ I E g F k a τ := by
  have h16 := (gAll_b g hG.1).2.2.1
  have hEb := hE.b
  have hp : 2 ^ k ≤ 2 ^ 16 := Nat.pow_le_pow_right (by decide) (by omega)
  have hpa : 2 ^ a ≤ 2 ^ 16 := Nat.pow_le_pow_right (by decide) ha
  have h65 : (2 : Nat) ^ 16 = 65536 := by decide
  unfold f_X2_fill
  rw [if_neg (nI_pos (by omega)), if_pos (by rw [show (16 : Int32) = nI 16 from rfl, nn_le (by omega) (by omega)]; omega), xw_gR, hE.R4 hS, Option.bind_some, xw_al, hE.L, Option.bind_some, nn_one (by omega)]
  by_cases hle : 2 ^ k ≤ 2 ^ a
  · rw [if_pos (by rw [nn_le (by omega) (by omega)]; exact hle)]
    obtain ⟨J, e1, e2, e3⟩ := fill_l hS hG hE hB hH hBo hHo hBc hHc hk hle hF hF2
    refine ⟨xw σ J, e1, hS, ⟨c, a, hE, Nat.le_refl _, ha, (Nat.pow_le_pow_iff_right (by decide)).mp hle, hcn, .inl hE.2.1.symm, by show xn σ ≤ _; omega, by show xz σ ≤ _; omega, e2, fun b j h1 _ h2 => e3 b j h1 h2⟩, Nat.le_refl _, fun _ _ => rfl, fun _ _ _ _ => rfl, fun _ _ _ => rfl⟩
  · rw [if_neg (by rw [nn_le (by omega) (by omega)]; exact hle)]
    have hak : a < k := by
      rcases Nat.lt_or_ge a k with h | h
      · exact h
      · exact absurd (Nat.pow_le_pow_right (by decide) h) hle
    rw [xnA_ok (σ := xw σ I) (by omega), Option.bind_some]
    dsimp only
    unfold f_X2_fill_j32
    rw [xnz_ok (by omega), Option.bind_some]
    have hn206 : 206 ≤ xn σ := hS.1
    have hEn : E ≠ xn σ + 1 := by omega
    have hT1 : xT (xnew (xw σ I) 20 (2 ^ k) (2 ^ k)) E = 2 := by
      rw [hT_new, if_neg (show ¬ E = xn (xw σ I) + 1 from hEn)]
      exact hE.T hS
    rw [xpR_ok hT1, Option.bind_some]
    obtain ⟨σ2, hσ2⟩ : ∃ σ2, σ2 = xuR (xnew (xw σ I) 20 (2 ^ k) (2 ^ k)) E 4 (xn σ + 1) := ⟨_, rfl⟩
    have k2 : ∀ b, b ≤ xn σ → σ2.1 b = σ.1 b := fun b hb => by
      rw [hσ2]
      show (if b = xn σ + 1 then ((20, 2 ^ k) : Nat × Nat) else σ.1 b) = σ.1 b
      rw [if_neg (by omega)]
    have kn : σ2.1 (xn σ + 1) = (20, 2 ^ k) := by
      rw [hσ2]
      show (if xn σ + 1 = xn σ + 1 then ((20, 2 ^ k) : Nat × Nat) else σ.1 _) = _
      rw [if_pos rfl]
    have i2 : ∀ b j, b ≤ xn σ → xI σ2 b j = I b j := fun b j hb => by
      rw [hσ2, hI_uR, hI_new]
      rw [if_neg (show ¬ b = xn (xw σ I) + 1 by show ¬ b = xn σ + 1; omega)]
      rfl
    have r2 : ∀ b j, b ≤ xn σ → ¬ (b = E ∧ j = 4) → xR σ2 b j = xR σ b j := fun b j hb h => by
      rw [hσ2, hR_uR, if_neg h, hR_new, if_neg (show ¬ b = xn (xw σ I) + 1 by show ¬ b = xn σ + 1; omega)]
      rfl
    have rE : xR σ2 E 4 = xn σ + 1 := by rw [hσ2, hR_uR, if_pos ⟨rfl, rfl⟩]
    have l2 : ∀ b j, b ≤ xn σ → xL σ2 b j = xL σ b j := fun b j hb => by
      rw [hσ2, hL_uR, hL_new, if_neg (show ¬ b = xn (xw σ I) + 1 by show ¬ b = xn σ + 1; omega)]
      rfl
    have n2 : xn σ2 = xn σ + 1 := by rw [hσ2]; rfl
    have z2 : xz σ2 = xz σ + 2 ^ k := by rw [hσ2]; rfl
    have hS2 : Shp σ2 := by
      refine ⟨by omega, fun b hb h1 h2 => (k2 b (by omega)).trans (hS.2.1 b hb h1 h2), fun b hb j hj => ?_⟩
      rw [r2 b j (by omega) (by
        rintro ⟨z1, z2⟩
        subst z2
        rcases hE.1 with q | q
        · rw [z1, q] at hj; exact hj (by decide +kernel)
        · rw [z1, q] at hj; exact hj (by decide +kernel))]
      exact hS.2.2 b hb j hj
    have hG2 : GRD (xI σ2) g := GRD_c (fun b j z => i2 b j (by unfold sGRD at z; omega)) hG
    have hE2 : EnO σ2 E (xn σ + 1) (2 ^ k) := ⟨hE.1, rE, kn, by omega, .inr (by omega)⟩
    obtain ⟨J, e1, e2, e3⟩ := fill_l (I := xI σ2) hS2 hG2 hE2 ((k2 B (by omega)).trans hB) ((k2 H (by omega)).trans hH) hBo hHo (by omega) (by omega) hk (Nat.le_refl _) (fun t ht h => by rw [i2 B t (by omega)]; exact hF t ht h) (fun i hi => by rw [i2 H i (by omega)]; exact hF2 i hi)
    refine ⟨xw σ2 J, ?_, hS2, ⟨xn σ + 1, k, hE2, by omega, by omega, Nat.le_refl _, by show _ ≤ xn σ2; omega, .inr rfl, by show xn σ2 ≤ _; omega, by show xz σ2 ≤ _; omega, e2, fun b j h1 h2 h3 => (e3 b j h1 h3).trans (i2 b j h2)⟩, by show _ ≤ xn σ2; omega, k2, r2, l2⟩
    have e0 : xn (xw σ I) + 1 = xn σ + 1 := rfl
    rw [e0, ← hσ2]
    exact e1
end
