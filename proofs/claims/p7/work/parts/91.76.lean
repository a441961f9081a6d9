theorem LV_glass {g : GD} {gT gP : GH} {st : Nat} {I I' : Nat → Nat → Int32} (hg : g ∈ gAll) (H : LV g gT gP st I 16 (I 191)) (h0 : ∀ k, k < 6 → I' 16 k = I 16 k) (h6 : I' 16 6 = nI (st + 1)) (h7 : I' 16 7 = nI (st + 1))
    (hJ : ∀ t, t < 32 → I' 17 t = if (gTo g t).isSome then I' 191 t else I 17 t) (hF : ∀ i, i < 16 → I' 18 i = I 18 i) (hb : ∀ t, t < 32 → -3 ≤ (I' 191 t).toInt ∧ (I' 191 t).toInt ≤ 3)
    (hr : ∀ k, 32 ≤ k → I' 191 k = I 191 k) : LV g (gUp gT (st + 1) g (I' 191)) (gUp gP (st + 1) g (I' 191)) (st + 1) I' 16 (I' 191) := by
  have h16 := (gAll_b g hg).2.2.1
  obtain ⟨⟨e1, e2, ⟨p, u, e3, e4, e5, e6⟩, e7, e8⟩, ⟨o1, o2, ⟨b0, o3, o4, o5⟩, o6⟩, -⟩ := H
  refine ⟨⟨fun t ht => ?_, fun i hi => by rw [hF i hi, hr _ (by omega)]; exact e2 i hi, ⟨p, u, by rw [h0 _ (by omega)]; exact e3, by rw [h0 _ (by omega)]; exact e4, fun i => ?_, fun i => ?_⟩, by rw [h0 _ (by omega), hr _ (by omega)]; exact e7, by rw [h0 _ (by omega), hr _ (by omega)]; exact e8⟩, ⟨fun k hk => ?_, fun i hi => by rw [hr _ (by omega)]; exact o2 i hi, ⟨b0, o3, by rw [hr _ (by omega)]; exact o4, fun i hi => by rw [hr _ (by omega)]; exact o5 i hi⟩, by rw [hr _ (by omega)]; exact o6⟩, st + 1, st + 1, Nat.le_refl _, Nat.le_refl _, h6, h7, by rw [gUp_new], fun k _ => by rw [gUp_new], by rw [gUp_new], fun k _ => by rw [gUp_new]⟩
  · rw [hJ t ht]
    by_cases h2 : (gTo g t).isSome
    · simp [h2]
    · have := e1 t ht
      rw [if_neg h2] at this
      simp only [h2, if_false, Bool.false_eq_true]
      exact this
  · rw [e5, hr _ (by omega)]
  · rw [e6, hr _ (by omega)]
  · by_cases h32 : k < 32
    · exact hb k h32
    · rw [hr _ (by omega)]; exact o1 k hk
theorem in_9999 (x : Int32) : f_X12_in x 0 9999 = some (if x < 0 ∨ 9999 < x then 0 else 1) := by
  unfold f_X12_in
  by_cases h1 : x < 0
  · simp [h1]
  · by_cases h2 : (9999 : Int32) < x
    · simp [h1, h2]
    · simp [h1, h2]
theorem gLv_b (g : GD) (x t : Nat) : -3 ≤ (gLv g x t).toInt ∧ (gLv g x t).toInt ≤ 3 := by
  unfold gLv
  split
  · decide
  · decide
theorem op_glass : Op_glass INV := by
  intro n σ hn ⟨g, gT, gP, st, H⟩ x
  have hS := H.shp
  have hG := H.grd
  have h16 := (gAll_b g hG.1).2.2.1
  by_cases hx0 : x < 0
  · refine ⟨0, σ, σ, ?_, ?_, g, gT, gP, st, H.nop⟩
    · unfold f_X11_glass; rw [if_pos hx0]
    · unfold f_X12_glass; rw [in_9999, if_pos (.inl hx0)]; rfl
  by_cases hx9 : (9999 : Int32) < x
  · refine ⟨0, σ, σ, ?_, ?_, g, gT, gP, st, H.nop⟩
    · unfold f_X11_glass; rw [if_neg hx0, if_pos hx9]
    · unfold f_X12_glass; rw [in_9999, if_pos (.inr hx9)]; rfl
  have hin : ¬ (x < 0 ∨ 9999 < x) := fun z => z.elim hx0 hx9
  obtain ⟨s, hs, rfl⟩ := nn_of hx0
  by_cases h0 : gSz g = 0
  · refine ⟨0, σ, σ, ?_, ?_, g, gT, gP, st, H.nop⟩
    · show f_X11_glass (xw σ (xI σ)) 1 (nI s) = _
      unfold f_X11_glass
      simp (disch := first | assumption | omega) only [Option.bind_some, Option.map_some, xw_gR, xw_gN, xw_al, xw_ck, xw_uI, xw_ur, xup_at, xur_at, if_true, if_false, reduceIte, and_true, true_and, and_false, false_and, not_true_eq_false, not_false_eq_true, Nat.reduceEqDiff, eq_self, Nat.reduceAdd, Nat.reduceMul, kC1, kG1, kP1, kR1_0, kR1_1, kR1_2, kR1_3, kR1_4, kR1_5, kR1_6, kR1_7, kR1_8, kR1_9, kR1_10, kR1_11, kR1_12, kR1_13, kC2, kG2, kP2, kR2_0, kR2_1, kC3, kG3, kP3, kR3_0, kR3_1, kR3_2, kR3_3, kL4, kA4, kS4, kL5, kA5, kS5, kL6, kA6, kS6, kL7, kA7, kS7, kC8, kG8, kP8, kR8_0, kR8_1, kL9, kA9, kS9, kL10, kA10, kS10, kC11, kG11, kP11, kR11_0, kR11_1, kR11_2, kR11_3, kL12, kA12, kS12, kL13, kA13, kS13, kL14, kA14, kS14, kL15, kA15, kS15, kC16, kG16, kP16, kR16_0, kR16_1, kL17, kA17, kS17, kL18, kA18, kS18, kC19, kG19, kP19, kR19_0, kL20, kL141, kL146, kA146, kS146, kL151, kA151, kS151, kL156, kA156, kS156, kC157, kG157, kP157, kR157_0, kR157_1, kL158, kA158, kS158, kL159, kA159, kS159, kC161, kG161, kP161, kR161_0, kR161_1, kL162, kA162, kS162, kL163, kA163, kS163, kC165, kG165, kP165, kR165_0, kR165_1, kR165_2, kR165_3, kL166, kA166, kS166, kL167, kA167, kS167, kL168, kA168, kS168, kL169, kA169, kS169, kC170, kG170, kP170, kR170_0, kR170_1, kR170_2, kL171, kA171, kS171, kL172, kA172, kS172, kL173, kA173, kS173, kC174, kG174, kP174, kR174_0, kR174_1, kR174_2, kR174_3, kR174_4, kL175, kA175, kS175, kL176, kA176, kS176, kL177, kA177, kS177, kL178, kA178, kS178, kL179, kC180, kG180, kP180, kL181, kL182, kA182, kS182, kC183, kG183, kP183, kR183_1, kR183_3, kR183_5, kR183_6, kR183_7, kR183_8, kR183_9, kR183_21, kR183_26, kR183_27, kR183_30, kR183_31, kR183_33, kR183_34, kR183_36, kR183_37, kR183_38, kR183_39, kR183_40, kR183_41, kR183_42, kR183_43, kR183_44, kL184, kA184, kS184, kL185, kA185, kS185, kL186, kA186, kS186, kL187, kA187, kS187, kL188, kA188, kS188, kL189, kL190, kL191, kA191, kS191, kL192, kA192, kS192, kL193, kA193, kS193, kL194, kA194, kS194, kL195, kA195, kS195, kL196, kA196, kS196, kL197, kA197, kS197, kL198, kA198, kS198, kL199, kA199, kS199, kL200, kA200, kS200, kL201, kL202, kA202, kS202, kL203, kA203, kS203, kL204, kA204, kS204, kL205, kL206, kA206, kS206, hx0, hx9, hG.2.2.2.2.1, h0, show (nI 0 = 0) = True from eq_true rfl]
      rfl
    · show f_X12_glass (xw σ (xI σ)) 183 (nI s) = _
      unfold f_X12_glass
      simp (disch := first | assumption | omega) only [Option.bind_some, Option.map_some, xw_gR, xw_gN, xw_al, xw_ck, xw_uI, xw_ur, xup_at, xur_at, if_true, if_false, reduceIte, and_true, true_and, and_false, false_and, not_true_eq_false, not_false_eq_true, Nat.reduceEqDiff, eq_self, Nat.reduceAdd, Nat.reduceMul, kC1, kG1, kP1, kR1_0, kR1_1, kR1_2, kR1_3, kR1_4, kR1_5, kR1_6, kR1_7, kR1_8, kR1_9, kR1_10, kR1_11, kR1_12, kR1_13, kC2, kG2, kP2, kR2_0, kR2_1, kC3, kG3, kP3, kR3_0, kR3_1, kR3_2, kR3_3, kL4, kA4, kS4, kL5, kA5, kS5, kL6, kA6, kS6, kL7, kA7, kS7, kC8, kG8, kP8, kR8_0, kR8_1, kL9, kA9, kS9, kL10, kA10, kS10, kC11, kG11, kP11, kR11_0, kR11_1, kR11_2, kR11_3, kL12, kA12, kS12, kL13, kA13, kS13, kL14, kA14, kS14, kL15, kA15, kS15, kC16, kG16, kP16, kR16_0, kR16_1, kL17, kA17, kS17, kL18, kA18, kS18, kC19, kG19, kP19, kR19_0, kL20, kL141, kL146, kA146, kS146, kL151, kA151, kS151, kL156, kA156, kS156, kC157, kG157, kP157, kR157_0, kR157_1, kL158, kA158, kS158, kL159, kA159, kS159, kC161, kG161, kP161, kR161_0, kR161_1, kL162, kA162, kS162, kL163, kA163, kS163, kC165, kG165, kP165, kR165_0, kR165_1, kR165_2, kR165_3, kL166, kA166, kS166, kL167, kA167, kS167, kL168, kA168, kS168, kL169, kA169, kS169, kC170, kG170, kP170, kR170_0, kR170_1, kR170_2, kL171, kA171, kS171, kL172, kA172, kS172, kL173, kA173, kS173, kC174, kG174, kP174, kR174_0, kR174_1, kR174_2, kR174_3, kR174_4, kL175, kA175, kS175, kL176, kA176, kS176, kL177, kA177, kS177, kL178, kA178, kS178, kL179, kC180, kG180, kP180, kL181, kL182, kA182, kS182, kC183, kG183, kP183, kR183_1, kR183_3, kR183_5, kR183_6, kR183_7, kR183_8, kR183_9, kR183_21, kR183_26, kR183_27, kR183_30, kR183_31, kR183_33, kR183_34, kR183_36, kR183_37, kR183_38, kR183_39, kR183_40, kR183_41, kR183_42, kR183_43, kR183_44, kL184, kA184, kS184, kL185, kA185, kS185, kL186, kA186, kS186, kL187, kA187, kS187, kL188, kA188, kS188, kL189, kL190, kL191, kA191, kS191, kL192, kA192, kS192, kL193, kA193, kS193, kL194, kA194, kS194, kL195, kA195, kS195, kL196, kA196, kS196, kL197, kA197, kS197, kL198, kA198, kS198, kL199, kA199, kS199, kL200, kA200, kS200, kL201, kL202, kA202, kS202, kL203, kA203, kS203, kL204, kA204, kS204, kL205, kL206, kA206, kS206, in_9999, hin, one0, sites_ok hS hG, h0, show (nI 0 = 0) = True from eq_true rfl]
      rfl
  have hn0 : (nI (gSz g) = 0) = False := eq_false (nI_ne0 (by omega) (by omega))
  obtain ⟨q, nx, ea, hq, hnx, hea, p1, p2, p3, p4, p8⟩ := H.pst
  have hG1 : GRD (kpI (xI σ) nx q) g := GRD_c (fun a k z => kpI_out (by unfold sGRD at z; omega) (by unfold sGRD at z; omega)) hG
  obtain ⟨J, hJ⟩ : ∃ J, J = xup (xup (xup (glI g s (kpI (xI σ) nx q) 17 32) 1 15 (nI (st + 1))) 16 6 (nI (st + 1))) 16 7 (nI (st + 1)) := ⟨_, rfl⟩
  have uJ : ∀ a k, ¬ ((16 ≤ a ∧ a ≤ 18) ∨ (a = 1 ∧ k = 15)) → J a k = kpI (xI σ) nx q a k := by
    intro a k h
    rw [hJ, xup_at, if_neg (by omega), xup_at, if_neg (by omega), xup_at, if_neg (by omega), glI_out (by omega)]
  have mo : ∀ a k, ¬ (a = 193 ∨ (a = 183 ∧ (k = 28 ∨ k = 29 ∨ k = 32)) ∨ a = 191) → xup (glI g s (mkI J ea q) 191 32) 183 32 0 a k = J a k := by
    intro a k h
    rw [xup_at, if_neg (by omega), glI_out (by omega), mkI_out (by omega) (by omega)]
  have hG2 : GRD J g := GRD_c (fun a k z => uJ a k (by unfold sGRD at z; omega)) hG1
  have hG3 : GRD (mkI J ea q) g := GRD_c (fun a k z => mkI_out (by unfold sGRD at z; omega) (by unfold sGRD at z; omega)) hG2
  refine ⟨1, xw σ J, xw σ (xup (glI g s (mkI J ea q) 191 32) 183 32 0), ?_, ?_, ?_⟩
  · show f_X11_glass (xw σ (xI σ)) 1 (nI s) = _
    unfold f_X11_glass
    simp (disch := first | assumption | omega) only [Option.bind_some, Option.map_some, xw_gR, xw_gN, xw_al, xw_ck, xw_uI, xw_ur, xup_at, xur_at, if_true, if_false, reduceIte, and_true, true_and, and_false, false_and, not_true_eq_false, not_false_eq_true, Nat.reduceEqDiff, eq_self, Nat.reduceAdd, Nat.reduceMul, kC1, kG1, kP1, kR1_0, kR1_1, kR1_2, kR1_3, kR1_4, kR1_5, kR1_6, kR1_7, kR1_8, kR1_9, kR1_10, kR1_11, kR1_12, kR1_13, kC2, kG2, kP2, kR2_0, kR2_1, kC3, kG3, kP3, kR3_0, kR3_1, kR3_2, kR3_3, kL4, kA4, kS4, kL5, kA5, kS5, kL6, kA6, kS6, kL7, kA7, kS7, kC8, kG8, kP8, kR8_0, kR8_1, kL9, kA9, kS9, kL10, kA10, kS10, kC11, kG11, kP11, kR11_0, kR11_1, kR11_2, kR11_3, kL12, kA12, kS12, kL13, kA13, kS13, kL14, kA14, kS14, kL15, kA15, kS15, kC16, kG16, kP16, kR16_0, kR16_1, kL17, kA17, kS17, kL18, kA18, kS18, kC19, kG19, kP19, kR19_0, kL20, kL141, kL146, kA146, kS146, kL151, kA151, kS151, kL156, kA156, kS156, kC157, kG157, kP157, kR157_0, kR157_1, kL158, kA158, kS158, kL159, kA159, kS159, kC161, kG161, kP161, kR161_0, kR161_1, kL162, kA162, kS162, kL163, kA163, kS163, kC165, kG165, kP165, kR165_0, kR165_1, kR165_2, kR165_3, kL166, kA166, kS166, kL167, kA167, kS167, kL168, kA168, kS168, kL169, kA169, kS169, kC170, kG170, kP170, kR170_0, kR170_1, kR170_2, kL171, kA171, kS171, kL172, kA172, kS172, kL173, kA173, kS173, kC174, kG174, kP174, kR174_0, kR174_1, kR174_2, kR174_3, kR174_4, kL175, kA175, kS175, kL176, kA176, kS176, kL177, kA177, kS177, kL178, kA178, kS178, kL179, kC180, kG180, kP180, kL181, kL182, kA182, kS182, kC183, kG183, kP183, kR183_1, kR183_3, kR183_5, kR183_6, kR183_7, kR183_8, kR183_9, kR183_21, kR183_26, kR183_27, kR183_30, kR183_31, kR183_33, kR183_34, kR183_36, kR183_37, kR183_38, kR183_39, kR183_40, kR183_41, kR183_42, kR183_43, kR183_44, kL184, kA184, kS184, kL185, kA185, kS185, kL186, kA186, kS186, kL187, kA187, kS187, kL188, kA188, kS188, kL189, kL190, kL191, kA191, kS191, kL192, kA192, kS192, kL193, kA193, kS193, kL194, kA194, kS194, kL195, kA195, kS195, kL196, kA196, kS196, kL197, kA197, kS197, kL198, kA198, kS198, kL199, kA199, kS199, kL200, kA200, kS200, kL201, kL202, kA202, kS202, kL203, kA203, kS203, kL204, kA204, kS204, kL205, kL206, kA206, kS206, hx0, hx9, hG.2.2.2.2.1, hn0, keep_ok hS hnx hq p1 p2, nI_i64]
    rw [glass11_l (st := st) hS hG1 hs (by rw [kpI_out (by omega) (by omega)]; exact H.sts), hJ]
  · unfold f_X12_glass
    have m1 : f_X12_marks (xw σ J) 183 = _ := marks_ok (ea := ea) (q := q) hS hea hq (by rw [uJ _ _ (by omega), kpI_out (by omega) (by omega)]; exact p3) (by rw [uJ _ _ (by omega), kpI_out (by omega) (by omega)]; exact p4)
    simp (disch := first | assumption | omega) only [Option.bind_some, Option.map_some, xw_gR, xw_gN, xw_al, xw_ck, xw_uI, xw_ur, xup_at, xur_at, if_true, if_false, reduceIte, and_true, true_and, and_false, false_and, not_true_eq_false, not_false_eq_true, Nat.reduceEqDiff, eq_self, Nat.reduceAdd, Nat.reduceMul, kC1, kG1, kP1, kR1_0, kR1_1, kR1_2, kR1_3, kR1_4, kR1_5, kR1_6, kR1_7, kR1_8, kR1_9, kR1_10, kR1_11, kR1_12, kR1_13, kC2, kG2, kP2, kR2_0, kR2_1, kC3, kG3, kP3, kR3_0, kR3_1, kR3_2, kR3_3, kL4, kA4, kS4, kL5, kA5, kS5, kL6, kA6, kS6, kL7, kA7, kS7, kC8, kG8, kP8, kR8_0, kR8_1, kL9, kA9, kS9, kL10, kA10, kS10, kC11, kG11, kP11, kR11_0, kR11_1, kR11_2, kR11_3, kL12, kA12, kS12, kL13, kA13, kS13, kL14, kA14, kS14, kL15, kA15, kS15, kC16, kG16, kP16, kR16_0, kR16_1, kL17, kA17, kS17, kL18, kA18, kS18, kC19, kG19, kP19, kR19_0, kL20, kL141, kL146, kA146, kS146, kL151, kA151, kS151, kL156, kA156, kS156, kC157, kG157, kP157, kR157_0, kR157_1, kL158, kA158, kS158, kL159, kA159, kS159, kC161, kG161, kP161, kR161_0, kR161_1, kL162, kA162, kS162, kL163, kA163, kS163, kC165, kG165, kP165, kR165_0, kR165_1, kR165_2, kR165_3, kL166, kA166, kS166, kL167, kA167, kS167, kL168, kA168, kS168, kL169, kA169, kS169, kC170, kG170, kP170, kR170_0, kR170_1, kR170_2, kL171, kA171, kS171, kL172, kA172, kS172, kL173, kA173, kS173, kC174, kG174, kP174, kR174_0, kR174_1, kR174_2, kR174_3, kR174_4, kL175, kA175, kS175, kL176, kA176, kS176, kL177, kA177, kS177, kL178, kA178, kS178, kL179, kC180, kG180, kP180, kL181, kL182, kA182, kS182, kC183, kG183, kP183, kR183_1, kR183_3, kR183_5, kR183_6, kR183_7, kR183_8, kR183_9, kR183_21, kR183_26, kR183_27, kR183_30, kR183_31, kR183_33, kR183_34, kR183_36, kR183_37, kR183_38, kR183_39, kR183_40, kR183_41, kR183_42, kR183_43, kR183_44, kL184, kA184, kS184, kL185, kA185, kS185, kL186, kA186, kS186, kL187, kA187, kS187, kL188, kA188, kS188, kL189, kL190, kL191, kA191, kS191, kL192, kA192, kS192, kL193, kA193, kS193, kL194, kA194, kS194, kL195, kA195, kS195, kL196, kA196, kS196, kL197, kA197, kS197, kL198, kA198, kS198, kL199, kA199, kS199, kL200, kA200, kS200, kL201, kL202, kA202, kS202, kL203, kA203, kS203, kL204, kA204, kS204, kL205, kL206, kA206, kS206, in_9999, hin, one0, sites_ok hS hG2, hn0, m1, nI_i64]
    exact glass12_l hS hG3 (by omega) hs
  · have r191 : ∀ k, xup (glI g s (mkI J ea q) 191 32) 183 32 0 191 k = if k < 32 ∧ gTo g k ≠ none then gLv g s k else xI σ 191 k := by
      intro k
      rw [xup_at, if_neg (by omega)]
      unfold glI
      simp only [true_and]
      split
      · rfl
      · rw [mkI_out (by omega) (by omega), uJ _ _ (by omega), kpI_out (by omega) (by omega)]
    refine INV_i (H.hand hq hnx hea p3 p8 (I2 := J) uJ ?_ (Nat.le_succ _) (Nat.succ_le_succ H.stn) (fun t ht => gUp_old (by omega)) (fun t ht => gUp_old (by omega)) ?_ (LV_glass (I := xI σ) hG.1 H.now ?_ ?_ ?_ ?_ ?_ ?_ ?_) (.inl ?_))
    · intro a k h; rw [xup_at, if_neg (by omega), glI_out (by omega)]
    · rw [mo _ _ (by omega), hJ, xup_at, if_neg (by omega), xup_at, if_neg (by omega), xup_at, if_pos ⟨rfl, rfl⟩]
    · intro k hk
      rw [mo _ _ (by omega), hJ, xup_at, if_neg (by omega), xup_at, if_neg (by omega), xup_at, if_neg (by omega), glI_out (by omega), kpI_out (by omega) (by omega)]
    · rw [mo _ _ (by omega), hJ, xup_at, if_neg (by omega), xup_at, if_pos ⟨rfl, rfl⟩]
    · rw [mo _ _ (by omega), hJ, xup_at, if_pos ⟨rfl, rfl⟩]
    · intro t ht
      rw [mo _ _ (by omega), r191, hJ, xup_at, if_neg (by omega), xup_at, if_neg (by omega), xup_at, if_neg (by omega)]
      unfold glI
      cases he : gTo g t with
      | none =>
        simp
        exact kpI_out (by omega) (by omega)
      | some e => simp [ht]
    · intro k hk
      rw [mo _ _ (by omega), hJ, xup_at, if_neg (by omega), xup_at, if_neg (by omega), xup_at, if_neg (by omega), glI_out (by omega), kpI_out (by omega) (by omega)]
    · intro t ht
      rw [r191]
      split
      · exact gLv_b _ _ _
      · exact H.now.2.1.1 t (by omega)
    · intro k hk
      rw [r191, if_neg (by omega)]
    · rw [xup_at, if_pos ⟨rfl, rfl⟩]
