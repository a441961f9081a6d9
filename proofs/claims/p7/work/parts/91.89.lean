/-! the model's own notes change -/
theorem IV.model {n : Nat} {σ : XS} {g : GD} {gT gP : GH} {st : Nat} (H : IV n σ g gT gP st) {I' : Nat → Nat → Int32} (u : ∀ a k, (a < 183 ∨ 206 < a ∨ a = 184 ∨ a = 191 ∨ (193 ≤ a ∧ a ≤ 195) ∨ (a = 183 ∧ (k = 2 ∨ (16 ≤ k ∧ k ≤ 20) ∨ k = 28 ∨ k = 29))) → I' a k = xI σ a k) (hk : KNW I' g) : IV n (xw σ I') g gT gP st := by
  have hg := H.grd.1
  have hc := H.cells
  refine ⟨H.shp, H.stn, (u 1 15 (by omega)).trans H.sts, TAP_c (fun a k q => u a k (by unfold sTAP at q; omega)) H.tap, ?_, GRD_c (fun a k q => u a k (by unfold sGRD at q; omega)) H.grd, NOW_c hg (fun a k q => u a k (by unfold sNOW at q; omega)) H.now, PST_c hg (fun a k q => u a k (by unfold sPST at q; omega)) (Nat.le_refl _) (fun _ _ => rfl) (fun _ _ => rfl) H.pst, SLT_c hg (fun a k q => u a k (by unfold sSLT at q; omega)) (Nat.le_refl _) (fun _ _ => rfl) (fun _ _ => rfl) H.slt, CCH_c (fun a k q => u a k (by unfold sCCH at q; rw [xw_R] at q; omega)) (Nat.le_refl _) (fun _ _ => rfl) (fun _ _ => rfl) H.cch, hk, H.cel⟩
  show I' 1 14 = I' 183 16
  rw [u _ _ (by omega), u _ _ (by omega)]; exact H.plc
theorem knows_ok {n : Nat} {σ : XS} {g : GD} {gT gP : GH} {st : Nat} (H : IV n σ g gT gP st) : ∃ I', f_X12_knows σ 183 = some (xw σ I') ∧ IV n (xw σ I') g gT gP st ∧ KNK I' g (I' 191) ∧ (∀ b j, ¬ (196 ≤ b ∧ b ≤ 198) → ¬ (b = 183 ∧ (j = 32 ∨ j = 35)) → I' b j = xI σ b j) := by
  have hS := H.shp
  have hG := H.grd
  rcases H.knw with h0 | ⟨h1, hk⟩
  · obtain ⟨z, hz⟩ : ∃ z, z = xup (xI σ) 183 32 1 := ⟨_, rfl⟩
    have uz : ∀ a k, ¬ (a = 183 ∧ k = 32) → z a k = xI σ a k := fun a k h => by rw [hz, xup_at, if_neg h]
    have hGz : GRD z g := GRD_c (fun a k q => uz a k (by unfold sGRD at q; omega)) hG
    have hrow : z 191 = xI σ 191 := by funext k; exact uz 191 k (by omega)
    obtain ⟨J, e1, j1, j2⟩ := knows_l2 (I := z) hS hGz rfl (by rw [hrow]; exact H.now.2.1)
    have rJ : J 191 = xI σ 191 := by funext k; rw [j2 191 k (by omega) (by omega), hrow]
    have uJ : ∀ b j, ¬ (196 ≤ b ∧ b ≤ 198) → ¬ (b = 183 ∧ (j = 32 ∨ j = 35)) → J b j = xI σ b j := fun b j h1 h2 => by rw [j2 b j h1 (by omega), uz b j (by omega)]
    have kJ : KNK J g (J 191) := by rw [rJ, ← hrow]; exact j1
    refine ⟨J, ?_, H.model (fun a k h => uJ a k (by omega) (by omega)) (.inr ⟨?_, kJ⟩), kJ, uJ⟩
    · show f_X12_knows (xw σ (xI σ)) 183 = _
      unfold f_X12_knows
      simp (disch := first | assumption | omega) only [Option.bind_some, Option.map_some, xw_gR, xw_gN, xw_al, xw_ck, xw_uI, xw_ur, xup_at, xur_at, if_true, if_false, reduceIte, and_true, true_and, and_false, false_and, not_true_eq_false, not_false_eq_true, Nat.reduceEqDiff, eq_self, Nat.reduceAdd, Nat.reduceMul, kC1, kG1, kP1, kR1_0, kR1_1, kR1_2, kR1_3, kR1_4, kR1_5, kR1_6, kR1_7, kR1_8, kR1_9, kR1_10, kR1_11, kR1_12, kR1_13, kC2, kG2, kP2, kR2_0, kR2_1, kC3, kG3, kP3, kR3_0, kR3_1, kR3_2, kR3_3, kL4, kA4, kS4, kL5, kA5, kS5, kL6, kA6, kS6, kL7, kA7, kS7, kC8, kG8, kP8, kR8_0, kR8_1, kL9, kA9, kS9, kL10, kA10, kS10, kC11, kG11, kP11, kR11_0, kR11_1, kR11_2, kR11_3, kL12, kA12, kS12, kL13, kA13, kS13, kL14, kA14, kS14, kL15, kA15, kS15, kC16, kG16, kP16, kR16_0, kR16_1, kL17, kA17, kS17, kL18, kA18, kS18, kC19, kG19, kP19, kR19_0, kL20, kL141, kL146, kA146, kS146, kL151, kA151, kS151, kL156, kA156, kS156, kC157, kG157, kP157, kR157_0, kR157_1, kL158, kA158, kS158, kL159, kA159, kS159, kC161, kG161, kP161, kR161_0, kR161_1, kL162, kA162, kS162, kL163, kA163, kS163, kC165, kG165, kP165, kR165_0, kR165_1, kR165_2, kR165_3, kL166, kA166, kS166, kL167, kA167, kS167, kL168, kA168, kS168, kL169, kA169, kS169, kC170, kG170, kP170, kR170_0, kR170_1, kR170_2, kL171, kA171, kS171, kL172, kA172, kS172, kL173, kA173, kS173, kC174, kG174, kP174, kR174_0, kR174_1, kR174_2, kR174_3, kR174_4, kL175, kA175, kS175, kL176, kA176, kS176, kL177, kA177, kS177, kL178, kA178, kS178, kL179, kC180, kG180, kP180, kL181, kL182, kA182, kS182, kC183, kG183, kP183, kR183_1, kR183_3, kR183_5, kR183_6, kR183_7, kR183_8, kR183_9, kR183_21, kR183_26, kR183_27, kR183_30, kR183_31, kR183_33, kR183_34, kR183_36, kR183_37, kR183_38, kR183_39, kR183_40, kR183_41, kR183_42, kR183_43, kR183_44, kL184, kA184, kS184, kL185, kA185, kS185, kL186, kA186, kS186, kL187, kA187, kS187, kL188, kA188, kS188, kL189, kL190, kL191, kA191, kS191, kL192, kA192, kS192, kL193, kA193, kS193, kL194, kA194, kS194, kL195, kA195, kS195, kL196, kA196, kS196, kL197, kA197, kS197, kL198, kA198, kS198, kL199, kA199, kS199, kL200, kA200, kS200, kL201, kL202, kA202, kS202, kL203, kA203, kS203, kL204, kA204, kS204, kL205, kL206, kA206, kS206, h0]
      rw [← hz]
      refine xforE (fun j : Nat => (nI j, xw σ (fun c k => if c = 197 ∧ k < j then nI 0 else z c k))) 301 ?_ (fun j hj => ?_) ?_
      · congr 2
        funext c k
        rw [if_neg (by omega)]
      · simp only [f_X12_knows_b15]
        rw [if_neg (by rw [show (301 : Int32) = nI 301 from rfl, nn_le (by omega) (by omega)]; omega)]
        simp (disch := first | assumption | omega) only [Option.bind_some, Option.map_some, xw_gR, xw_gN, xw_al, xw_ck, xw_uI, xw_ur, xup_at, xur_at, if_true, if_false, reduceIte, and_true, true_and, and_false, false_and, not_true_eq_false, not_false_eq_true, Nat.reduceEqDiff, eq_self, Nat.reduceAdd, Nat.reduceMul, kC1, kG1, kP1, kR1_0, kR1_1, kR1_2, kR1_3, kR1_4, kR1_5, kR1_6, kR1_7, kR1_8, kR1_9, kR1_10, kR1_11, kR1_12, kR1_13, kC2, kG2, kP2, kR2_0, kR2_1, kC3, kG3, kP3, kR3_0, kR3_1, kR3_2, kR3_3, kL4, kA4, kS4, kL5, kA5, kS5, kL6, kA6, kS6, kL7, kA7, kS7, kC8, kG8, kP8, kR8_0, kR8_1, kL9, kA9, kS9, kL10, kA10, kS10, kC11, kG11, kP11, kR11_0, kR11_1, kR11_2, kR11_3, kL12, kA12, kS12, kL13, kA13, kS13, kL14, kA14, kS14, kL15, kA15, kS15, kC16, kG16, kP16, kR16_0, kR16_1, kL17, kA17, kS17, kL18, kA18, kS18, kC19, kG19, kP19, kR19_0, kL20, kL141, kL146, kA146, kS146, kL151, kA151, kS151, kL156, kA156, kS156, kC157, kG157, kP157, kR157_0, kR157_1, kL158, kA158, kS158, kL159, kA159, kS159, kC161, kG161, kP161, kR161_0, kR161_1, kL162, kA162, kS162, kL163, kA163, kS163, kC165, kG165, kP165, kR165_0, kR165_1, kR165_2, kR165_3, kL166, kA166, kS166, kL167, kA167, kS167, kL168, kA168, kS168, kL169, kA169, kS169, kC170, kG170, kP170, kR170_0, kR170_1, kR170_2, kL171, kA171, kS171, kL172, kA172, kS172, kL173, kA173, kS173, kC174, kG174, kP174, kR174_0, kR174_1, kR174_2, kR174_3, kR174_4, kL175, kA175, kS175, kL176, kA176, kS176, kL177, kA177, kS177, kL178, kA178, kS178, kL179, kC180, kG180, kP180, kL181, kL182, kA182, kS182, kC183, kG183, kP183, kR183_1, kR183_3, kR183_5, kR183_6, kR183_7, kR183_8, kR183_9, kR183_21, kR183_26, kR183_27, kR183_30, kR183_31, kR183_33, kR183_34, kR183_36, kR183_37, kR183_38, kR183_39, kR183_40, kR183_41, kR183_42, kR183_43, kR183_44, kL184, kA184, kS184, kL185, kA185, kS185, kL186, kA186, kS186, kL187, kA187, kS187, kL188, kA188, kS188, kL189, kL190, kL191, kA191, kS191, kL192, kA192, kS192, kL193, kA193, kS193, kL194, kA194, kS194, kL195, kA195, kS195, kL196, kA196, kS196, kL197, kA197, kS197, kL198, kA198, kS198, kL199, kA199, kS199, kL200, kA200, kS200, kL201, kL202, kA202, kS202, kL203, kA203, kS203, kL204, kA204, kS204, kL205, kL206, kA206, kS206]
        rw [nI_succ]
        congr 4
        funext c k
        simp only [xup_at]
        by_cases q : c = 197
        · subst q
          by_cases q2 : k = j
          · subst q2; simp; rfl
          · have : (k < j + 1) ↔ (k < j) := by omega
            simp [q2, this]
        · simp [q]
      · simp only [f_X12_knows_b15]
        rw [if_pos (by decide)]
        have e : (fun c k => if c = 197 ∧ k < 301 then nI 0 else z c k) = knI z g (z 191) 0 := by
          funext c k
          unfold knI
          rw [if_neg (show ¬ (c = 196 ∧ k < 0) by omega)]
          rfl
        rw [e, e1]
        rfl
    · rw [j2 183 32 (by omega) (by omega), hz, xup_at, if_pos ⟨rfl, rfl⟩]
  · refine ⟨xI σ, ?_, H, hk, fun _ _ _ _ => rfl⟩
    show f_X12_knows (xw σ (xI σ)) 183 = _
    unfold f_X12_knows
    simp (disch := first | assumption | omega) only [Option.bind_some, Option.map_some, xw_gR, xw_gN, xw_al, xw_ck, xw_uI, xw_ur, xup_at, xur_at, if_true, if_false, reduceIte, and_true, true_and, and_false, false_and, not_true_eq_false, not_false_eq_true, Nat.reduceEqDiff, eq_self, Nat.reduceAdd, Nat.reduceMul, kC1, kG1, kP1, kR1_0, kR1_1, kR1_2, kR1_3, kR1_4, kR1_5, kR1_6, kR1_7, kR1_8, kR1_9, kR1_10, kR1_11, kR1_12, kR1_13, kC2, kG2, kP2, kR2_0, kR2_1, kC3, kG3, kP3, kR3_0, kR3_1, kR3_2, kR3_3, kL4, kA4, kS4, kL5, kA5, kS5, kL6, kA6, kS6, kL7, kA7, kS7, kC8, kG8, kP8, kR8_0, kR8_1, kL9, kA9, kS9, kL10, kA10, kS10, kC11, kG11, kP11, kR11_0, kR11_1, kR11_2, kR11_3, kL12, kA12, kS12, kL13, kA13, kS13, kL14, kA14, kS14, kL15, kA15, kS15, kC16, kG16, kP16, kR16_0, kR16_1, kL17, kA17, kS17, kL18, kA18, kS18, kC19, kG19, kP19, kR19_0, kL20, kL141, kL146, kA146, kS146, kL151, kA151, kS151, kL156, kA156, kS156, kC157, kG157, kP157, kR157_0, kR157_1, kL158, kA158, kS158, kL159, kA159, kS159, kC161, kG161, kP161, kR161_0, kR161_1, kL162, kA162, kS162, kL163, kA163, kS163, kC165, kG165, kP165, kR165_0, kR165_1, kR165_2, kR165_3, kL166, kA166, kS166, kL167, kA167, kS167, kL168, kA168, kS168, kL169, kA169, kS169, kC170, kG170, kP170, kR170_0, kR170_1, kR170_2, kL171, kA171, kS171, kL172, kA172, kS172, kL173, kA173, kS173, kC174, kG174, kP174, kR174_0, kR174_1, kR174_2, kR174_3, kR174_4, kL175, kA175, kS175, kL176, kA176, kS176, kL177, kA177, kS177, kL178, kA178, kS178, kL179, kC180, kG180, kP180, kL181, kL182, kA182, kS182, kC183, kG183, kP183, kR183_1, kR183_3, kR183_5, kR183_6, kR183_7, kR183_8, kR183_9, kR183_21, kR183_26, kR183_27, kR183_30, kR183_31, kR183_33, kR183_34, kR183_36, kR183_37, kR183_38, kR183_39, kR183_40, kR183_41, kR183_42, kR183_43, kR183_44, kL184, kA184, kS184, kL185, kA185, kS185, kL186, kA186, kS186, kL187, kA187, kS187, kL188, kA188, kS188, kL189, kL190, kL191, kA191, kS191, kL192, kA192, kS192, kL193, kA193, kS193, kL194, kA194, kS194, kL195, kA195, kS195, kL196, kA196, kS196, kL197, kA197, kS197, kL198, kA198, kS198, kL199, kA199, kS199, kL200, kA200, kS200, kL201, kL202, kA202, kS202, kL203, kA203, kS203, kL204, kA204, kS204, kL205, kL206, kA206, kS206, h1, one0]
