/-! the other lines -/
section TELL2
variable {σ : XS} {J0 J : Nat → Nat → Int32} {b : Nat → Int32} {m T w l r c : Nat}
theorem tell2 (hS : Shp σ) (hC : CT J0 b m T) (h4c : 4 ≤ c) (hws : ws b m c = some 4) (hc : c < T) (hD : DR J0 J b m w l r c) (hL : LN2 b m c) : ∃ J', f_X1_takeTell (xw σ J) 2 = some (xw σ J') ∧ DR J0 J' b m w l r (lnE b m c + 1) ∧ linF b m w l r c = none := by
  obtain ⟨d1, d2, d3, d4, d5, d6, d7, d8, d9, d10, d11⟩ := id hD
  obtain ⟨hk, -⟩ := hL
  have hT := hC.1
  have hend := (line_at hT hws hc).2.2.2.1
  have hE : lnE b m c = c + 2 := by unfold lnE; rw [if_pos (by omega)]
  have T4 := hT.2.1
  have hCJ : CT J b m T := CT_c (fun a q h1 h2 h3 h4 => d1 a q (by omega)) hC
  have hC1 : ∀ v, CT (xup J 2 4 v) b m T := fun v => CT_c (fun a q h1 _ _ _ => by rw [xup_at, if_neg (by omega)]) hCJ
  have tk := tkKind (σ := σ) hS hCJ (show c ≤ T by omega) d4
  have tk2 := tkKind (σ := σ) hS (hC1 (nI (c + 1))) (show c + 1 ≤ T by omega) (by rw [xup_at, if_pos ⟨rfl, rfl⟩])
  rw [xup2] at tk2
  have jo := j133_ok (σ := σ) hS (hC1 (nI (c + 1 + 1))) (e := c + 2) (by omega) (by rw [xup_at, if_pos ⟨rfl, rfl⟩])
  rw [xup2] at jo
  refine ⟨xup J 2 4 (nI (c + 2 + 1)), ?_, ?_, ?_⟩
  · unfold f_X1_takeTell
    rw [xw_ck, kC2 hS, Option.bind_some, tk, Option.bind_some]
    dsimp only
    rw [xsw6 (by have := tKd_b (b := b) (m := m) c; omega), if_neg (by omega), hk]
    show ((xck (xw σ (xup J 2 4 (nI (c + 1)))) 2 1).bind fun _ => (f_X1_takeKind (xw σ (xup J 2 4 (nI (c + 1)))) 2).bind fun (v8, σ7) => f_X1_takeTell_j133 σ7 2) = _
    rw [xw_ck, kC2 hS, Option.bind_some, tk2, Option.bind_some]
    exact jo
  · refine DR_same hT h4c hws hc hD (by omega) (by rw [xup_at, if_pos ⟨rfl, rfl⟩, hE]) (fun a q h1 h2 => by rw [xup_at, if_neg (by omega)]) ?_ ?_ ?_ ?_
    · rw [if_neg (by omega), xup_at, if_neg (by omega)]; exact d6.1
    · rw [if_neg (by omega), xup_at, if_neg (by omega)]; exact d6.2.1
    · rw [if_neg (by omega), xup_at, if_neg (by omega)]; exact d6.2.2
    · rw [if_neg (by omega), xup_at, if_neg (by omega)]; exact d11
  · unfold linF
    rw [if_neg (by omega), if_neg (by omega), if_neg (by omega), if_neg (by omega)]
theorem tell6 (hS : Shp σ) (hC : CT J0 b m T) (h4c : 4 ≤ c) (hws : ws b m c = some 4) (hc : c < T) (hD : DR J0 J b m w l r c) (hL : LN6 b m c) : ∃ J', f_X1_takeTell (xw σ J) 2 = some (xw σ J') ∧ DR J0 J' b m w l r (lnE b m c + 1) ∧ linF b m w l r c = none := by
  obtain ⟨d1, d2, d3, d4, d5, d6, d7, d8, d9, d10, d11⟩ := id hD
  obtain ⟨hk, hk1⟩ := hL
  have hT := hC.1
  have hend := (line_at hT hws hc).2.2.2.1
  have hE : lnE b m c = c + 2 := by unfold lnE; rw [if_pos (by omega)]
  have T4 := hT.2.1
  have hCJ : CT J b m T := CT_c (fun a q h1 h2 h3 h4 => d1 a q (by omega)) hC
  have hC1 : ∀ v, CT (xup J 2 4 v) b m T := fun v => CT_c (fun a q h1 _ _ _ => by rw [xup_at, if_neg (by omega)]) hCJ
  have tk := tkKind (σ := σ) hS hCJ (show c ≤ T by omega) d4
  have tk2 := tkInt (σ := σ) hS (hC1 (nI (c + 1))) (show c + 1 < T by omega) hk1 (by rw [xup_at, if_pos ⟨rfl, rfl⟩])
  rw [xup2] at tk2
  have hC2 : CT (xup (xup J 2 4 (nI (c + 1 + 1))) 8 5 (nI (tNu b m (c + 1)))) b m T := CT_c (fun a q h1 h2 h3 h4 => by rw [xup_at, if_neg (by omega), xup_at, if_neg (by omega)]) hCJ
  have jo := j133_ok (σ := σ) hS hC2 (e := c + 2) (by omega) (by rw [xup_at, if_neg (by omega), xup_at, if_pos ⟨rfl, rfl⟩])
  refine ⟨xup (xup (xup J 2 4 (nI (c + 1 + 1))) 8 5 (nI (tNu b m (c + 1)))) 2 4 (nI (c + 2 + 1)), ?_, ?_, ?_⟩
  · unfold f_X1_takeTell
    rw [xw_ck, kC2 hS, Option.bind_some, tk, Option.bind_some]
    dsimp only
    rw [xsw6 (by have := tKd_b (b := b) (m := m) c; omega), if_neg (by omega), hk]
    show ((xgR (xw σ (xup J 2 4 (nI (c + 1)))) 2 1 1).bind fun z6 => (xck (xw σ (xup J 2 4 (nI (c + 1)))) 2 1).bind fun _ => (f_X1_takeInt (xw σ (xup J 2 4 (nI (c + 1)))) 2).bind fun (v10, σ9) => (xpI σ9 z6 6 5 v10).bind fun σ12 => f_X1_takeTell_j133 σ12 2) = _
    rw [xw_gR, kR2_1 hS, Option.bind_some, xw_ck, kC2 hS, Option.bind_some, tk2, Option.bind_some]
    dsimp only
    rw [kP8 hS, Option.bind_some]
    exact jo
  · refine DR_same hT h4c hws hc hD (by omega) (by rw [xup_at, if_pos ⟨rfl, rfl⟩, hE]) (fun a q h1 h2 => by rw [xup_at, if_neg (by omega), xup_at, if_neg (by omega), xup_at, if_neg (by omega)]) ?_ ?_ ?_ ?_
    · rw [if_neg (by omega), xup_at, if_neg (by omega), xup_at, if_neg (by omega), xup_at, if_neg (by omega)]; exact d6.1
    · rw [if_neg (by omega), xup_at, if_neg (by omega), xup_at, if_neg (by omega), xup_at, if_neg (by omega)]; exact d6.2.1
    · rw [if_neg (by omega), xup_at, if_neg (by omega), xup_at, if_neg (by omega), xup_at, if_neg (by omega)]; exact d6.2.2
    · rw [if_pos hk, xup_at, if_neg (by omega), xup_at, if_pos ⟨rfl, rfl⟩]
  · unfold linF
    rw [if_neg (by omega), if_neg (by omega), if_neg (by omega), if_neg (by omega)]
theorem badS_n (h : tKd b m c ≠ 10) : badS b m w l r c = decide (w * l ≤ tNu b m (c + 1)) := by
  unfold badS
  rw [decide_eq_false h, Bool.false_and, Bool.or_false]
theorem tell5 (hS : Shp σ) (hC : CT J0 b m T) (hwl : w * l ≤ 16) (h4c : 4 ≤ c) (hws : ws b m c = some 4) (hc : c < T) (hD : DR J0 J b m w l r c) (hL : LN5 b m c) : ∃ J', f_X1_takeTell (xw σ J) 2 = some (xw σ J') ∧ (linF b m w l r c = none → DR J0 J' b m w l r (lnE b m c + 1)) ∧ ∀ x j, linF b m w l r c = some (x, j) → DF J0 J' b m x j := by
  obtain ⟨d1, d2, d3, d4, d5, d6, d7, d8, d9, d10, d11⟩ := id hD
  obtain ⟨hk, hk1, hk2⟩ := hL
  obtain ⟨p, u, p1, p2, p3, p4⟩ := d9
  have hT := hC.1
  have hend := (line_at hT hws hc).2.2.2.1
  have hE : lnE b m c = c + 3 := by unfold lnE; rw [if_neg (by omega), if_neg (by omega), if_neg (by omega), if_pos hk]
  have T4 := hT.2.1
  have hCJ : CT J b m T := CT_c (fun a q h1 h2 h3 h4 => d1 a q (by omega)) hC
  have hlin : linF b m w l r c = if decide (w * l ≤ tNu b m (c + 1)) = true then some (4, c + 1) else none := by
    unfold linF
    rw [if_neg (by omega), if_neg (by omega), if_neg (by omega), if_pos hk, badS_n (by omega)]
  obtain ⟨J1, hJ1⟩ : ∃ J1, J1 = xup J 2 4 (nI (c + 1)) := ⟨_, rfl⟩
  have v1 : ∀ a q, ¬ (a = 2 ∧ q = 4) → J1 a q = J a q := fun a q h => by rw [hJ1, xup_at, if_neg h]
  have hC1 : CT J1 b m T := CT_c (fun a q h1 _ _ _ => v1 a q (by omega)) hCJ
  have tk := tkKind (σ := σ) hS hCJ (show c ≤ T by omega) d4
  rw [← hJ1] at tk
  have ts := takeSite_ok (σ := σ) (J := J1) hS hC1 (show c + 1 < T by omega) hk1 (by rw [hJ1, xup_at, if_pos ⟨rfl, rfl⟩]) (by rw [v1 _ _ (by omega)]; exact d5.1) (by rw [v1 _ _ (by omega)]; exact d5.2.1) (by omega)
  obtain ⟨J2, hJ2⟩ : ∃ J2, J2 = blI (xup J1 2 4 (nI (c + 1 + 1))) (decide (w * l ≤ tNu b m (c + 1))) 4 (nI (tSt b m (c + 1))) := ⟨_, rfl⟩
  rw [← hJ2] at ts
  have u2 : ∀ a q, ¬ (a = 2 ∧ (q = 2 ∨ q = 3)) → ¬ (a = 2 ∧ q = 4) → J2 a q = J a q := fun a q h1 h2 => by rw [hJ2, blI_out h1, xup_at, if_neg h2]; exact v1 a q h2
  have c2 : J2 2 4 = nI (c + 2) := by rw [hJ2, blI_out (by omega), xup_at, if_pos ⟨rfl, rfl⟩]
  have hC2 : CT J2 b m T := CT_c (fun a q h1 _ _ _ => u2 a q (by omega) (by omega)) hCJ
  have tk2 := tkKind (σ := σ) hS hC2 (show c + 2 ≤ T by omega) c2
  obtain ⟨J3, hJ3⟩ : ∃ J3, J3 = xup J2 2 4 (nI (c + 2 + 1)) := ⟨_, rfl⟩
  rw [← hJ3] at tk2
  have q13 : (nI (tKd b m (c + 2)) = (13 : Int32)) = (tKd b m (c + 2) = 13) := nn_eq (b := 13) (by omega) (by decide)
  obtain ⟨hv, hhv⟩ : ∃ hv : Int32, hv = if tKd b m (c + 2) = 13 then 1 else 2 := ⟨_, rfl⟩
  have start : ∀ J5, f_X1_takePin_j19 (xw σ J3) 2 (nI (tNu b m (c + 1))) hv = some (xw σ J5) → CT J5 b m T → J5 2 4 = nI (c + 3) → f_X1_takeTell (xw σ J) 2 = some (xw σ (xup J5 2 4 (nI (c + 3 + 1)))) := by
    intro J5 h1 h2 h3
    have pin : f_X1_takePin (xw σ J1) 2 = some (xw σ J5) := by
      unfold f_X1_takePin
      rw [xw_ck, kC2 hS, Option.bind_some, ts, Option.bind_some]
      dsimp only
      rw [xw_ck, kC2 hS, Option.bind_some, tk2, Option.bind_some]
      dsimp only
      simp only [q13]
      rw [hhv] at h1
      by_cases z : tKd b m (c + 2) = 13
      · rw [if_pos z] at h1 ⊢; exact h1
      · rw [if_neg z] at h1 ⊢; exact h1
    unfold f_X1_takeTell
    rw [xw_ck, kC2 hS, Option.bind_some, tk, Option.bind_some]
    dsimp only
    rw [xsw6 (by have := tKd_b (b := b) (m := m) c; omega), if_neg (by omega), hk]
    show ((xck (xw σ J1) 2 1).bind fun _ => (f_X1_takePin (xw σ J1) 2).bind fun σ7 => f_X1_takeTell_j133 σ7 2) = _
    rw [xw_ck, kC2 hS, Option.bind_some, pin, Option.bind_some]
    exact j133_ok hS h2 (by omega) h3
  have c3 : J3 2 4 = nI (c + 3) := by rw [hJ3, xup_at, if_pos ⟨rfl, rfl⟩]
  by_cases hbad : w * l ≤ tNu b m (c + 1)
  · have hf : J3 2 2 = 4 ∧ J3 2 3 = nI (tSt b m (c + 1)) := by
      have j0 : xup J1 2 4 (nI (c + 1 + 1)) 2 2 = 0 := by rw [xup_at, if_neg (by omega), v1 _ _ (by omega)]; exact d2
      rw [hJ3, xup_at, if_neg (by omega), xup_at, if_neg (by omega), hJ2, decide_eq_true hbad, blI_t j0, xup_at, if_neg (by omega), xup_at, if_pos ⟨rfl, rfl⟩, xup_at, if_pos ⟨rfl, rfl⟩]
      exact ⟨rfl, rfl⟩
    have j19 : f_X1_takePin_j19 (xw σ J3) 2 (nI (tNu b m (c + 1))) hv = some (xw σ J3) := by
      unfold f_X1_takePin_j19
      have q4 : ((4 : Int32) = 0) = False := eq_false (by decide)
      simp (disch := first | assumption | omega) only [Option.bind_some, Option.map_some, xw_gR, xw_gN, xw_al, xw_ck, xw_uI, xw_ur, xup_at, xur_at, if_true, if_false, reduceIte, and_true, true_and, and_false, false_and, not_true_eq_false, not_false_eq_true, Nat.reduceEqDiff, eq_self, Nat.reduceAdd, Nat.reduceMul, kC1, kG1, kP1, kR1_0, kR1_1, kR1_2, kR1_3, kR1_4, kR1_5, kR1_6, kR1_7, kR1_8, kR1_9, kR1_10, kR1_11, kR1_12, kR1_13, kC2, kG2, kP2, kR2_0, kR2_1, kC3, kG3, kP3, kR3_0, kR3_1, kR3_2, kR3_3, kL4, kA4, kS4, kL5, kA5, kS5, kL6, kA6, kS6, kL7, kA7, kS7, kC8, kG8, kP8, kR8_0, kR8_1, kL9, kA9, kS9, kL10, kA10, kS10, kC11, kG11, kP11, kR11_0, kR11_1, kR11_2, kR11_3, kL12, kA12, kS12, kL13, kA13, kS13, kL14, kA14, kS14, kL15, kA15, kS15, kC16, kG16, kP16, kR16_0, kR16_1, kL17, kA17, kS17, kL18, kA18, kS18, kC19, kG19, kP19, kR19_0, kL20, kL141, kL146, kA146, kS146, kL151, kA151, kS151, kL156, kA156, kS156, kC157, kG157, kP157, kR157_0, kR157_1, kL158, kA158, kS158, kL159, kA159, kS159, kC161, kG161, kP161, kR161_0, kR161_1, kL162, kA162, kS162, kL163, kA163, kS163, kC165, kG165, kP165, kR165_0, kR165_1, kR165_2, kR165_3, kL166, kA166, kS166, kL167, kA167, kS167, kL168, kA168, kS168, kL169, kA169, kS169, kC170, kG170, kP170, kR170_0, kR170_1, kR170_2, kL171, kA171, kS171, kL172, kA172, kS172, kL173, kA173, kS173, kC174, kG174, kP174, kR174_0, kR174_1, kR174_2, kR174_3, kR174_4, kL175, kA175, kS175, kL176, kA176, kS176, kL177, kA177, kS177, kL178, kA178, kS178, kL179, kC180, kG180, kP180, kL181, kL182, kA182, kS182, kC183, kG183, kP183, kR183_1, kR183_3, kR183_5, kR183_6, kR183_7, kR183_8, kR183_9, kR183_21, kR183_26, kR183_27, kR183_30, kR183_31, kR183_33, kR183_34, kR183_36, kR183_37, kR183_38, kR183_39, kR183_40, kR183_41, kR183_42, kR183_43, kR183_44, kL184, kA184, kS184, kL185, kA185, kS185, kL186, kA186, kS186, kL187, kA187, kS187, kL188, kA188, kS188, kL189, kL190, kL191, kA191, kS191, kL192, kA192, kS192, kL193, kA193, kS193, kL194, kA194, kS194, kL195, kA195, kS195, kL196, kA196, kS196, kL197, kA197, kS197, kL198, kA198, kS198, kL199, kA199, kS199, kL200, kA200, kS200, kL201, kL202, kA202, kS202, kL203, kA203, kS203, kL204, kA204, kS204, kL205, kL206, kA206, kS206, hf.1, q4]
    have u3 : ∀ a q, ¬ (a = 2 ∧ (q = 2 ∨ q = 3)) → ¬ (a = 2 ∧ q = 4) → J3 a q = J a q := fun a q h1 h2 => by rw [hJ3, xup_at, if_neg h2]; exact u2 a q h1 h2
    refine ⟨_, start J3 j19 (CT_c (fun a q h1 _ _ _ => u3 a q (by omega) (by omega)) hCJ) c3, fun hno => ?_, fun x j hx1 => ?_⟩
    · rw [hlin, decide_eq_true hbad, if_pos rfl] at hno; cases hno
    · rw [hlin, decide_eq_true hbad, if_pos rfl] at hx1; cases hx1
      refine ⟨fun a q h => ?_, ?_, ?_⟩
      · rw [xup_at, if_neg (by omega), u3 a q (by omega) (by omega)]; exact d1 a q h
      · rw [xup_at, if_neg (by omega)]; exact hf.1
      · rw [xup_at, if_neg (by omega)]; exact hf.2
  · have e2 : J2 = xup J1 2 4 (nI (c + 1 + 1)) := by rw [hJ2, decide_eq_false hbad, blI_f]
    have v3 : ∀ a q, ¬ (a = 2 ∧ q = 4) → J3 a q = J a q := fun a q h => by rw [hJ3, xup_at, if_neg h, e2, xup_at, if_neg h]; exact v1 a q h
    obtain ⟨s, hs⟩ : ∃ s, s = tNu b m (c + 1) := ⟨_, rfl⟩
    have s16 : s < 16 := by omega
    have sp := setPin8 (σ := σ) (J := J3) (i := s) hS (by rw [v3 _ _ (by omega)]; exact p1) (by rw [v3 _ _ (by omega)]; exact p2) (by omega) hv
    have j19 : f_X1_takePin_j19 (xw σ J3) 2 (nI (tNu b m (c + 1))) hv = some (xw σ (xup (xup J3 8 2 (nI (pN p s hv))) 8 3 (nI (uN2 u s hv)))) := by
      rw [← hs]
      unfold f_X1_takePin_j19
      have z2 : J3 2 2 = 0 := by rw [v3 _ _ (by omega)]; exact d2
      simp (disch := first | assumption | omega) only [Option.bind_some, Option.map_some, xw_gR, xw_gN, xw_al, xw_ck, xw_uI, xw_ur, xup_at, xur_at, if_true, if_false, reduceIte, and_true, true_and, and_false, false_and, not_true_eq_false, not_false_eq_true, Nat.reduceEqDiff, eq_self, Nat.reduceAdd, Nat.reduceMul, kC1, kG1, kP1, kR1_0, kR1_1, kR1_2, kR1_3, kR1_4, kR1_5, kR1_6, kR1_7, kR1_8, kR1_9, kR1_10, kR1_11, kR1_12, kR1_13, kC2, kG2, kP2, kR2_0, kR2_1, kC3, kG3, kP3, kR3_0, kR3_1, kR3_2, kR3_3, kL4, kA4, kS4, kL5, kA5, kS5, kL6, kA6, kS6, kL7, kA7, kS7, kC8, kG8, kP8, kR8_0, kR8_1, kL9, kA9, kS9, kL10, kA10, kS10, kC11, kG11, kP11, kR11_0, kR11_1, kR11_2, kR11_3, kL12, kA12, kS12, kL13, kA13, kS13, kL14, kA14, kS14, kL15, kA15, kS15, kC16, kG16, kP16, kR16_0, kR16_1, kL17, kA17, kS17, kL18, kA18, kS18, kC19, kG19, kP19, kR19_0, kL20, kL141, kL146, kA146, kS146, kL151, kA151, kS151, kL156, kA156, kS156, kC157, kG157, kP157, kR157_0, kR157_1, kL158, kA158, kS158, kL159, kA159, kS159, kC161, kG161, kP161, kR161_0, kR161_1, kL162, kA162, kS162, kL163, kA163, kS163, kC165, kG165, kP165, kR165_0, kR165_1, kR165_2, kR165_3, kL166, kA166, kS166, kL167, kA167, kS167, kL168, kA168, kS168, kL169, kA169, kS169, kC170, kG170, kP170, kR170_0, kR170_1, kR170_2, kL171, kA171, kS171, kL172, kA172, kS172, kL173, kA173, kS173, kC174, kG174, kP174, kR174_0, kR174_1, kR174_2, kR174_3, kR174_4, kL175, kA175, kS175, kL176, kA176, kS176, kL177, kA177, kS177, kL178, kA178, kS178, kL179, kC180, kG180, kP180, kL181, kL182, kA182, kS182, kC183, kG183, kP183, kR183_1, kR183_3, kR183_5, kR183_6, kR183_7, kR183_8, kR183_9, kR183_21, kR183_26, kR183_27, kR183_30, kR183_31, kR183_33, kR183_34, kR183_36, kR183_37, kR183_38, kR183_39, kR183_40, kR183_41, kR183_42, kR183_43, kR183_44, kL184, kA184, kS184, kL185, kA185, kS185, kL186, kA186, kS186, kL187, kA187, kS187, kL188, kA188, kS188, kL189, kL190, kL191, kA191, kS191, kL192, kA192, kS192, kL193, kA193, kS193, kL194, kA194, kS194, kL195, kA195, kS195, kL196, kA196, kS196, kL197, kA197, kS197, kL198, kA198, kS198, kL199, kA199, kS199, kL200, kA200, kS200, kL201, kL202, kA202, kS202, kL203, kA203, kS203, kL204, kA204, kS204, kL205, kL206, kA206, kS206, z2, sp]
    have hv0 : hv ≠ 0 := by rw [hhv]; split <;> decide
    have hv1 : (hv = 1) ↔ tKd b m (c + 2) = 13 := by
      rw [hhv]
      by_cases z : tKd b m (c + 2) = 13
      · rw [if_pos z]; simp [z]
      · rw [if_neg z]; simp [z]
    refine ⟨_, start _ j19 (CT_c (fun a q h1 h2 _ _ => by rw [xup_at, if_neg (by omega), xup_at, if_neg (by omega)]; exact v3 a q (by omega)) hCJ) (by rw [xup_at, if_neg (by omega), xup_at, if_neg (by omega)]; exact c3), fun hno => ?_, fun x j hx1 => ?_⟩
    · have fr : ∀ a q, ¬ (a = 2 ∧ q = 4) → ¬ (a = 8 ∧ (q = 2 ∨ q = 3)) → xup (xup (xup J3 8 2 (nI (pN p s hv))) 8 3 (nI (uN2 u s hv))) 2 4 (nI (c + 3 + 1)) a q = J a q := fun a q h1 h2 => by rw [xup_at, if_neg h1, xup_at, if_neg (by omega), xup_at, if_neg (by omega)]; exact v3 a q h1
      refine DR_next hT h4c hws hc hD (fun a q h => by rw [fr a q (by omega) (by omega)]; exact d1 a q h) (by rw [fr _ _ (by omega) (by omega)]; exact d2) (by rw [fr _ _ (by omega) (by omega)]; exact d3) (by rw [xup_at, if_pos ⟨rfl, rfl⟩, hE]) (fun q h1 h2 => fr _ _ (by omega) (by omega)) ?_ ?_ ?_ (fun t ht => ?_) (fun i hi => ?_) ?_ (by rw [fr _ _ (by omega) (by omega)]; exact d10) (by rw [if_neg (by omega), fr _ _ (by omega) (by omega)]; exact d11)
      · rw [if_neg (by omega), fr _ _ (by omega) (by omega)]; exact d6.1
      · rw [if_neg (by omega), fr _ _ (by omega) (by omega)]; exact d6.2.1
      · rw [if_neg (by omega), fr _ _ (by omega) (by omega)]; exact d6.2.2
      · rw [if_neg (by omega), fr _ _ (by omega) (by omega), fr 9 t (by omega) (by omega)]; exact d7 t ht
      · rw [if_neg (by omega), fr _ _ (by omega) (by omega), fr 10 i (by omega) (by omega)]; exact d8 i hi
      · refine ⟨pN p s hv, uN2 u s hv, by rw [xup_at, if_neg (by omega), xup_at, if_neg (by omega), xup_at, if_pos ⟨rfl, rfl⟩], by rw [xup_at, if_neg (by omega), xup_at, if_pos ⟨rfl, rfl⟩], fun i => ?_, fun i => ?_⟩
        · unfold pN
          rw [if_neg hv0, fb_bit_set, p3]
          by_cases z : s = i
          · rw [if_pos ⟨hk, by rw [← hs]; exact z⟩, decide_eq_true z.symm, Bool.or_true, decide_eq_true (by omega), Bool.true_and]
            symm
            apply decide_eq_true
            split <;> omega
          · rw [if_neg (fun y => z (by rw [hs]; exact y.2)), decide_eq_false (show ¬ i = s from fun y => z y.symm), Bool.or_false]
        · unfold uN2
          by_cases h13 : tKd b m (c + 2) = 13
          · rw [if_pos (hv1.mpr h13), fb_bit_set, p4]
            by_cases z : s = i
            · rw [if_pos ⟨hk, by rw [← hs]; exact z⟩, if_pos h13, decide_eq_true z.symm, Bool.or_true, decide_eq_true (show i < 16 by omega), Bool.true_and, decide_eq_true rfl]
            · rw [if_neg (fun y => z (by rw [hs]; exact y.2)), decide_eq_false (show ¬ i = s from fun y => z y.symm), Bool.or_false]
          · rw [if_neg (fun y => h13 (hv1.mp y))]
            by_cases hi : i < 32
            · rw [andn_bit _ _ _ hi, p4, Nat.testBit_two_pow]
              by_cases z : s = i
              · rw [if_pos ⟨hk, by rw [← hs]; exact z⟩, if_neg h13, decide_eq_true z]
                simp
              · rw [if_neg (fun y => z (by rw [hs]; exact y.2)), decide_eq_false z]
                simp
            · rw [Nat.testBit_and, p4, decide_eq_false (show ¬ i < 16 by omega)]
              simp
    · rw [hlin, decide_eq_false hbad, if_neg (by decide)] at hx1; cases hx1
end TELL2
