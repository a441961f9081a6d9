/-! breaks on the heap -/
def sgI (I : Nat → Nat → Int32) (g : GD) (F : Nat → Int32) (t : Nat) : Nat → Nat → Int32 := fun a k => if a = 172 ∧ k < t then iI (SG g F k) else I a k
theorem sgI_out {I : Nat → Nat → Int32} {g : GD} {F : Nat → Int32} {t a k : Nat} (h : a ≠ 172) : sgI I g F t a k = I a k := by
  unfold sgI; rw [if_neg (fun z => h z.1)]
theorem sgI_s {I : Nat → Nat → Int32} {g : GD} {F : Nat → Int32} {t : Nat} : xup (sgI I g F t) 172 t (iI (SG g F t)) = sgI I g F (t + 1) := by
  funext a k
  simp only [xup_at, sgI]
  by_cases h : a = 172
  · subst h
    by_cases h1 : k = t
    · subst h1; simp
    · have : (k < t + 1) ↔ (k < t) := by omega
      simp [h1, this]
  · simp [h]
theorem xabs_i {z : Int} (h1 : -1 ≤ z) (h2 : z ≤ 1) : xabs (iI z) = iI (if z < 0 then -z else z) := by
  rcases (show z = -1 ∨ z = 0 ∨ z = 1 by omega) with rfl | rfl | rfl <;> decide
def brI (I : Nat → Nat → Int32) (g : GD) (F : Nat → Int32) (s : Nat) : Nat → Nat → Int32 := fun a k => if a = 171 ∧ k < 33 then nI (fb_ct (fun s => lW g F s && decide (bk g F s = k)) s) else I a k
theorem brI_out {I : Nat → Nat → Int32} {g : GD} {F : Nat → Int32} {s a k : Nat} (h : a ≠ 171) : brI I g F s a k = I a k := by
  unfold brI; rw [if_neg (fun z => h z.1)]
theorem bk_b (g : GD) (F : Nat → Int32) (s : Nat) : bk g F s ≤ 32 := fb_ct_le _ _
theorem brI_no {I : Nat → Nat → Int32} {g : GD} {F : Nat → Int32} {s : Nat} (h : lW g F s = false) : brI I g F (s + 1) = brI I g F s := by
  funext a k
  unfold brI
  rw [fb_ct_succ, h]
  rfl
theorem brI_yes {I : Nat → Nat → Int32} {g : GD} {F : Nat → Int32} {s : Nat} (h : lW g F s = true) : xup (brI I g F s) 171 (bk g F s) (nI (fb_ct (fun t => lW g F t && decide (bk g F t = bk g F s)) s) + 1) = brI I g F (s + 1) := by
  have hb := bk_b g F s
  funext a k
  simp only [xup_at, brI]
  by_cases h0 : a = 171
  · subst h0
    by_cases h1 : k = bk g F s
    · subst h1
      have : bk g F s < 33 := by omega
      simp [this, fb_ct_succ, h, nI_succ]
    · have h2 : ¬ bk g F s = k := fun z => h1 z.symm
      simp [h1, fb_ct_succ, h, h2]
  · simp [h0]
theorem breaks_ok {n : Nat} {σ : XS} {g : GD} {gT gP : GH} {st : Nat} (H : IV n σ g gT gP st) : ∃ τ Q, f_X0_gather (xw σ (xI σ)) 170 11 16 161 = some (xw τ Q) ∧ IV n τ g gT gP st ∧ (∀ a k, a ≠ 171 → Q a k = xI τ a k) ∧ BRK Q g (xI σ 191) ∧ ∀ a k, (a < 161 ∨ (165 ≤ a ∧ a ≤ 171) ∨ (173 ≤ a ∧ a ≤ 206)) → xI τ a k = xI σ a k := by
  have hS := H.shp
  have hG := H.grd
  have hg := hG.1
  have h16 := (gAll_b g hg).2.2.1
  have hSt := (gSt_b hg).1
  obtain ⟨F, hF⟩ : ∃ F, F = xI σ 191 := ⟨_, rfl⟩
  have hSR := H.now.1
  have ho := H.now.2.1
  rw [← hF] at hSR ho ⊢
  obtain ⟨c, b, hE, hb, hcn⟩ := H.en161
  have hEb := hE.b
  have K172 : σ.1 172 = (20, 32) := xw_K hS (by decide) (by decide) (by decide)
  have K173 : σ.1 173 = (20, 16) := xw_K hS (by decide) (by decide) (by decide)
  have hGs : ∀ t, GRD (sgI (xI σ) g F t) g := fun t => GRD_c (fun a k z => sgI_out (by unfold sGRD at z; omega)) hG
  have hSs : ∀ t, SR g (sgI (xI σ) g F t) 16 F := fun t => SR_m hg (fun k _ _ => sgI_out (by omega)) (fun k _ => sgI_out (by omega)) (fun k _ => sgI_out (by omega)) (fun k _ => rfl) hSR
  obtain ⟨τ, e1, hτ⟩ := fill11_ok (I := sgI (xI σ) g F 32) (k := gSz g) (F := SG g F) hS (hGs 32) hE hb hcn K172 K173 (by omega) (by omega) (by omega) (by omega) (by omega) (by omega) (Nat.le_refl _)
    (fun t ht _ => ⟨by unfold sgI; rw [if_pos ⟨rfl, ht⟩], by have := SG_b g F t; omega, by have := SG_b g F t; omega⟩)
    (fun i hi => by
      rw [sgI_out (by decide), hG.2.2.2.2.2.2.2.2.2.2.2.2 i (by omega)]
      unfold SG
      rw [if_neg (by omega)]
      rfl)
  have HA := H.aside hE (fun a k h => sgI_out h) hτ
  have hτ2 := hτ
  obtain ⟨hτS, ⟨c', b', hE', f1, f2, f3, f4, f5, f6, f7, f8, f9⟩, f10, f11, f12, f13⟩ := hτ
  have hEb' := hE'.b
  have h206 := hS.1
  have fr : ∀ a k, (a < 161 ∨ (165 ≤ a ∧ a ≤ 171) ∨ (173 ≤ a ∧ a ≤ 206)) → xI τ a k = xI σ a k := fun a k h => by
    rw [f9 a k (by omega) (by omega) (by omega), sgI_out (by omega)]
  have hGτ := HA.grd
  have hSRτ := HA.now.1
  have rτ : xI τ 191 = F := by rw [hF]; funext k; exact fr 191 k (by omega)
  rw [rτ] at hSRτ
  have K171 : τ.1 171 = (20, 33) := xw_K hτS (by decide) (by decide) (by decide)
  have hGb : ∀ s, GRD (brI (xI τ) g F s) g := fun s => GRD_c (fun a k z => brI_out (by unfold sGRD at z; omega)) hGτ
  have hSb : ∀ s, SR g (brI (xI τ) g F s) 16 F := fun s => SR_m hg (fun k _ _ => brI_out (by omega)) (fun k _ => brI_out (by omega)) (fun k _ => brI_out (by omega)) (fun k _ => rfl) hSRτ
  have loop2 : f_X0_gather_j81 (xw τ (xI τ)) 170 11 16 161 (iI (tld g F 32)) = some (xw τ (brI (xI τ) g F (gSt g))) := by
    unfold f_X0_gather_j81
    have e0 : xur (xI τ) 171 (fun j => if j < 33 then 0 else xI τ 171 j) = brI (xI τ) g F 0 := by
      funext a k
      unfold xur brI
      by_cases h : a = 171
      · subst h
        by_cases h1 : k < 33
        · simp [h1]; rfl
        · simp [h1]
      · simp [h]
    simp (disch := first | assumption | omega) only [Option.bind_some, Option.map_some, xw_gR, xw_gN, xw_al, xw_ck, xw_uI, xw_ur, xup_at, xur_at, if_true, if_false, reduceIte, and_true, true_and, and_false, false_and, not_true_eq_false, not_false_eq_true, Nat.reduceEqDiff, eq_self, Nat.reduceAdd, Nat.reduceMul, kC1, kG1, kP1, kR1_0, kR1_1, kR1_2, kR1_3, kR1_4, kR1_5, kR1_6, kR1_7, kR1_8, kR1_9, kR1_10, kR1_11, kR1_12, kR1_13, kC2, kG2, kP2, kR2_0, kR2_1, kC3, kG3, kP3, kR3_0, kR3_1, kR3_2, kR3_3, kL4, kA4, kS4, kL5, kA5, kS5, kL6, kA6, kS6, kL7, kA7, kS7, kC8, kG8, kP8, kR8_0, kR8_1, kL9, kA9, kS9, kL10, kA10, kS10, kC11, kG11, kP11, kR11_0, kR11_1, kR11_2, kR11_3, kL12, kA12, kS12, kL13, kA13, kS13, kL14, kA14, kS14, kL15, kA15, kS15, kC16, kG16, kP16, kR16_0, kR16_1, kL17, kA17, kS17, kL18, kA18, kS18, kC19, kG19, kP19, kR19_0, kL20, kL141, kL146, kA146, kS146, kL151, kA151, kS151, kL156, kA156, kS156, kC157, kG157, kP157, kR157_0, kR157_1, kL158, kA158, kS158, kL159, kA159, kS159, kC161, kG161, kP161, kR161_0, kR161_1, kL162, kA162, kS162, kL163, kA163, kS163, kC165, kG165, kP165, kR165_0, kR165_1, kR165_2, kR165_3, kL166, kA166, kS166, kL167, kA167, kS167, kL168, kA168, kS168, kL169, kA169, kS169, kC170, kG170, kP170, kR170_0, kR170_1, kR170_2, kL171, kA171, kS171, kL172, kA172, kS172, kL173, kA173, kS173, kC174, kG174, kP174, kR174_0, kR174_1, kR174_2, kR174_3, kR174_4, kL175, kA175, kS175, kL176, kA176, kS176, kL177, kA177, kS177, kL178, kA178, kS178, kL179, kC180, kG180, kP180, kL181, kL182, kA182, kS182, kC183, kG183, kP183, kR183_1, kR183_3, kR183_5, kR183_6, kR183_7, kR183_8, kR183_9, kR183_21, kR183_26, kR183_27, kR183_30, kR183_31, kR183_33, kR183_34, kR183_36, kR183_37, kR183_38, kR183_39, kR183_40, kR183_41, kR183_42, kR183_43, kR183_44, kL184, kA184, kS184, kL185, kA185, kS185, kL186, kA186, kS186, kL187, kA187, kS187, kL188, kA188, kS188, kL189, kL190, kL191, kA191, kS191, kL192, kA192, kS192, kL193, kA193, kS193, kL194, kA194, kS194, kL195, kA195, kS195, kL196, kA196, kS196, kL197, kA197, kS197, kL198, kA198, kS198, kL199, kA199, kS199, kL200, kA200, kS200, kL201, kL202, kA202, kS202, kL203, kA203, kS203, kL204, kA204, kS204, kL205, kL206, kA206, kS206, fillI_ok K171, e0, states11_ok hτS (hGb 0)]
    refine xforE (fun s : Nat => (nI s, xw τ (brI (xI τ) g F s))) (gSt g) rfl (fun s hs => ?_) ?_
    · have hs2 := (gSt_pos hs).2
      have hm : 2 ^ gSz g ≤ 2 ^ b' := Nat.pow_le_pow_right (by decide) f3
      have hof : f_X2_of (xw τ (brI (xI τ) g F s)) 161 (nI s) = some (iI (eE g (SG g F) s)) := by
        rw [of_at hτS hE' (by omega), brI_out (by omega), f8 s hs2, eP_all hg]
      have hsum := bk_sum hg F s
      have hbb := bk_b g F s
      have hdiv : (iI (tld g F 32) + iI (eE g (SG g F) s)) / (2 : Int32) = nI (bk g F s) := by
        rw [iI_add, hsum, show (2 : Int32) = nI 2 from rfl]
        have : iI (2 * (bk g F s : Int)) = nI (2 * bk g F s) := by rw [iI_n]; rfl
        rw [this, nn_div (by omega) (by omega)]
        congr 1; omega
      simp only [f_X0_gather_b98]
      rw [if_neg (by rw [nn_le (by omega) (by omega)]; omega)]
      have kv : brI (xI τ) g F s 171 (bk g F s) = nI (fb_ct (fun t => lW g F t && decide (bk g F t = bk g F s)) s) := by
        unfold brI; rw [if_pos ⟨rfl, by omega⟩]
      simp (disch := first | assumption | omega) only [Option.bind_some, Option.map_some, xw_gR, xw_gN, xw_al, xw_ck, xw_uI, xw_ur, xup_at, xur_at, if_true, if_false, reduceIte, and_true, true_and, and_false, false_and, not_true_eq_false, not_false_eq_true, Nat.reduceEqDiff, eq_self, Nat.reduceAdd, Nat.reduceMul, kC1, kG1, kP1, kR1_0, kR1_1, kR1_2, kR1_3, kR1_4, kR1_5, kR1_6, kR1_7, kR1_8, kR1_9, kR1_10, kR1_11, kR1_12, kR1_13, kC2, kG2, kP2, kR2_0, kR2_1, kC3, kG3, kP3, kR3_0, kR3_1, kR3_2, kR3_3, kL4, kA4, kS4, kL5, kA5, kS5, kL6, kA6, kS6, kL7, kA7, kS7, kC8, kG8, kP8, kR8_0, kR8_1, kL9, kA9, kS9, kL10, kA10, kS10, kC11, kG11, kP11, kR11_0, kR11_1, kR11_2, kR11_3, kL12, kA12, kS12, kL13, kA13, kS13, kL14, kA14, kS14, kL15, kA15, kS15, kC16, kG16, kP16, kR16_0, kR16_1, kL17, kA17, kS17, kL18, kA18, kS18, kC19, kG19, kP19, kR19_0, kL20, kL141, kL146, kA146, kS146, kL151, kA151, kS151, kL156, kA156, kS156, kC157, kG157, kP157, kR157_0, kR157_1, kL158, kA158, kS158, kL159, kA159, kS159, kC161, kG161, kP161, kR161_0, kR161_1, kL162, kA162, kS162, kL163, kA163, kS163, kC165, kG165, kP165, kR165_0, kR165_1, kR165_2, kR165_3, kL166, kA166, kS166, kL167, kA167, kS167, kL168, kA168, kS168, kL169, kA169, kS169, kC170, kG170, kP170, kR170_0, kR170_1, kR170_2, kL171, kA171, kS171, kL172, kA172, kS172, kL173, kA173, kS173, kC174, kG174, kP174, kR174_0, kR174_1, kR174_2, kR174_3, kR174_4, kL175, kA175, kS175, kL176, kA176, kS176, kL177, kA177, kS177, kL178, kA178, kS178, kL179, kC180, kG180, kP180, kL181, kL182, kA182, kS182, kC183, kG183, kP183, kR183_1, kR183_3, kR183_5, kR183_6, kR183_7, kR183_8, kR183_9, kR183_21, kR183_26, kR183_27, kR183_30, kR183_31, kR183_33, kR183_34, kR183_36, kR183_37, kR183_38, kR183_39, kR183_40, kR183_41, kR183_42, kR183_43, kR183_44, kL184, kA184, kS184, kL185, kA185, kS185, kL186, kA186, kS186, kL187, kA187, kS187, kL188, kA188, kS188, kL189, kL190, kL191, kA191, kS191, kL192, kA192, kS192, kL193, kA193, kS193, kL194, kA194, kS194, kL195, kA195, kS195, kL196, kA196, kS196, kL197, kA197, kS197, kL198, kA198, kS198, kL199, kA199, kS199, kL200, kA200, kS200, kL201, kL202, kA202, kS202, kL203, kA203, kS203, kL204, kA204, kS204, kL205, kL206, kA206, kS206, hof, allows_ok hτS hg suA_16 (hSb s), hdiv, nn_nneg, nn_le, show ¬ (33 ≤ bk g F s) by omega, kv]
      rw [← nI_succ]
      cases hl : lW g F s with
      | false => rw [if_pos (by decide), brI_no hl]
      | true =>
        rw [if_neg (by decide)]
        have := brI_yes (I := xI τ) hl
        rw [nI_succ] 
        rw [this]
    · simp only [f_X0_gather_b98]
      rw [if_pos (by rw [nn_le (by omega) (by omega)]; exact Nat.le_refl _)]
      rfl
  refine ⟨τ, brI (xI τ) g F (gSt g), ?_, HA, fun a k h => brI_out h, fun m hm => ?_, fr⟩
  · unfold f_X0_gather
    refine xforE (fun t : Nat => (iI (tld g F t), nI t, xw σ (sgI (xI σ) g F t))) 32 ?_ (fun t ht => ?_) ?_
    · congr 3
      funext a k
      unfold sgI
      rw [if_neg (by omega)]
    · simp only [f_X0_gather_b6]
      rw [if_neg (by rw [show (32 : Int32) = nI 32 from rfl, nn_le (by omega) (by omega)]; omega)]
      have hsb := SG_b g F t
      have main : f_X0_gather_j42 (xw σ (sgI (xI σ) g F t)) 170 11 16 161 (iI (tld g F t)) (nI t) 172 (nI t) (iI (SG g F t)) = some (.inl (iI (tld g F (t + 1)), nI (t + 1), xw σ (sgI (xI σ) g F (t + 1)))) := by
        unfold f_X0_gather_j42
        simp (disch := first | assumption | omega) only [Option.bind_some, Option.map_some, xw_gR, xw_gN, xw_al, xw_ck, xw_uI, xw_ur, xup_at, xur_at, if_true, if_false, reduceIte, and_true, true_and, and_false, false_and, not_true_eq_false, not_false_eq_true, Nat.reduceEqDiff, eq_self, Nat.reduceAdd, Nat.reduceMul, kC1, kG1, kP1, kR1_0, kR1_1, kR1_2, kR1_3, kR1_4, kR1_5, kR1_6, kR1_7, kR1_8, kR1_9, kR1_10, kR1_11, kR1_12, kR1_13, kC2, kG2, kP2, kR2_0, kR2_1, kC3, kG3, kP3, kR3_0, kR3_1, kR3_2, kR3_3, kL4, kA4, kS4, kL5, kA5, kS5, kL6, kA6, kS6, kL7, kA7, kS7, kC8, kG8, kP8, kR8_0, kR8_1, kL9, kA9, kS9, kL10, kA10, kS10, kC11, kG11, kP11, kR11_0, kR11_1, kR11_2, kR11_3, kL12, kA12, kS12, kL13, kA13, kS13, kL14, kA14, kS14, kL15, kA15, kS15, kC16, kG16, kP16, kR16_0, kR16_1, kL17, kA17, kS17, kL18, kA18, kS18, kC19, kG19, kP19, kR19_0, kL20, kL141, kL146, kA146, kS146, kL151, kA151, kS151, kL156, kA156, kS156, kC157, kG157, kP157, kR157_0, kR157_1, kL158, kA158, kS158, kL159, kA159, kS159, kC161, kG161, kP161, kR161_0, kR161_1, kL162, kA162, kS162, kL163, kA163, kS163, kC165, kG165, kP165, kR165_0, kR165_1, kR165_2, kR165_3, kL166, kA166, kS166, kL167, kA167, kS167, kL168, kA168, kS168, kL169, kA169, kS169, kC170, kG170, kP170, kR170_0, kR170_1, kR170_2, kL171, kA171, kS171, kL172, kA172, kS172, kL173, kA173, kS173, kC174, kG174, kP174, kR174_0, kR174_1, kR174_2, kR174_3, kR174_4, kL175, kA175, kS175, kL176, kA176, kS176, kL177, kA177, kS177, kL178, kA178, kS178, kL179, kC180, kG180, kP180, kL181, kL182, kA182, kS182, kC183, kG183, kP183, kR183_1, kR183_3, kR183_5, kR183_6, kR183_7, kR183_8, kR183_9, kR183_21, kR183_26, kR183_27, kR183_30, kR183_31, kR183_33, kR183_34, kR183_36, kR183_37, kR183_38, kR183_39, kR183_40, kR183_41, kR183_42, kR183_43, kR183_44, kL184, kA184, kS184, kL185, kA185, kS185, kL186, kA186, kS186, kL187, kA187, kS187, kL188, kA188, kS188, kL189, kL190, kL191, kA191, kS191, kL192, kA192, kS192, kL193, kA193, kS193, kL194, kA194, kS194, kL195, kA195, kS195, kL196, kA196, kS196, kL197, kA197, kS197, kL198, kA198, kS198, kL199, kA199, kS199, kL200, kA200, kS200, kL201, kL202, kA202, kS202, kL203, kA203, kS203, kL204, kA204, kS204, kL205, kL206, kA206, kS206, xabs_i hsb.1 hsb.2, iI_add]
        rw [sgI_s, ← nI_succ]
        rfl
      simp (disch := first | assumption | omega) only [Option.bind_some, Option.map_some, xw_gR, xw_gN, xw_al, xw_ck, xw_uI, xw_ur, xup_at, xur_at, if_true, if_false, reduceIte, and_true, true_and, and_false, false_and, not_true_eq_false, not_false_eq_true, Nat.reduceEqDiff, eq_self, Nat.reduceAdd, Nat.reduceMul, kC1, kG1, kP1, kR1_0, kR1_1, kR1_2, kR1_3, kR1_4, kR1_5, kR1_6, kR1_7, kR1_8, kR1_9, kR1_10, kR1_11, kR1_12, kR1_13, kC2, kG2, kP2, kR2_0, kR2_1, kC3, kG3, kP3, kR3_0, kR3_1, kR3_2, kR3_3, kL4, kA4, kS4, kL5, kA5, kS5, kL6, kA6, kS6, kL7, kA7, kS7, kC8, kG8, kP8, kR8_0, kR8_1, kL9, kA9, kS9, kL10, kA10, kS10, kC11, kG11, kP11, kR11_0, kR11_1, kR11_2, kR11_3, kL12, kA12, kS12, kL13, kA13, kS13, kL14, kA14, kS14, kL15, kA15, kS15, kC16, kG16, kP16, kR16_0, kR16_1, kL17, kA17, kS17, kL18, kA18, kS18, kC19, kG19, kP19, kR19_0, kL20, kL141, kL146, kA146, kS146, kL151, kA151, kS151, kL156, kA156, kS156, kC157, kG157, kP157, kR157_0, kR157_1, kL158, kA158, kS158, kL159, kA159, kS159, kC161, kG161, kP161, kR161_0, kR161_1, kL162, kA162, kS162, kL163, kA163, kS163, kC165, kG165, kP165, kR165_0, kR165_1, kR165_2, kR165_3, kL166, kA166, kS166, kL167, kA167, kS167, kL168, kA168, kS168, kL169, kA169, kS169, kC170, kG170, kP170, kR170_0, kR170_1, kR170_2, kL171, kA171, kS171, kL172, kA172, kS172, kL173, kA173, kS173, kC174, kG174, kP174, kR174_0, kR174_1, kR174_2, kR174_3, kR174_4, kL175, kA175, kS175, kL176, kA176, kS176, kL177, kA177, kS177, kL178, kA178, kS178, kL179, kC180, kG180, kP180, kL181, kL182, kA182, kS182, kC183, kG183, kP183, kR183_1, kR183_3, kR183_5, kR183_6, kR183_7, kR183_8, kR183_9, kR183_21, kR183_26, kR183_27, kR183_30, kR183_31, kR183_33, kR183_34, kR183_36, kR183_37, kR183_38, kR183_39, kR183_40, kR183_41, kR183_42, kR183_43, kR183_44, kL184, kA184, kS184, kL185, kA185, kS185, kL186, kA186, kS186, kL187, kA187, kS187, kL188, kA188, kS188, kL189, kL190, kL191, kA191, kS191, kL192, kA192, kS192, kL193, kA193, kS193, kL194, kA194, kS194, kL195, kA195, kS195, kL196, kA196, kS196, kL197, kA197, kS197, kL198, kA198, kS198, kL199, kA199, kS199, kL200, kA200, kS200, kL201, kL202, kA202, kS202, kL203, kA203, kS203, kL204, kA204, kS204, kL205, kL206, kA206, kS206, endAt_ok hS (hGs t) ht, oI_none (gTo_s hg ht)]
      by_cases hno : gTo g t = none
      · rw [if_pos hno]
        have z : SG g F t = 0 := by unfold SG; rw [if_pos ht, if_pos hno]
        rw [z] at main
        exact main
      · rw [if_neg hno]
        have hr := ho.1 t (by omega)
        simp (disch := first | assumption | omega) only [Option.bind_some, Option.map_some, xw_gR, xw_gN, xw_al, xw_ck, xw_uI, xw_ur, xup_at, xur_at, if_true, if_false, reduceIte, and_true, true_and, and_false, false_and, not_true_eq_false, not_false_eq_true, Nat.reduceEqDiff, eq_self, Nat.reduceAdd, Nat.reduceMul, kC1, kG1, kP1, kR1_0, kR1_1, kR1_2, kR1_3, kR1_4, kR1_5, kR1_6, kR1_7, kR1_8, kR1_9, kR1_10, kR1_11, kR1_12, kR1_13, kC2, kG2, kP2, kR2_0, kR2_1, kC3, kG3, kP3, kR3_0, kR3_1, kR3_2, kR3_3, kL4, kA4, kS4, kL5, kA5, kS5, kL6, kA6, kS6, kL7, kA7, kS7, kC8, kG8, kP8, kR8_0, kR8_1, kL9, kA9, kS9, kL10, kA10, kS10, kC11, kG11, kP11, kR11_0, kR11_1, kR11_2, kR11_3, kL12, kA12, kS12, kL13, kA13, kS13, kL14, kA14, kS14, kL15, kA15, kS15, kC16, kG16, kP16, kR16_0, kR16_1, kL17, kA17, kS17, kL18, kA18, kS18, kC19, kG19, kP19, kR19_0, kL20, kL141, kL146, kA146, kS146, kL151, kA151, kS151, kL156, kA156, kS156, kC157, kG157, kP157, kR157_0, kR157_1, kL158, kA158, kS158, kL159, kA159, kS159, kC161, kG161, kP161, kR161_0, kR161_1, kL162, kA162, kS162, kL163, kA163, kS163, kC165, kG165, kP165, kR165_0, kR165_1, kR165_2, kR165_3, kL166, kA166, kS166, kL167, kA167, kS167, kL168, kA168, kS168, kL169, kA169, kS169, kC170, kG170, kP170, kR170_0, kR170_1, kR170_2, kL171, kA171, kS171, kL172, kA172, kS172, kL173, kA173, kS173, kC174, kG174, kP174, kR174_0, kR174_1, kR174_2, kR174_3, kR174_4, kL175, kA175, kS175, kL176, kA176, kS176, kL177, kA177, kS177, kL178, kA178, kS178, kL179, kC180, kG180, kP180, kL181, kL182, kA182, kS182, kC183, kG183, kP183, kR183_1, kR183_3, kR183_5, kR183_6, kR183_7, kR183_8, kR183_9, kR183_21, kR183_26, kR183_27, kR183_30, kR183_31, kR183_33, kR183_34, kR183_36, kR183_37, kR183_38, kR183_39, kR183_40, kR183_41, kR183_42, kR183_43, kR183_44, kL184, kA184, kS184, kL185, kA185, kS185, kL186, kA186, kS186, kL187, kA187, kS187, kL188, kA188, kS188, kL189, kL190, kL191, kA191, kS191, kL192, kA192, kS192, kL193, kA193, kS193, kL194, kA194, kS194, kL195, kA195, kS195, kL196, kA196, kS196, kL197, kA197, kS197, kL198, kA198, kS198, kL199, kA199, kS199, kL200, kA200, kS200, kL201, kL202, kA202, kS202, kL203, kA203, kS203, kL204, kA204, kS204, kL205, kL206, kA206, kS206, bond_SR hS suA_16 (hSs t) ht (Option.isSome_iff_ne_none.mpr hno), signum_ok hr.1 hr.2]
        have z : SG g F t = sgn (F t).toInt := by unfold SG; rw [if_pos ht, if_neg hno]
        rw [z] at main
        exact main
    · simp only [f_X0_gather_b6]
      rw [if_pos (by decide)]
      simp (disch := first | assumption | omega) only [Option.bind_some, Option.map_some, xw_gR, xw_gN, xw_al, xw_ck, xw_uI, xw_ur, xup_at, xur_at, if_true, if_false, reduceIte, and_true, true_and, and_false, false_and, not_true_eq_false, not_false_eq_true, Nat.reduceEqDiff, eq_self, Nat.reduceAdd, Nat.reduceMul, kC1, kG1, kP1, kR1_0, kR1_1, kR1_2, kR1_3, kR1_4, kR1_5, kR1_6, kR1_7, kR1_8, kR1_9, kR1_10, kR1_11, kR1_12, kR1_13, kC2, kG2, kP2, kR2_0, kR2_1, kC3, kG3, kP3, kR3_0, kR3_1, kR3_2, kR3_3, kL4, kA4, kS4, kL5, kA5, kS5, kL6, kA6, kS6, kL7, kA7, kS7, kC8, kG8, kP8, kR8_0, kR8_1, kL9, kA9, kS9, kL10, kA10, kS10, kC11, kG11, kP11, kR11_0, kR11_1, kR11_2, kR11_3, kL12, kA12, kS12, kL13, kA13, kS13, kL14, kA14, kS14, kL15, kA15, kS15, kC16, kG16, kP16, kR16_0, kR16_1, kL17, kA17, kS17, kL18, kA18, kS18, kC19, kG19, kP19, kR19_0, kL20, kL141, kL146, kA146, kS146, kL151, kA151, kS151, kL156, kA156, kS156, kC157, kG157, kP157, kR157_0, kR157_1, kL158, kA158, kS158, kL159, kA159, kS159, kC161, kG161, kP161, kR161_0, kR161_1, kL162, kA162, kS162, kL163, kA163, kS163, kC165, kG165, kP165, kR165_0, kR165_1, kR165_2, kR165_3, kL166, kA166, kS166, kL167, kA167, kS167, kL168, kA168, kS168, kL169, kA169, kS169, kC170, kG170, kP170, kR170_0, kR170_1, kR170_2, kL171, kA171, kS171, kL172, kA172, kS172, kL173, kA173, kS173, kC174, kG174, kP174, kR174_0, kR174_1, kR174_2, kR174_3, kR174_4, kL175, kA175, kS175, kL176, kA176, kS176, kL177, kA177, kS177, kL178, kA178, kS178, kL179, kC180, kG180, kP180, kL181, kL182, kA182, kS182, kC183, kG183, kP183, kR183_1, kR183_3, kR183_5, kR183_6, kR183_7, kR183_8, kR183_9, kR183_21, kR183_26, kR183_27, kR183_30, kR183_31, kR183_33, kR183_34, kR183_36, kR183_37, kR183_38, kR183_39, kR183_40, kR183_41, kR183_42, kR183_43, kR183_44, kL184, kA184, kS184, kL185, kA185, kS185, kL186, kA186, kS186, kL187, kA187, kS187, kL188, kA188, kS188, kL189, kL190, kL191, kA191, kS191, kL192, kA192, kS192, kL193, kA193, kS193, kL194, kA194, kS194, kL195, kA195, kS195, kL196, kA196, kS196, kL197, kA197, kS197, kL198, kA198, kS198, kL199, kA199, kS199, kL200, kA200, kS200, kL201, kL202, kA202, kS202, kL203, kA203, kS203, kL204, kA204, kS204, kL205, kL206, kA206, kS206, (hGs 32).2.2.2.2.1, e1]
      rw [show τ = xw τ (xI τ) from rfl, loop2]
      rfl
  · unfold brI
    rw [if_pos ⟨rfl, hm⟩]
