/-! the levels that the class gathers -/
def cU (p : Nat → Bool) (m N : Nat) : Nat := fb_ct (fun i => p (m + i)) (N - m)
theorem cU_s (p : Nat → Bool) {m N : Nat} (h : m < N) : cU p m N = (if p m then 1 else 0) + cU p (m + 1) N := by
  unfold cU
  rw [show N - m = 1 + (N - (m + 1)) by omega, fb_ct_split]
  congr 1
  · show 0 + (if p (m + 0) then 1 else 0) = _
    rw [Nat.add_zero, Nat.zero_add]
  · exact fb_ct_cong (fun i _ => by rw [← Nat.add_assoc])
theorem cU_0 (p : Nat → Bool) (N : Nat) : cU p 0 N = fb_ct p N := by
  unfold cU
  exact fb_ct_cong (fun i _ => by rw [Nat.zero_add])
theorem cU_e (p : Nat → Bool) (N : Nat) : cU p N N = 0 := by
  unfold cU
  rw [Nat.sub_self]; rfl
theorem cU_le (p : Nat → Bool) (m N : Nat) : cU p m N ≤ N := Nat.le_trans (fb_ct_le _ _) (Nat.sub_le _ _)
section OF
variable {σ : XS} {I : Nat → Nat → Int32} {g : GD} {F : Nat → Int32} {E c m : Nat}
theorem of_at (hS : Shp σ) (hE : EnO σ E c m) {s : Nat} (hs : s < m) : f_X2_of (xw σ I) E (nI s) = some (I c s) := by
  have hm := hE.2.2.2.1
  unfold f_X2_of
  rw [if_neg (nI_pos (by omega)), xw_gR, hE.R4 hS, Option.bind_some, xw_al, hE.L, Option.bind_some, if_neg (by rw [nn_le (by omega) (by omega)]; omega), Option.bind_some, xw_aI hE.2.2.1 hs (by omega), Option.bind_some]
theorem of_ok (hS : Shp σ) (hE : EnO σ E c m) (hK : ENK I (xR σ) (xlen σ) E g F) {s : Nat} (hs : s < 2 ^ gSz g) : f_X2_of (xw σ I) E (nI s) = some (iI (eE g (zR F) s)) := by
  have h1 := hK.1
  rw [hE.2.1] at h1
  unfold xlen at h1
  rw [hE.2.2.1] at h1
  rw [of_at hS hE (show s < m by exact Nat.lt_of_lt_of_le hs h1)]
  have := hK.2 s hs
  rw [hE.2.1] at this
  rw [this]
theorem fillI_ok {a n : Nat} {v : Int32} (h : σ.1 a = (20, n)) (hn : n < 2147483648) : f_J7_fill_53178 (xw σ I) a v = some (xw σ (xur I a (fun j => if j < n then v else I a j))) := fill_ok (σ := xw σ I) (congrArg Prod.fst h) (congrArg Prod.snd h) hn
end OF
section GATHER
variable {σ : XS} {I : Nat → Nat → Int32} {g : GD} {F : Nat → Int32} {c m : Nat}
theorem list_ok (hS : Shp σ) (hg : g ∈ gAll) (hM : WAY I 166 g F) :
    ∃ J, f_X4_listLevels (xw σ I) 165 = some (xw σ J) ∧ J 165 4 = nI (lvN g F) ∧ (∀ k, k < 289 → lvP g F k = true → J 169 (fb_ct (lvP g F) k) = iI ((k : Int) - 144)) ∧ ∀ a k, a ≠ 169 → ¬ (a = 165 ∧ k = 4) → J a k = I a k := by
  have hSt := (gSt_b hg).1
  unfold f_X4_listLevels
  simp (disch := first | assumption | omega) only [Option.bind_some, Option.map_some, xw_gR, xw_gN, xw_al, xw_ck, xw_uI, xw_ur, xup_at, xur_at, if_true, if_false, reduceIte, and_true, true_and, and_false, false_and, not_true_eq_false, not_false_eq_true, Nat.reduceEqDiff, eq_self, Nat.reduceAdd, Nat.reduceMul, kC1, kG1, kP1, kR1_0, kR1_1, kR1_2, kR1_3, kR1_4, kR1_5, kR1_6, kR1_7, kR1_8, kR1_9, kR1_10, kR1_11, kR1_12, kR1_13, kC2, kG2, kP2, kR2_0, kR2_1, kC3, kG3, kP3, kR3_0, kR3_1, kR3_2, kR3_3, kL4, kA4, kS4, kL5, kA5, kS5, kL6, kA6, kS6, kL7, kA7, kS7, kC8, kG8, kP8, kR8_0, kR8_1, kL9, kA9, kS9, kL10, kA10, kS10, kC11, kG11, kP11, kR11_0, kR11_1, kR11_2, kR11_3, kL12, kA12, kS12, kL13, kA13, kS13, kL14, kA14, kS14, kL15, kA15, kS15, kC16, kG16, kP16, kR16_0, kR16_1, kL17, kA17, kS17, kL18, kA18, kS18, kC19, kG19, kP19, kR19_0, kL20, kL141, kL146, kA146, kS146, kL151, kA151, kS151, kL156, kA156, kS156, kC157, kG157, kP157, kR157_0, kR157_1, kL158, kA158, kS158, kL159, kA159, kS159, kC161, kG161, kP161, kR161_0, kR161_1, kL162, kA162, kS162, kL163, kA163, kS163, kC165, kG165, kP165, kR165_0, kR165_1, kR165_2, kR165_3, kL166, kA166, kS166, kL167, kA167, kS167, kL168, kA168, kS168, kL169, kA169, kS169, kC170, kG170, kP170, kR170_0, kR170_1, kR170_2, kL171, kA171, kS171, kL172, kA172, kS172, kL173, kA173, kS173, kC174, kG174, kP174, kR174_0, kR174_1, kR174_2, kR174_3, kR174_4, kL175, kA175, kS175, kL176, kA176, kS176, kL177, kA177, kS177, kL178, kA178, kS178, kL179, kC180, kG180, kP180, kL181, kL182, kA182, kS182, kC183, kG183, kP183, kR183_1, kR183_3, kR183_5, kR183_6, kR183_7, kR183_8, kR183_9, kR183_21, kR183_26, kR183_27, kR183_30, kR183_31, kR183_33, kR183_34, kR183_36, kR183_37, kR183_38, kR183_39, kR183_40, kR183_41, kR183_42, kR183_43, kR183_44, kL184, kA184, kS184, kL185, kA185, kS185, kL186, kA186, kS186, kL187, kA187, kS187, kL188, kA188, kS188, kL189, kL190, kL191, kA191, kS191, kL192, kA192, kS192, kL193, kA193, kS193, kL194, kA194, kS194, kL195, kA195, kS195, kL196, kA196, kS196, kL197, kA197, kS197, kL198, kA198, kS198, kL199, kA199, kS199, kL200, kA200, kS200, kL201, kL202, kA202, kS202, kL203, kA203, kS203, kL204, kA204, kS204, kL205, kL206, kA206, kS206]
  have key : ∃ τ, xloop (f_X4_listLevels_b7 165) (nI 0, xw σ (xup I 165 4 0)) = some τ ∧ ∃ J, τ = xw σ J ∧ J 165 4 = nI (fb_ct (lvP g F) 289) ∧ (∀ e, e < 289 → lvP g F e = true → J 169 (fb_ct (lvP g F) e) = iI ((e : Int) - 144)) ∧ ∀ a k, a ≠ 169 → ¬ (a = 165 ∧ k = 4) → J a k = I a k := by
    refine xforI (fun i x => ∃ J, x = (nI i, xw σ J) ∧ J 165 4 = nI (fb_ct (lvP g F) i) ∧ (∀ e, e < i → lvP g F e = true → J 169 (fb_ct (lvP g F) e) = iI ((e : Int) - 144)) ∧ ∀ a k, a ≠ 169 → ¬ (a = 165 ∧ k = 4) → J a k = I a k) 289 ⟨_, rfl, by rw [xup_at, if_pos ⟨rfl, rfl⟩]; rfl, fun e he => by omega, fun a k _ h => by rw [xup_at, if_neg h]⟩ ?_ ?_
    · rintro i x hi ⟨J, rfl, j1, j2, j3⟩
      have hb : lC g F ((i : Int) - 144) ≤ 65536 := Nat.le_trans (fb_ct_le _ _) hSt
      have hc := fb_ct_le (lvP g F) i
      have hz : (nI (lC g F ((i : Int) - 144)) ≤ 0) = (lC g F ((i : Int) - 144) ≤ 0) := nn_le (b := 0) (by omega) (by decide)
      by_cases h0 : lC g F ((i : Int) - 144) = 0
      · have hq : lvP g F i = false := by unfold lvP; rw [h0]; rfl
        refine ⟨(nI (i + 1), xw σ J), ?_, J, rfl, ?_, ?_, j3⟩
        · simp only [f_X4_listLevels_b7]
          rw [if_neg (by rw [show (289 : Int32) = nI 289 from rfl, nn_le (by omega) (by omega)]; omega)]
          simp (disch := first | assumption | omega) only [Option.bind_some, Option.map_some, xw_gR, xw_gN, xw_al, xw_ck, xw_uI, xw_ur, xup_at, xur_at, if_true, if_false, reduceIte, and_true, true_and, and_false, false_and, not_true_eq_false, not_false_eq_true, Nat.reduceEqDiff, eq_self, Nat.reduceAdd, Nat.reduceMul, kC1, kG1, kP1, kR1_0, kR1_1, kR1_2, kR1_3, kR1_4, kR1_5, kR1_6, kR1_7, kR1_8, kR1_9, kR1_10, kR1_11, kR1_12, kR1_13, kC2, kG2, kP2, kR2_0, kR2_1, kC3, kG3, kP3, kR3_0, kR3_1, kR3_2, kR3_3, kL4, kA4, kS4, kL5, kA5, kS5, kL6, kA6, kS6, kL7, kA7, kS7, kC8, kG8, kP8, kR8_0, kR8_1, kL9, kA9, kS9, kL10, kA10, kS10, kC11, kG11, kP11, kR11_0, kR11_1, kR11_2, kR11_3, kL12, kA12, kS12, kL13, kA13, kS13, kL14, kA14, kS14, kL15, kA15, kS15, kC16, kG16, kP16, kR16_0, kR16_1, kL17, kA17, kS17, kL18, kA18, kS18, kC19, kG19, kP19, kR19_0, kL20, kL141, kL146, kA146, kS146, kL151, kA151, kS151, kL156, kA156, kS156, kC157, kG157, kP157, kR157_0, kR157_1, kL158, kA158, kS158, kL159, kA159, kS159, kC161, kG161, kP161, kR161_0, kR161_1, kL162, kA162, kS162, kL163, kA163, kS163, kC165, kG165, kP165, kR165_0, kR165_1, kR165_2, kR165_3, kL166, kA166, kS166, kL167, kA167, kS167, kL168, kA168, kS168, kL169, kA169, kS169, kC170, kG170, kP170, kR170_0, kR170_1, kR170_2, kL171, kA171, kS171, kL172, kA172, kS172, kL173, kA173, kS173, kC174, kG174, kP174, kR174_0, kR174_1, kR174_2, kR174_3, kR174_4, kL175, kA175, kS175, kL176, kA176, kS176, kL177, kA177, kS177, kL178, kA178, kS178, kL179, kC180, kG180, kP180, kL181, kL182, kA182, kS182, kC183, kG183, kP183, kR183_1, kR183_3, kR183_5, kR183_6, kR183_7, kR183_8, kR183_9, kR183_21, kR183_26, kR183_27, kR183_30, kR183_31, kR183_33, kR183_34, kR183_36, kR183_37, kR183_38, kR183_39, kR183_40, kR183_41, kR183_42, kR183_43, kR183_44, kL184, kA184, kS184, kL185, kA185, kS185, kL186, kA186, kS186, kL187, kA187, kS187, kL188, kA188, kS188, kL189, kL190, kL191, kA191, kS191, kL192, kA192, kS192, kL193, kA193, kS193, kL194, kA194, kS194, kL195, kA195, kS195, kL196, kA196, kS196, kL197, kA197, kS197, kL198, kA198, kS198, kL199, kA199, kS199, kL200, kA200, kS200, kL201, kL202, kA202, kS202, kL203, kA203, kS203, kL204, kA204, kS204, kL205, kL206, kA206, kS206, j3 166 i (by decide) (by omega), hM i hi, h0, show (nI 0 ≤ 0) = True from eq_true (by decide)]
          rw [nI_succ]
        · rw [j1, fb_ct_succ, hq]; simp
        · intro e he hq2
          by_cases hei : e = i
          · rw [hei, hq] at hq2; cases hq2
          · exact j2 e (by omega) hq2
      · have hq : lvP g F i = true := by unfold lvP; simp; omega
        refine ⟨(nI (i + 1), xw σ (xup (xup J 169 (fb_ct (lvP g F) i) (iI ((i : Int) - 144))) 165 4 (nI (fb_ct (lvP g F) i + 1)))), ?_, _, rfl, ?_, ?_, ?_⟩
        · simp only [f_X4_listLevels_b7]
          rw [if_neg (by rw [show (289 : Int32) = nI 289 from rfl, nn_le (by omega) (by omega)]; omega)]
          have e150 : nI i - (144 : Int32) = iI ((i : Int) - 144) := by rw [iI_n, show (144 : Int32) = iI 144 from rfl, iI_sub]
          have hz2 : ¬ (lC g F ((i : Int) - 144) ≤ 0) := by omega
          simp (disch := first | assumption | omega) only [Option.bind_some, Option.map_some, xw_gR, xw_gN, xw_al, xw_ck, xw_uI, xw_ur, xup_at, xur_at, if_true, if_false, reduceIte, and_true, true_and, and_false, false_and, not_true_eq_false, not_false_eq_true, Nat.reduceEqDiff, eq_self, Nat.reduceAdd, Nat.reduceMul, kC1, kG1, kP1, kR1_0, kR1_1, kR1_2, kR1_3, kR1_4, kR1_5, kR1_6, kR1_7, kR1_8, kR1_9, kR1_10, kR1_11, kR1_12, kR1_13, kC2, kG2, kP2, kR2_0, kR2_1, kC3, kG3, kP3, kR3_0, kR3_1, kR3_2, kR3_3, kL4, kA4, kS4, kL5, kA5, kS5, kL6, kA6, kS6, kL7, kA7, kS7, kC8, kG8, kP8, kR8_0, kR8_1, kL9, kA9, kS9, kL10, kA10, kS10, kC11, kG11, kP11, kR11_0, kR11_1, kR11_2, kR11_3, kL12, kA12, kS12, kL13, kA13, kS13, kL14, kA14, kS14, kL15, kA15, kS15, kC16, kG16, kP16, kR16_0, kR16_1, kL17, kA17, kS17, kL18, kA18, kS18, kC19, kG19, kP19, kR19_0, kL20, kL141, kL146, kA146, kS146, kL151, kA151, kS151, kL156, kA156, kS156, kC157, kG157, kP157, kR157_0, kR157_1, kL158, kA158, kS158, kL159, kA159, kS159, kC161, kG161, kP161, kR161_0, kR161_1, kL162, kA162, kS162, kL163, kA163, kS163, kC165, kG165, kP165, kR165_0, kR165_1, kR165_2, kR165_3, kL166, kA166, kS166, kL167, kA167, kS167, kL168, kA168, kS168, kL169, kA169, kS169, kC170, kG170, kP170, kR170_0, kR170_1, kR170_2, kL171, kA171, kS171, kL172, kA172, kS172, kL173, kA173, kS173, kC174, kG174, kP174, kR174_0, kR174_1, kR174_2, kR174_3, kR174_4, kL175, kA175, kS175, kL176, kA176, kS176, kL177, kA177, kS177, kL178, kA178, kS178, kL179, kC180, kG180, kP180, kL181, kL182, kA182, kS182, kC183, kG183, kP183, kR183_1, kR183_3, kR183_5, kR183_6, kR183_7, kR183_8, kR183_9, kR183_21, kR183_26, kR183_27, kR183_30, kR183_31, kR183_33, kR183_34, kR183_36, kR183_37, kR183_38, kR183_39, kR183_40, kR183_41, kR183_42, kR183_43, kR183_44, kL184, kA184, kS184, kL185, kA185, kS185, kL186, kA186, kS186, kL187, kA187, kS187, kL188, kA188, kS188, kL189, kL190, kL191, kA191, kS191, kL192, kA192, kS192, kL193, kA193, kS193, kL194, kA194, kS194, kL195, kA195, kS195, kL196, kA196, kS196, kL197, kA197, kS197, kL198, kA198, kS198, kL199, kA199, kS199, kL200, kA200, kS200, kL201, kL202, kA202, kS202, kL203, kA203, kS203, kL204, kA204, kS204, kL205, kL206, kA206, kS206, j3 166 i (by decide) (by omega), hM i hi, hz, hz2, j1, e150]
          rw [← nI_succ, ← nI_succ]
        · rw [xup_at, if_pos ⟨rfl, rfl⟩, fb_ct_succ, hq]; simp
        · intro e he hq2
          rw [xup_at, if_neg (by omega), xup_at]
          by_cases hei : e = i
          · rw [hei, if_pos ⟨rfl, rfl⟩]
          · rw [if_neg, j2 e (by omega) hq2]
            rintro ⟨_, z⟩
            exact hei (fb_ct_kth_one hq2 hq z)
        · intro a k h1 h2
          rw [xup_at, if_neg (by omega), xup_at, if_neg (by omega)]
          exact j3 a k h1 h2
    · rintro x ⟨J, rfl, j1, j2, j3⟩
      refine ⟨xw σ J, ?_, J, rfl, j1, j2, j3⟩
      simp only [f_X4_listLevels_b7]
      rw [if_pos (by decide)]
      rfl
  obtain ⟨τ, h1, J, rfl, j1, j2, j3⟩ := key
  exact ⟨J, h1, j1, j2, j3⟩
/-- what is gathered of the states from m on -/
def gaP (J : Nat → Nat → Int32) (g : GD) (F : Nat → Int32) (m : Nat) : Prop := (∀ k : Nat, k < 289 → J 166 k = nI (cU (lE g F ((k : Int) - 144)) m (gSt g))) ∧
  (∀ k s : Nat, k < 289 → m ≤ s → s < gSt g → lE g F ((k : Int) - 144) s = true → (∀ s', m ≤ s' → s' < s → lE g F ((k : Int) - 144) s' = false) → J 167 k = nI s) ∧
  ∀ k u : Nat, k < 289 → u < 17 → J 168 (17 * k + u) = nI (cU (fun s => lE g F ((k : Int) - 144) s && decide (pC s = u)) m (gSt g))
theorem gather_ok (hS : Shp σ) (hg : g ∈ gAll) (hE : EnO σ 157 c m) (hK : ENK I (xR σ) (xlen σ) 157 g F) (hSR : SR g I 16 F) (ho : RO g F) :
    ∃ J, f_X4_gather (xw σ I) 165 157 16 (nI (gSt g)) = some (xw σ J) ∧ LVK J g F ∧ ∀ a k, ¬ (166 ≤ a ∧ a ≤ 169) → ¬ (a = 165 ∧ k = 4) → J a k = I a k := by
  have hSt := (gSt_b hg).1
  have hSt2 := (gSt_b hg).2
  have hEb := hE.b
  have K166 : σ.1 166 = (20, 289) := xw_K hS (by decide) (by decide) (by decide)
  have K168 : σ.1 168 = (20, 4913) := xw_K hS (by decide) (by decide) (by decide)
  have eT2 : xck σ 157 2 = some () := xck_ok (sT157 hS)
  unfold f_X4_gather
  simp (disch := first | assumption | omega) only [Option.bind_some, Option.map_some, xw_gR, xw_gN, xw_al, xw_ck, xw_uI, xw_ur, xup_at, xur_at, if_true, if_false, reduceIte, and_true, true_and, and_false, false_and, not_true_eq_false, not_false_eq_true, Nat.reduceEqDiff, eq_self, Nat.reduceAdd, Nat.reduceMul, kC1, kG1, kP1, kR1_0, kR1_1, kR1_2, kR1_3, kR1_4, kR1_5, kR1_6, kR1_7, kR1_8, kR1_9, kR1_10, kR1_11, kR1_12, kR1_13, kC2, kG2, kP2, kR2_0, kR2_1, kC3, kG3, kP3, kR3_0, kR3_1, kR3_2, kR3_3, kL4, kA4, kS4, kL5, kA5, kS5, kL6, kA6, kS6, kL7, kA7, kS7, kC8, kG8, kP8, kR8_0, kR8_1, kL9, kA9, kS9, kL10, kA10, kS10, kC11, kG11, kP11, kR11_0, kR11_1, kR11_2, kR11_3, kL12, kA12, kS12, kL13, kA13, kS13, kL14, kA14, kS14, kL15, kA15, kS15, kC16, kG16, kP16, kR16_0, kR16_1, kL17, kA17, kS17, kL18, kA18, kS18, kC19, kG19, kP19, kR19_0, kL20, kL141, kL146, kA146, kS146, kL151, kA151, kS151, kL156, kA156, kS156, kC157, kG157, kP157, kR157_0, kR157_1, kL158, kA158, kS158, kL159, kA159, kS159, kC161, kG161, kP161, kR161_0, kR161_1, kL162, kA162, kS162, kL163, kA163, kS163, kC165, kG165, kP165, kR165_0, kR165_1, kR165_2, kR165_3, kL166, kA166, kS166, kL167, kA167, kS167, kL168, kA168, kS168, kL169, kA169, kS169, kC170, kG170, kP170, kR170_0, kR170_1, kR170_2, kL171, kA171, kS171, kL172, kA172, kS172, kL173, kA173, kS173, kC174, kG174, kP174, kR174_0, kR174_1, kR174_2, kR174_3, kR174_4, kL175, kA175, kS175, kL176, kA176, kS176, kL177, kA177, kS177, kL178, kA178, kS178, kL179, kC180, kG180, kP180, kL181, kL182, kA182, kS182, kC183, kG183, kP183, kR183_1, kR183_3, kR183_5, kR183_6, kR183_7, kR183_8, kR183_9, kR183_21, kR183_26, kR183_27, kR183_30, kR183_31, kR183_33, kR183_34, kR183_36, kR183_37, kR183_38, kR183_39, kR183_40, kR183_41, kR183_42, kR183_43, kR183_44, kL184, kA184, kS184, kL185, kA185, kS185, kL186, kA186, kS186, kL187, kA187, kS187, kL188, kA188, kS188, kL189, kL190, kL191, kA191, kS191, kL192, kA192, kS192, kL193, kA193, kS193, kL194, kA194, kS194, kL195, kA195, kS195, kL196, kA196, kS196, kL197, kA197, kS197, kL198, kA198, kS198, kL199, kA199, kS199, kL200, kA200, kS200, kL201, kL202, kA202, kS202, kL203, kA203, kS203, kL204, kA204, kS204, kL205, kL206, kA206, kS206, fillI_ok K166, fillI_ok K168]
  have x0 : nI (gSt g) - (1 : Int32) = iI ((gSt g : Int) - 1 - ((0 : Nat) : Int)) := by rw [iI_n, show (1 : Int32) = iI 1 from rfl, iI_sub]; simp
  rw [x0]
  have key : ∃ τ, xloop (f_X4_gather_b21 165 157 16) (iI ((gSt g : Int) - 1 - ((0 : Nat) : Int)), xw σ (xur (xur I 166 (fun j => if j < 289 then 0 else I 166 j)) 168 (fun j => if j < 4913 then 0 else I 168 j))) = some τ ∧ ∃ J, τ = xw σ J ∧ LVK J g F ∧ ∀ a k, ¬ (166 ≤ a ∧ a ≤ 169) → ¬ (a = 165 ∧ k = 4) → J a k = I a k := by
    refine xforI (fun j x => ∃ J, x = (iI ((gSt g : Int) - 1 - (j : Int)), xw σ J) ∧ gaP J g F (gSt g - j) ∧ ∀ a k, ¬ (166 ≤ a ∧ a ≤ 168) → J a k = I a k) (gSt g) ⟨_, rfl, ⟨fun k hk => ?_, fun k s _ h1 h2 => by omega, fun k u hk hu => ?_⟩, fun a k h => by rw [xur_at, if_neg (by omega), xur_at, if_neg (by omega)]⟩ ?_ ?_
    · rw [Nat.sub_zero, cU_e, xur_at, if_neg (by omega), xur_at, if_pos rfl, if_pos hk]; rfl
    · rw [Nat.sub_zero, cU_e, xur_at, if_pos rfl, if_pos (by omega)]; rfl
    · rintro j x hj ⟨J, rfl, ⟨g1, g2, g3⟩, j3⟩
      obtain ⟨s, hs⟩ : ∃ s, s = gSt g - 1 - j := ⟨_, rfl⟩
      have hsN : s < gSt g := by omega
      have hsm : gSt g - j = s + 1 := by omega
      rw [hsm] at g1 g2 g3
      have hs2 : s < 2 ^ gSz g := (gSt_pos hsN).2
      have exs : iI ((gSt g : Int) - 1 - (j : Int)) = nI s := by rw [iI_n]; congr 1; omega
      have hKJ : ENK J (xR σ) (xlen σ) 157 g F := ENK_c (fun k => j3 _ k (by rw [hE.2.1]; omega)) hK
      have hSJ : SR g J 16 F := SR_m hg (fun k _ _ => j3 _ k (by omega)) (fun k _ => j3 _ k (by omega)) (fun k _ => j3 _ k (by omega)) (fun k _ => rfl) hSR
      have nx : nI s + (-1 : Int32) = iI ((gSt g : Int) - 1 - ((j + 1 : Nat) : Int)) := by rw [iI_n, show (-1 : Int32) = iI (-1) from rfl, iI_add]; congr 1; omega
      have hEb2 := eE_b hg ho s
      obtain ⟨e, he, he2⟩ : ∃ e : Nat, eE g (zR F) s = (e : Int) - 144 ∧ e < 289 := ⟨(eE g (zR F) s + 144).toNat, by omega, by omega⟩
      have e144 : iI (eE g (zR F) s) + (144 : Int32) = nI e := by rw [show (144 : Int32) = iI 144 from rfl, iI_add, iI_n]; congr 1; omega
      have hpc := pC_16 s
      have hm1 : gSt g - (j + 1) = s := by omega
      simp only [f_X4_gather_b21]
      rw [exs, if_neg (nI_pos (by omega))]
      simp (disch := first | assumption | omega) only [Option.bind_some, Option.map_some, xw_gR, xw_gN, xw_al, xw_ck, xw_uI, xw_ur, xup_at, xur_at, if_true, if_false, reduceIte, and_true, true_and, and_false, false_and, not_true_eq_false, not_false_eq_true, Nat.reduceEqDiff, eq_self, Nat.reduceAdd, Nat.reduceMul, kC1, kG1, kP1, kR1_0, kR1_1, kR1_2, kR1_3, kR1_4, kR1_5, kR1_6, kR1_7, kR1_8, kR1_9, kR1_10, kR1_11, kR1_12, kR1_13, kC2, kG2, kP2, kR2_0, kR2_1, kC3, kG3, kP3, kR3_0, kR3_1, kR3_2, kR3_3, kL4, kA4, kS4, kL5, kA5, kS5, kL6, kA6, kS6, kL7, kA7, kS7, kC8, kG8, kP8, kR8_0, kR8_1, kL9, kA9, kS9, kL10, kA10, kS10, kC11, kG11, kP11, kR11_0, kR11_1, kR11_2, kR11_3, kL12, kA12, kS12, kL13, kA13, kS13, kL14, kA14, kS14, kL15, kA15, kS15, kC16, kG16, kP16, kR16_0, kR16_1, kL17, kA17, kS17, kL18, kA18, kS18, kC19, kG19, kP19, kR19_0, kL20, kL141, kL146, kA146, kS146, kL151, kA151, kS151, kL156, kA156, kS156, kC157, kG157, kP157, kR157_0, kR157_1, kL158, kA158, kS158, kL159, kA159, kS159, kC161, kG161, kP161, kR161_0, kR161_1, kL162, kA162, kS162, kL163, kA163, kS163, kC165, kG165, kP165, kR165_0, kR165_1, kR165_2, kR165_3, kL166, kA166, kS166, kL167, kA167, kS167, kL168, kA168, kS168, kL169, kA169, kS169, kC170, kG170, kP170, kR170_0, kR170_1, kR170_2, kL171, kA171, kS171, kL172, kA172, kS172, kL173, kA173, kS173, kC174, kG174, kP174, kR174_0, kR174_1, kR174_2, kR174_3, kR174_4, kL175, kA175, kS175, kL176, kA176, kS176, kL177, kA177, kS177, kL178, kA178, kS178, kL179, kC180, kG180, kP180, kL181, kL182, kA182, kS182, kC183, kG183, kP183, kR183_1, kR183_3, kR183_5, kR183_6, kR183_7, kR183_8, kR183_9, kR183_21, kR183_26, kR183_27, kR183_30, kR183_31, kR183_33, kR183_34, kR183_36, kR183_37, kR183_38, kR183_39, kR183_40, kR183_41, kR183_42, kR183_43, kR183_44, kL184, kA184, kS184, kL185, kA185, kS185, kL186, kA186, kS186, kL187, kA187, kS187, kL188, kA188, kS188, kL189, kL190, kL191, kA191, kS191, kL192, kA192, kS192, kL193, kA193, kS193, kL194, kA194, kS194, kL195, kA195, kS195, kL196, kA196, kS196, kL197, kA197, kS197, kL198, kA198, kS198, kL199, kA199, kS199, kL200, kA200, kS200, kL201, kL202, kA202, kS202, kL203, kA203, kS203, kL204, kA204, kS204, kL205, kL206, kA206, kS206, of_ok hS hE hKJ hs2, bitCount_ok (show s < 65536 by omega), allows_ok hS hg suA_16 hSJ, e144, nx, show (17 : Int32) = nI 17 from rfl, nn_mul, nn_add]
      cases hl : lW g F s with
      | false =>
        refine ⟨_, by rw [if_pos (by decide)], J, rfl, ?_, j3⟩
        rw [hm1]
        have hno : ∀ k : Nat, lE g F ((k : Int) - 144) s = false := fun k => by unfold lE; rw [hl]; rfl
        refine ⟨fun k hk => ?_, fun k s' hk h1 h2 h3 h4 => ?_, fun k u hk hu => ?_⟩
        · rw [g1 k hk, cU_s _ hsN, hno k]; simp
        · by_cases z : s' = s
          · rw [z, hno k] at h3; cases h3
          · exact g2 k s' hk (by omega) h2 h3 (fun s'' q1 q2 => h4 s'' (by omega) q2)
        · rw [g3 k u hk hu, cU_s _ hsN, hno k]; simp
      | true =>
        rw [if_neg (by decide), if_neg (nI_pos (by omega)), if_neg (by rw [show (289 : Int32) = nI 289 from rfl, nn_le (by omega) (by omega)]; omega), if_neg (by rw [nn_le (by omega) (by omega)]; omega)]
        have hyes : ∀ k : Nat, lE g F ((k : Int) - 144) s = decide (k = e) := fun k => by
          unfold lE
          rw [hl, he]
          have : ((e : Int) - 144 = (k : Int) - 144) ↔ (k = e) := by omega
          simp only [this, Bool.true_and]
        have hix : e * 17 + pC s = 17 * e + pC s := by omega
        simp (disch := first | assumption | omega) only [Option.bind_some, Option.map_some, xw_gR, xw_gN, xw_al, xw_ck, xw_uI, xw_ur, xup_at, xur_at, if_true, if_false, reduceIte, and_true, true_and, and_false, false_and, not_true_eq_false, not_false_eq_true, Nat.reduceEqDiff, eq_self, Nat.reduceAdd, Nat.reduceMul, kC1, kG1, kP1, kR1_0, kR1_1, kR1_2, kR1_3, kR1_4, kR1_5, kR1_6, kR1_7, kR1_8, kR1_9, kR1_10, kR1_11, kR1_12, kR1_13, kC2, kG2, kP2, kR2_0, kR2_1, kC3, kG3, kP3, kR3_0, kR3_1, kR3_2, kR3_3, kL4, kA4, kS4, kL5, kA5, kS5, kL6, kA6, kS6, kL7, kA7, kS7, kC8, kG8, kP8, kR8_0, kR8_1, kL9, kA9, kS9, kL10, kA10, kS10, kC11, kG11, kP11, kR11_0, kR11_1, kR11_2, kR11_3, kL12, kA12, kS12, kL13, kA13, kS13, kL14, kA14, kS14, kL15, kA15, kS15, kC16, kG16, kP16, kR16_0, kR16_1, kL17, kA17, kS17, kL18, kA18, kS18, kC19, kG19, kP19, kR19_0, kL20, kL141, kL146, kA146, kS146, kL151, kA151, kS151, kL156, kA156, kS156, kC157, kG157, kP157, kR157_0, kR157_1, kL158, kA158, kS158, kL159, kA159, kS159, kC161, kG161, kP161, kR161_0, kR161_1, kL162, kA162, kS162, kL163, kA163, kS163, kC165, kG165, kP165, kR165_0, kR165_1, kR165_2, kR165_3, kL166, kA166, kS166, kL167, kA167, kS167, kL168, kA168, kS168, kL169, kA169, kS169, kC170, kG170, kP170, kR170_0, kR170_1, kR170_2, kL171, kA171, kS171, kL172, kA172, kS172, kL173, kA173, kS173, kC174, kG174, kP174, kR174_0, kR174_1, kR174_2, kR174_3, kR174_4, kL175, kA175, kS175, kL176, kA176, kS176, kL177, kA177, kS177, kL178, kA178, kS178, kL179, kC180, kG180, kP180, kL181, kL182, kA182, kS182, kC183, kG183, kP183, kR183_1, kR183_3, kR183_5, kR183_6, kR183_7, kR183_8, kR183_9, kR183_21, kR183_26, kR183_27, kR183_30, kR183_31, kR183_33, kR183_34, kR183_36, kR183_37, kR183_38, kR183_39, kR183_40, kR183_41, kR183_42, kR183_43, kR183_44, kL184, kA184, kS184, kL185, kA185, kS185, kL186, kA186, kS186, kL187, kA187, kS187, kL188, kA188, kS188, kL189, kL190, kL191, kA191, kS191, kL192, kA192, kS192, kL193, kA193, kS193, kL194, kA194, kS194, kL195, kA195, kS195, kL196, kA196, kS196, kL197, kA197, kS197, kL198, kA198, kS198, kL199, kA199, kS199, kL200, kA200, kS200, kL201, kL202, kA202, kS202, kL203, kA203, kS203, kL204, kA204, kS204, kL205, kL206, kA206, kS206, g1 e he2, hix, g3 e (pC s) he2 (show pC s < 17 by omega)]
        refine ⟨_, rfl, _, rfl, ?_, fun a k h => by rw [xup_at, if_neg (by omega), xup_at, if_neg (by omega), xup_at, if_neg (by omega)]; exact j3 a k h⟩
        rw [hm1]
        refine ⟨fun k hk => ?_, fun k s' hk h1 h2 h3 h4 => ?_, fun k u hk hu => ?_⟩
        · rw [xup_at, if_neg (by omega), xup_at, cU_s _ hsN, hyes k]
          by_cases z : k = e
          · subst z
            rw [if_pos ⟨rfl, rfl⟩, ← nI_succ]
            simp [Nat.add_comm]
          · rw [if_neg (by omega), xup_at, if_neg (by omega), g1 k hk]
            simp [z]
        · rw [xup_at, if_neg (by omega), xup_at, if_neg (by omega), xup_at]
          by_cases z : k = e
          · subst z
            rw [if_pos ⟨rfl, rfl⟩]
            by_cases w : s' = s
            · rw [w]
            · have := h4 s (Nat.le_refl _) (by omega)
              rw [hyes k] at this
              simp at this
          · rw [if_neg (by omega)]
            by_cases w : s' = s
            · rw [w, hyes k] at h3
              simp at h3
              exact absurd h3 z
            · exact g2 k s' hk (by omega) h2 h3 (fun s'' q1 q2 => h4 s'' (by omega) q2)
        · rw [xup_at, cU_s _ hsN, hyes k]
          by_cases z : k = e ∧ u = pC s
          · obtain ⟨z1, z2⟩ := z
            subst z1 z2
            rw [if_pos ⟨rfl, rfl⟩, ← nI_succ]
            simp [Nat.add_comm]
          · rw [if_neg (by omega), xup_at, if_neg (by omega), xup_at, if_neg (by omega), g3 k u hk hu]
            by_cases z1 : k = e
            · have : ¬ pC s = u := fun w => z ⟨z1, w.symm⟩
              simp [this]
            · simp [z1]
    · rintro x ⟨J, rfl, ⟨g1, g2, g3⟩, j3⟩
      rw [Nat.sub_self] at g1 g2 g3
      have hW : WAY J 166 g F := fun k hk => by rw [g1 k hk, cU_0]; rfl
      obtain ⟨J2, q1, q2, q3, q4⟩ := list_ok hS hg hW
      refine ⟨xw σ J2, ?_, J2, rfl, ⟨fun k hk => ?_, fun k s hk hs h1 h2 => ?_, fun k u hk hu => ?_, q2, q3⟩, fun a k h1 h2 => ?_⟩
      · simp only [f_X4_gather_b21]
        rw [if_pos (by rw [show (0 : Int32) = iI 0 from rfl, iI_lt (by omega) (by omega) (by omega) (by omega)]; omega)]
        simp (disch := first | assumption | omega) only [Option.bind_some, Option.map_some, xw_gR, xw_gN, xw_al, xw_ck, xw_uI, xw_ur, xup_at, xur_at, if_true, if_false, reduceIte, and_true, true_and, and_false, false_and, not_true_eq_false, not_false_eq_true, Nat.reduceEqDiff, eq_self, Nat.reduceAdd, Nat.reduceMul, kC1, kG1, kP1, kR1_0, kR1_1, kR1_2, kR1_3, kR1_4, kR1_5, kR1_6, kR1_7, kR1_8, kR1_9, kR1_10, kR1_11, kR1_12, kR1_13, kC2, kG2, kP2, kR2_0, kR2_1, kC3, kG3, kP3, kR3_0, kR3_1, kR3_2, kR3_3, kL4, kA4, kS4, kL5, kA5, kS5, kL6, kA6, kS6, kL7, kA7, kS7, kC8, kG8, kP8, kR8_0, kR8_1, kL9, kA9, kS9, kL10, kA10, kS10, kC11, kG11, kP11, kR11_0, kR11_1, kR11_2, kR11_3, kL12, kA12, kS12, kL13, kA13, kS13, kL14, kA14, kS14, kL15, kA15, kS15, kC16, kG16, kP16, kR16_0, kR16_1, kL17, kA17, kS17, kL18, kA18, kS18, kC19, kG19, kP19, kR19_0, kL20, kL141, kL146, kA146, kS146, kL151, kA151, kS151, kL156, kA156, kS156, kC157, kG157, kP157, kR157_0, kR157_1, kL158, kA158, kS158, kL159, kA159, kS159, kC161, kG161, kP161, kR161_0, kR161_1, kL162, kA162, kS162, kL163, kA163, kS163, kC165, kG165, kP165, kR165_0, kR165_1, kR165_2, kR165_3, kL166, kA166, kS166, kL167, kA167, kS167, kL168, kA168, kS168, kL169, kA169, kS169, kC170, kG170, kP170, kR170_0, kR170_1, kR170_2, kL171, kA171, kS171, kL172, kA172, kS172, kL173, kA173, kS173, kC174, kG174, kP174, kR174_0, kR174_1, kR174_2, kR174_3, kR174_4, kL175, kA175, kS175, kL176, kA176, kS176, kL177, kA177, kS177, kL178, kA178, kS178, kL179, kC180, kG180, kP180, kL181, kL182, kA182, kS182, kC183, kG183, kP183, kR183_1, kR183_3, kR183_5, kR183_6, kR183_7, kR183_8, kR183_9, kR183_21, kR183_26, kR183_27, kR183_30, kR183_31, kR183_33, kR183_34, kR183_36, kR183_37, kR183_38, kR183_39, kR183_40, kR183_41, kR183_42, kR183_43, kR183_44, kL184, kA184, kS184, kL185, kA185, kS185, kL186, kA186, kS186, kL187, kA187, kS187, kL188, kA188, kS188, kL189, kL190, kL191, kA191, kS191, kL192, kA192, kS192, kL193, kA193, kS193, kL194, kA194, kS194, kL195, kA195, kS195, kL196, kA196, kS196, kL197, kA197, kS197, kL198, kA198, kS198, kL199, kA199, kS199, kL200, kA200, kS200, kL201, kL202, kA202, kS202, kL203, kA203, kS203, kL204, kA204, kS204, kL205, kL206, kA206, kS206, q1]
      · rw [q4 _ _ (by omega) (by omega)]; exact hW k hk
      · rw [q4 _ _ (by omega) (by omega)]
        exact g2 k s hk (Nat.zero_le _) hs h1 (fun s' _ h => h2 s' h)
      · rw [q4 _ _ (by omega) (by omega), g3 k u hk hu, cU_0]; rfl
      · rw [q4 _ _ (by omega) h2]; exact j3 a k (by omega)
  obtain ⟨τ, h1, J, rfl, h2⟩ := key
  exact ⟨J, h1, h2⟩
end GATHER
