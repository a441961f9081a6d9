section
/-! pass and hill -/
section PASS
variable {σ : XS} {J : Nat → Nat → Int32} {g : GD} {F : Nat → Int32}
theorem pass12_ok (hS : Shp σ) (hG : GRD J g) (ho : RO g F) (hK : KNK J g F) (h10 : gSt g ≤ 1024) {one other : Nat} (h1 : lwS g F one) (h2 : lwS g F other) :
    ∃ (J' : Nat → Nat → Int32) (h' : Nat → Int), xloop (f_X12_pass_b35 183 (nI one) (nI other)) ((0 : Int32), xw σ J) = some (iI (h' one), xw σ J') ∧ (∀ a k, a ≠ 202 → J' a k = J a k) ∧ HI g F (fun q => q = other) h' ∧ ∀ x y, lwS g F x → aj g F x y → h' x ≤ max (eE g (zR F) x) (h' y) := by
  have hg := hG.1
  have hSt := (gSt_b hg).1
  obtain ⟨h0, hh0⟩ : ∃ h0 : Nat → Int, h0 = fun y => if y = other then eE g (zR F) y else 100000 := ⟨_, rfl⟩
  have hI0 : HI g F (fun q => q = other) h0 := by
    rw [hh0]
    refine ⟨fun x hx1 hn => ?_, fun x hx1 => ?_, fun q hq => ?_⟩
    · show (if x = other then eE g (zR F) x else 100000) = 100000
      rw [if_neg (fun z => by rw [z, h2.2] at hn; cases hn)]
    · show (if x = other then eE g (zR F) x else 100000) = 100000 ∨ ((if x = other then eE g (zR F) x else 100000) ≤ 144 ∧ eE g (zR F) x ≤ (if x = other then eE g (zR F) x else 100000) ∧ ∃ q, q = other ∧ cn (Se g F (if x = other then eE g (zR F) x else 100000)) q x)
      by_cases z : x = other
      · rw [if_pos z]
        have := eE_b hg ho x
        exact .inr ⟨this.2, Int.le_refl _, other, rfl, by rw [z]; exact cn_r _ _⟩
      · rw [if_neg z]; exact .inl rfl
    · have hq' : q = other := hq
      show lwS g F q ∧ (if q = other then eE g (zR F) q else 100000) ≤ _
      rw [hq', if_pos rfl]; exact ⟨h2, Int.le_refl _⟩
  have key := xforI (f := f_X12_pass_b35 183 (nI one) (nI other)) (fun s a => ∃ J' : Nat → Nat → Int32, a = (nI s, xw σ J') ∧ (∀ a k, a ≠ 202 → J' a k = J a k) ∧ ∀ y, y < s → J' 202 y = iI (h0 y)) (gSt g) (Q := fun b => ∃ (J' : Nat → Nat → Int32) (h' : Nat → Int), b = (iI (h' one), xw σ J') ∧ (∀ a k, a ≠ 202 → J' a k = J a k) ∧ HI g F (fun q => q = other) h' ∧ ∀ x y, lwS g F x → aj g F x y → h' x ≤ max (eE g (zR F) x) (h' y)) (a0 := ((0 : Int32), xw σ J)) ⟨J, rfl, fun _ _ _ => rfl, fun y hy => absurd hy (Nat.not_lt_zero _)⟩ ?_ ?_
  · obtain ⟨b, e, J', h', rfl, rest⟩ := key
    exact ⟨J', h', e, rest⟩
  · rintro s a hs ⟨J', rfl, u, v⟩
    have hG' : GRD J' g := GRD_c (fun a k w => u a k (by unfold sGRD at w; omega)) hG
    have s24 : s < 1024 := by omega
    have qs : (nI s = nI other) = (s = other) := nn_eq (by omega) (by have := h2.1; omega)
    have fin : ∀ v0, v0 = iI (h0 s) → ∃ J2 : Nat → Nat → Int32, (nI (s + 1), xw σ (xup J' 202 s v0)) = (nI (s + 1), xw σ J2) ∧ (∀ a k, a ≠ 202 → J2 a k = J a k) ∧ ∀ y, y < s + 1 → J2 202 y = iI (h0 y) := by
      rintro v0 rfl
      refine ⟨_, rfl, fun a k ha => by rw [xup_at, if_neg (by omega)]; exact u a k ha, fun y hy => ?_⟩
      rw [xup_at]
      by_cases z : y = s
      · rw [if_pos ⟨rfl, z⟩, z]
      · rw [if_neg (by omega)]; exact v y (by omega)
    by_cases z : s = other
    · have hk := hK.1 s hs
      rw [z, h2.2, if_pos rfl, ← z] at hk
      have hk' : J' 196 s = iI (eE g (zR F) s) := by rw [u _ _ (by omega)]; exact hk
      refine ⟨_, ?_, fin (iI (eE g (zR F) s)) (by rw [hh0]; show _ = iI (if s = other then _ else _); rw [if_pos z])⟩
      simp only [f_X12_pass_b35]
      have qs1 : (nI s = nI other) = True := qs.trans (eq_true z)
      simp (disch := first | assumption | omega) only [Option.bind_some, Option.map_some, xw_gR, xw_gN, xw_al, xw_ck, xw_uI, xw_ur, xup_at, xur_at, if_true, if_false, reduceIte, and_true, true_and, and_false, false_and, not_true_eq_false, not_false_eq_true, Nat.reduceEqDiff, eq_self, Nat.reduceAdd, Nat.reduceMul, kC1, kG1, kP1, kR1_0, kR1_1, kR1_2, kR1_3, kR1_4, kR1_5, kR1_6, kR1_7, kR1_8, kR1_9, kR1_10, kR1_11, kR1_12, kR1_13, kC2, kG2, kP2, kR2_0, kR2_1, kC3, kG3, kP3, kR3_0, kR3_1, kR3_2, kR3_3, kL4, kA4, kS4, kL5, kA5, kS5, kL6, kA6, kS6, kL7, kA7, kS7, kC8, kG8, kP8, kR8_0, kR8_1, kL9, kA9, kS9, kL10, kA10, kS10, kC11, kG11, kP11, kR11_0, kR11_1, kR11_2, kR11_3, kL12, kA12, kS12, kL13, kA13, kS13, kL14, kA14, kS14, kL15, kA15, kS15, kC16, kG16, kP16, kR16_0, kR16_1, kL17, kA17, kS17, kL18, kA18, kS18, kC19, kG19, kP19, kR19_0, kL20, kL141, kL146, kA146, kS146, kL151, kA151, kS151, kL156, kA156, kS156, kC157, kG157, kP157, kR157_0, kR157_1, kL158, kA158, kS158, kL159, kA159, kS159, kC161, kG161, kP161, kR161_0, kR161_1, kL162, kA162, kS162, kL163, kA163, kS163, kC165, kG165, kP165, kR165_0, kR165_1, kR165_2, kR165_3, kL166, kA166, kS166, kL167, kA167, kS167, kL168, kA168, kS168, kL169, kA169, kS169, kC170, kG170, kP170, kR170_0, kR170_1, kR170_2, kL171, kA171, kS171, kL172, kA172, kS172, kL173, kA173, kS173, kC174, kG174, kP174, kR174_0, kR174_1, kR174_2, kR174_3, kR174_4, kL175, kA175, kS175, kL176, kA176, kS176, kL177, kA177, kS177, kL178, kA178, kS178, kL179, kC180, kG180, kP180, kL181, kL182, kA182, kS182, kC183, kG183, kP183, kR183_1, kR183_3, kR183_5, kR183_6, kR183_7, kR183_8, kR183_9, kR183_21, kR183_26, kR183_27, kR183_30, kR183_31, kR183_33, kR183_34, kR183_36, kR183_37, kR183_38, kR183_39, kR183_40, kR183_41, kR183_42, kR183_43, kR183_44, kL184, kA184, kS184, kL185, kA185, kS185, kL186, kA186, kS186, kL187, kA187, kS187, kL188, kA188, kS188, kL189, kL190, kL191, kA191, kS191, kL192, kA192, kS192, kL193, kA193, kS193, kL194, kA194, kS194, kL195, kA195, kS195, kL196, kA196, kS196, kL197, kA197, kS197, kL198, kA198, kS198, kL199, kA199, kS199, kL200, kA200, kS200, kL201, kL202, kA202, kS202, kL203, kA203, kS203, kL204, kA204, kS204, kL205, kL206, kA206, kS206, states12_ok hS hG', nn_le, show ¬ (gSt g ≤ s) by omega, qs1, hk']
      rw [nI_succ]
    · refine ⟨_, ?_, fin (100000 : Int32) (by rw [hh0]; show _ = iI (if s = other then _ else _); rw [if_neg z]; rfl)⟩
      simp only [f_X12_pass_b35]
      simp (disch := first | assumption | omega) only [Option.bind_some, Option.map_some, xw_gR, xw_gN, xw_al, xw_ck, xw_uI, xw_ur, xup_at, xur_at, if_true, if_false, reduceIte, and_true, true_and, and_false, false_and, not_true_eq_false, not_false_eq_true, Nat.reduceEqDiff, eq_self, Nat.reduceAdd, Nat.reduceMul, kC1, kG1, kP1, kR1_0, kR1_1, kR1_2, kR1_3, kR1_4, kR1_5, kR1_6, kR1_7, kR1_8, kR1_9, kR1_10, kR1_11, kR1_12, kR1_13, kC2, kG2, kP2, kR2_0, kR2_1, kC3, kG3, kP3, kR3_0, kR3_1, kR3_2, kR3_3, kL4, kA4, kS4, kL5, kA5, kS5, kL6, kA6, kS6, kL7, kA7, kS7, kC8, kG8, kP8, kR8_0, kR8_1, kL9, kA9, kS9, kL10, kA10, kS10, kC11, kG11, kP11, kR11_0, kR11_1, kR11_2, kR11_3, kL12, kA12, kS12, kL13, kA13, kS13, kL14, kA14, kS14, kL15, kA15, kS15, kC16, kG16, kP16, kR16_0, kR16_1, kL17, kA17, kS17, kL18, kA18, kS18, kC19, kG19, kP19, kR19_0, kL20, kL141, kL146, kA146, kS146, kL151, kA151, kS151, kL156, kA156, kS156, kC157, kG157, kP157, kR157_0, kR157_1, kL158, kA158, kS158, kL159, kA159, kS159, kC161, kG161, kP161, kR161_0, kR161_1, kL162, kA162, kS162, kL163, kA163, kS163, kC165, kG165, kP165, kR165_0, kR165_1, kR165_2, kR165_3, kL166, kA166, kS166, kL167, kA167, kS167, kL168, kA168, kS168, kL169, kA169, kS169, kC170, kG170, kP170, kR170_0, kR170_1, kR170_2, kL171, kA171, kS171, kL172, kA172, kS172, kL173, kA173, kS173, kC174, kG174, kP174, kR174_0, kR174_1, kR174_2, kR174_3, kR174_4, kL175, kA175, kS175, kL176, kA176, kS176, kL177, kA177, kS177, kL178, kA178, kS178, kL179, kC180, kG180, kP180, kL181, kL182, kA182, kS182, kC183, kG183, kP183, kR183_1, kR183_3, kR183_5, kR183_6, kR183_7, kR183_8, kR183_9, kR183_21, kR183_26, kR183_27, kR183_30, kR183_31, kR183_33, kR183_34, kR183_36, kR183_37, kR183_38, kR183_39, kR183_40, kR183_41, kR183_42, kR183_43, kR183_44, kL184, kA184, kS184, kL185, kA185, kS185, kL186, kA186, kS186, kL187, kA187, kS187, kL188, kA188, kS188, kL189, kL190, kL191, kA191, kS191, kL192, kA192, kS192, kL193, kA193, kS193, kL194, kA194, kS194, kL195, kA195, kS195, kL196, kA196, kS196, kL197, kA197, kS197, kL198, kA198, kS198, kL199, kA199, kS199, kL200, kA200, kS200, kL201, kL202, kA202, kS202, kL203, kA203, kS203, kL204, kA204, kS204, kL205, kL206, kA206, kS206, states12_ok hS hG', nn_le, show ¬ (gSt g ≤ s) by omega, qs, z]
      rw [nI_succ]
  · rintro a ⟨J', rfl, u, v⟩
    have hG' : GRD J' g := GRD_c (fun a k w => u a k (by unfold sGRD at w; omega)) hG
    have hK' : KNK J' g F := KNK_c (I := J) hg (fun a k w => u a k (by omega)) (fun _ _ => rfl) hK
    obtain ⟨J2, h', e, u2, v2, hI', fx⟩ := hills_ok (σ := σ) hS ho h10 ⟨hG', hK', v, hI0⟩
    have o24 : one < 1024 := by have := h1.1; omega
    refine ⟨(iI (h' one), xw σ J2), ?_, J2, h', rfl, fun a k ha => by rw [u2 a k ha]; exact u a k ha, hI', fx⟩
    simp only [f_X12_pass_b35]
    simp (disch := first | assumption | omega) only [Option.bind_some, Option.map_some, xw_gR, xw_gN, xw_al, xw_ck, xw_uI, xw_ur, xup_at, xur_at, if_true, if_false, reduceIte, and_true, true_and, and_false, false_and, not_true_eq_false, not_false_eq_true, Nat.reduceEqDiff, eq_self, Nat.reduceAdd, Nat.reduceMul, kC1, kG1, kP1, kR1_0, kR1_1, kR1_2, kR1_3, kR1_4, kR1_5, kR1_6, kR1_7, kR1_8, kR1_9, kR1_10, kR1_11, kR1_12, kR1_13, kC2, kG2, kP2, kR2_0, kR2_1, kC3, kG3, kP3, kR3_0, kR3_1, kR3_2, kR3_3, kL4, kA4, kS4, kL5, kA5, kS5, kL6, kA6, kS6, kL7, kA7, kS7, kC8, kG8, kP8, kR8_0, kR8_1, kL9, kA9, kS9, kL10, kA10, kS10, kC11, kG11, kP11, kR11_0, kR11_1, kR11_2, kR11_3, kL12, kA12, kS12, kL13, kA13, kS13, kL14, kA14, kS14, kL15, kA15, kS15, kC16, kG16, kP16, kR16_0, kR16_1, kL17, kA17, kS17, kL18, kA18, kS18, kC19, kG19, kP19, kR19_0, kL20, kL141, kL146, kA146, kS146, kL151, kA151, kS151, kL156, kA156, kS156, kC157, kG157, kP157, kR157_0, kR157_1, kL158, kA158, kS158, kL159, kA159, kS159, kC161, kG161, kP161, kR161_0, kR161_1, kL162, kA162, kS162, kL163, kA163, kS163, kC165, kG165, kP165, kR165_0, kR165_1, kR165_2, kR165_3, kL166, kA166, kS166, kL167, kA167, kS167, kL168, kA168, kS168, kL169, kA169, kS169, kC170, kG170, kP170, kR170_0, kR170_1, kR170_2, kL171, kA171, kS171, kL172, kA172, kS172, kL173, kA173, kS173, kC174, kG174, kP174, kR174_0, kR174_1, kR174_2, kR174_3, kR174_4, kL175, kA175, kS175, kL176, kA176, kS176, kL177, kA177, kS177, kL178, kA178, kS178, kL179, kC180, kG180, kP180, kL181, kL182, kA182, kS182, kC183, kG183, kP183, kR183_1, kR183_3, kR183_5, kR183_6, kR183_7, kR183_8, kR183_9, kR183_21, kR183_26, kR183_27, kR183_30, kR183_31, kR183_33, kR183_34, kR183_36, kR183_37, kR183_38, kR183_39, kR183_40, kR183_41, kR183_42, kR183_43, kR183_44, kL184, kA184, kS184, kL185, kA185, kS185, kL186, kA186, kS186, kL187, kA187, kS187, kL188, kA188, kS188, kL189, kL190, kL191, kA191, kS191, kL192, kA192, kS192, kL193, kA193, kS193, kL194, kA194, kS194, kL195, kA195, kS195, kL196, kA196, kS196, kL197, kA197, kS197, kL198, kA198, kS198, kL199, kA199, kS199, kL200, kA200, kS200, kL201, kL202, kA202, kS202, kL203, kA203, kS203, kL204, kA204, kS204, kL205, kL206, kA206, kS206, states12_ok hS hG', nn_le, Nat.le_refl, e, v2 one h1.1]
theorem hill12_ok (hS : Shp σ) (hG : GRD J g) (ho : RO g F) (hK : KNK J g F) (h10 : gSt g ≤ 1024) {one : Nat} {e0 : Int} (h1 : lwS g F one) (he0 : J 198 0 = iI e0) (hb0 : -144 ≤ e0 ∧ e0 ≤ 144) :
    ∃ (J' : Nat → Nat → Int32) (h' : Nat → Int), xloop (f_X12_hill_b27 183 (nI one)) ((0 : Int32), xw σ J) = some (iI (h' one), xw σ J') ∧ (∀ a k, a ≠ 202 → J' a k = J a k) ∧ HI g F (fun q => lwS g F q ∧ eE g (zR F) q = e0) h' ∧ ∀ x y, lwS g F x → aj g F x y → h' x ≤ max (eE g (zR F) x) (h' y) := by
  have hg := hG.1
  have hSt := (gSt_b hg).1
  obtain ⟨h0, hh0⟩ : ∃ h0 : Nat → Int, h0 = fun y => if lW g F y = true ∧ eE g (zR F) y = e0 then e0 else 100000 := ⟨_, rfl⟩
  have hI0 : HI g F (fun q => lwS g F q ∧ eE g (zR F) q = e0) h0 := by
    rw [hh0]
    refine ⟨fun x hx1 hn => ?_, fun x hx1 => ?_, fun q hq => ⟨hq.1, ?_⟩⟩
    · show (if lW g F x = true ∧ eE g (zR F) x = e0 then e0 else 100000) = 100000
      rw [if_neg (fun z => by rw [hn] at z; cases z.1)]
    · show (if lW g F x = true ∧ eE g (zR F) x = e0 then e0 else 100000) = 100000 ∨ ((if lW g F x = true ∧ eE g (zR F) x = e0 then e0 else 100000) ≤ 144 ∧ eE g (zR F) x ≤ (if lW g F x = true ∧ eE g (zR F) x = e0 then e0 else 100000) ∧ ∃ q, (lwS g F q ∧ eE g (zR F) q = e0) ∧ cn (Se g F (if lW g F x = true ∧ eE g (zR F) x = e0 then e0 else 100000)) q x)
      by_cases z : lW g F x = true ∧ eE g (zR F) x = e0
      · rw [if_pos z]
        exact .inr ⟨hb0.2, by omega, x, ⟨⟨hx1, z.1⟩, z.2⟩, cn_r _ _⟩
      · rw [if_neg z]; exact .inl rfl
    · show (if lW g F q = true ∧ eE g (zR F) q = e0 then e0 else 100000) ≤ _
      rw [if_pos ⟨hq.1.2, hq.2⟩]; omega
  have key := xforI (f := f_X12_hill_b27 183 (nI one)) (fun s a => ∃ J' : Nat → Nat → Int32, a = (nI s, xw σ J') ∧ (∀ a k, a ≠ 202 → J' a k = J a k) ∧ ∀ y, y < s → J' 202 y = iI (h0 y)) (gSt g) (Q := fun b => ∃ (J' : Nat → Nat → Int32) (h' : Nat → Int), b = (iI (h' one), xw σ J') ∧ (∀ a k, a ≠ 202 → J' a k = J a k) ∧ HI g F (fun q => lwS g F q ∧ eE g (zR F) q = e0) h' ∧ ∀ x y, lwS g F x → aj g F x y → h' x ≤ max (eE g (zR F) x) (h' y)) (a0 := ((0 : Int32), xw σ J)) ⟨J, rfl, fun _ _ _ => rfl, fun y hy => absurd hy (Nat.not_lt_zero _)⟩ ?_ ?_
  · obtain ⟨b, e, J', h', rfl, rest⟩ := key
    exact ⟨J', h', e, rest⟩
  · rintro s a hs ⟨J', rfl, u, v⟩
    have hG' : GRD J' g := GRD_c (fun a k w => u a k (by unfold sGRD at w; omega)) hG
    have s24 : s < 1024 := by omega
    have z0 : xaI (xw σ J') 20 198 (0 : Int32) = some (iI e0) := by
      have := kA198 (σ := σ) (I := J') hS (i := 0) (by decide)
      rw [u _ _ (by omega), he0] at this
      exact this
    have hk : J' 196 s = if lW g F s then iI (eE g (zR F) s) else nI 100000 := by rw [u _ _ (by omega)]; exact hK.1 s hs
    have hbs := eE_b hg ho s
    have qs : ((if lW g F s then iI (eE g (zR F) s) else nI 100000) = iI e0) = (lW g F s = true ∧ eE g (zR F) s = e0) := by
      cases hl : lW g F s with
      | true =>
        rw [if_pos rfl, iI_eq (by omega) (by omega) (by omega) (by omega)]
        simp
      | false =>
        rw [if_neg (by decide), iI_n, iI_eq (by omega) (by omega) (by omega) (by omega)]
        apply propext
        constructor
        · intro z; omega
        · intro z; cases z.1
    have fin : ∀ v0, v0 = iI (h0 s) → ∃ J2 : Nat → Nat → Int32, (nI (s + 1), xw σ (xup J' 202 s v0)) = (nI (s + 1), xw σ J2) ∧ (∀ a k, a ≠ 202 → J2 a k = J a k) ∧ ∀ y, y < s + 1 → J2 202 y = iI (h0 y) := by
      rintro v0 rfl
      refine ⟨_, rfl, fun a k ha => by rw [xup_at, if_neg (by omega)]; exact u a k ha, fun y hy => ?_⟩
      rw [xup_at]
      by_cases z : y = s
      · rw [if_pos ⟨rfl, z⟩, z]
      · rw [if_neg (by omega)]; exact v y (by omega)
    by_cases z : lW g F s = true ∧ eE g (zR F) s = e0
    · refine ⟨_, ?_, fin (iI e0) (by rw [hh0]; show _ = iI (if lW g F s = true ∧ eE g (zR F) s = e0 then _ else _); rw [if_pos z])⟩
      simp only [f_X12_hill_b27]
      simp (disch := first | assumption | omega) only [Option.bind_some, Option.map_some, xw_gR, xw_gN, xw_al, xw_ck, xw_uI, xw_ur, xup_at, xur_at, if_true, if_false, reduceIte, and_true, true_and, and_false, false_and, not_true_eq_false, not_false_eq_true, Nat.reduceEqDiff, eq_self, Nat.reduceAdd, Nat.reduceMul, kC1, kG1, kP1, kR1_0, kR1_1, kR1_2, kR1_3, kR1_4, kR1_5, kR1_6, kR1_7, kR1_8, kR1_9, kR1_10, kR1_11, kR1_12, kR1_13, kC2, kG2, kP2, kR2_0, kR2_1, kC3, kG3, kP3, kR3_0, kR3_1, kR3_2, kR3_3, kL4, kA4, kS4, kL5, kA5, kS5, kL6, kA6, kS6, kL7, kA7, kS7, kC8, kG8, kP8, kR8_0, kR8_1, kL9, kA9, kS9, kL10, kA10, kS10, kC11, kG11, kP11, kR11_0, kR11_1, kR11_2, kR11_3, kL12, kA12, kS12, kL13, kA13, kS13, kL14, kA14, kS14, kL15, kA15, kS15, kC16, kG16, kP16, kR16_0, kR16_1, kL17, kA17, kS17, kL18, kA18, kS18, kC19, kG19, kP19, kR19_0, kL20, kL141, kL146, kA146, kS146, kL151, kA151, kS151, kL156, kA156, kS156, kC157, kG157, kP157, kR157_0, kR157_1, kL158, kA158, kS158, kL159, kA159, kS159, kC161, kG161, kP161, kR161_0, kR161_1, kL162, kA162, kS162, kL163, kA163, kS163, kC165, kG165, kP165, kR165_0, kR165_1, kR165_2, kR165_3, kL166, kA166, kS166, kL167, kA167, kS167, kL168, kA168, kS168, kL169, kA169, kS169, kC170, kG170, kP170, kR170_0, kR170_1, kR170_2, kL171, kA171, kS171, kL172, kA172, kS172, kL173, kA173, kS173, kC174, kG174, kP174, kR174_0, kR174_1, kR174_2, kR174_3, kR174_4, kL175, kA175, kS175, kL176, kA176, kS176, kL177, kA177, kS177, kL178, kA178, kS178, kL179, kC180, kG180, kP180, kL181, kL182, kA182, kS182, kC183, kG183, kP183, kR183_1, kR183_3, kR183_5, kR183_6, kR183_7, kR183_8, kR183_9, kR183_21, kR183_26, kR183_27, kR183_30, kR183_31, kR183_33, kR183_34, kR183_36, kR183_37, kR183_38, kR183_39, kR183_40, kR183_41, kR183_42, kR183_43, kR183_44, kL184, kA184, kS184, kL185, kA185, kS185, kL186, kA186, kS186, kL187, kA187, kS187, kL188, kA188, kS188, kL189, kL190, kL191, kA191, kS191, kL192, kA192, kS192, kL193, kA193, kS193, kL194, kA194, kS194, kL195, kA195, kS195, kL196, kA196, kS196, kL197, kA197, kS197, kL198, kA198, kS198, kL199, kA199, kS199, kL200, kA200, kS200, kL201, kL202, kA202, kS202, kL203, kA203, kS203, kL204, kA204, kS204, kL205, kL206, kA206, kS206, states12_ok hS hG', nn_le, show ¬ (gSt g ≤ s) by omega, hk, z0]
      rw [if_pos (qs.mpr z)]
      rw [nI_succ]
    · refine ⟨_, ?_, fin (100000 : Int32) (by rw [hh0]; show _ = iI (if lW g F s = true ∧ eE g (zR F) s = e0 then _ else _); rw [if_neg z]; rfl)⟩
      simp only [f_X12_hill_b27]
      simp (disch := first | assumption | omega) only [Option.bind_some, Option.map_some, xw_gR, xw_gN, xw_al, xw_ck, xw_uI, xw_ur, xup_at, xur_at, if_true, if_false, reduceIte, and_true, true_and, and_false, false_and, not_true_eq_false, not_false_eq_true, Nat.reduceEqDiff, eq_self, Nat.reduceAdd, Nat.reduceMul, kC1, kG1, kP1, kR1_0, kR1_1, kR1_2, kR1_3, kR1_4, kR1_5, kR1_6, kR1_7, kR1_8, kR1_9, kR1_10, kR1_11, kR1_12, kR1_13, kC2, kG2, kP2, kR2_0, kR2_1, kC3, kG3, kP3, kR3_0, kR3_1, kR3_2, kR3_3, kL4, kA4, kS4, kL5, kA5, kS5, kL6, kA6, kS6, kL7, kA7, kS7, kC8, kG8, kP8, kR8_0, kR8_1, kL9, kA9, kS9, kL10, kA10, kS10, kC11, kG11, kP11, kR11_0, kR11_1, kR11_2, kR11_3, kL12, kA12, kS12, kL13, kA13, kS13, kL14, kA14, kS14, kL15, kA15, kS15, kC16, kG16, kP16, kR16_0, kR16_1, kL17, kA17, kS17, kL18, kA18, kS18, kC19, kG19, kP19, kR19_0, kL20, kL141, kL146, kA146, kS146, kL151, kA151, kS151, kL156, kA156, kS156, kC157, kG157, kP157, kR157_0, kR157_1, kL158, kA158, kS158, kL159, kA159, kS159, kC161, kG161, kP161, kR161_0, kR161_1, kL162, kA162, kS162, kL163, kA163, kS163, kC165, kG165, kP165, kR165_0, kR165_1, kR165_2, kR165_3, kL166, kA166, kS166, kL167, kA167, kS167, kL168, kA168, kS168, kL169, kA169, kS169, kC170, kG170, kP170, kR170_0, kR170_1, kR170_2, kL171, kA171, kS171, kL172, kA172, kS172, kL173, kA173, kS173, kC174, kG174, kP174, kR174_0, kR174_1, kR174_2, kR174_3, kR174_4, kL175, kA175, kS175, kL176, kA176, kS176, kL177, kA177, kS177, kL178, kA178, kS178, kL179, kC180, kG180, kP180, kL181, kL182, kA182, kS182, kC183, kG183, kP183, kR183_1, kR183_3, kR183_5, kR183_6, kR183_7, kR183_8, kR183_9, kR183_21, kR183_26, kR183_27, kR183_30, kR183_31, kR183_33, kR183_34, kR183_36, kR183_37, kR183_38, kR183_39, kR183_40, kR183_41, kR183_42, kR183_43, kR183_44, kL184, kA184, kS184, kL185, kA185, kS185, kL186, kA186, kS186, kL187, kA187, kS187, kL188, kA188, kS188, kL189, kL190, kL191, kA191, kS191, kL192, kA192, kS192, kL193, kA193, kS193, kL194, kA194, kS194, kL195, kA195, kS195, kL196, kA196, kS196, kL197, kA197, kS197, kL198, kA198, kS198, kL199, kA199, kS199, kL200, kA200, kS200, kL201, kL202, kA202, kS202, kL203, kA203, kS203, kL204, kA204, kS204, kL205, kL206, kA206, kS206, states12_ok hS hG', nn_le, show ¬ (gSt g ≤ s) by omega, hk, z0]
      rw [if_neg (fun w => z (qs.mp w))]
      rw [nI_succ]
  · rintro a ⟨J', rfl, u, v⟩
    have hG' : GRD J' g := GRD_c (fun a k w => u a k (by unfold sGRD at w; omega)) hG
    have hK' : KNK J' g F := KNK_c (I := J) hg (fun a k w => u a k (by omega)) (fun _ _ => rfl) hK
    obtain ⟨J2, h', e, u2, v2, hI', fx⟩ := hills_ok (σ := σ) hS ho h10 ⟨hG', hK', v, hI0⟩
    have o24 : one < 1024 := by have := h1.1; omega
    refine ⟨(iI (h' one), xw σ J2), ?_, J2, h', rfl, fun a k ha => by rw [u2 a k ha]; exact u a k ha, hI', fx⟩
    simp only [f_X12_hill_b27]
    simp (disch := first | assumption | omega) only [Option.bind_some, Option.map_some, xw_gR, xw_gN, xw_al, xw_ck, xw_uI, xw_ur, xup_at, xur_at, if_true, if_false, reduceIte, and_true, true_and, and_false, false_and, not_true_eq_false, not_false_eq_true, Nat.reduceEqDiff, eq_self, Nat.reduceAdd, Nat.reduceMul, kC1, kG1, kP1, kR1_0, kR1_1, kR1_2, kR1_3, kR1_4, kR1_5, kR1_6, kR1_7, kR1_8, kR1_9, kR1_10, kR1_11, kR1_12, kR1_13, kC2, kG2, kP2, kR2_0, kR2_1, kC3, kG3, kP3, kR3_0, kR3_1, kR3_2, kR3_3, kL4, kA4, kS4, kL5, kA5, kS5, kL6, kA6, kS6, kL7, kA7, kS7, kC8, kG8, kP8, kR8_0, kR8_1, kL9, kA9, kS9, kL10, kA10, kS10, kC11, kG11, kP11, kR11_0, kR11_1, kR11_2, kR11_3, kL12, kA12, kS12, kL13, kA13, kS13, kL14, kA14, kS14, kL15, kA15, kS15, kC16, kG16, kP16, kR16_0, kR16_1, kL17, kA17, kS17, kL18, kA18, kS18, kC19, kG19, kP19, kR19_0, kL20, kL141, kL146, kA146, kS146, kL151, kA151, kS151, kL156, kA156, kS156, kC157, kG157, kP157, kR157_0, kR157_1, kL158, kA158, kS158, kL159, kA159, kS159, kC161, kG161, kP161, kR161_0, kR161_1, kL162, kA162, kS162, kL163, kA163, kS163, kC165, kG165, kP165, kR165_0, kR165_1, kR165_2, kR165_3, kL166, kA166, kS166, kL167, kA167, kS167, kL168, kA168, kS168, kL169, kA169, kS169, kC170, kG170, kP170, kR170_0, kR170_1, kR170_2, kL171, kA171, kS171, kL172, kA172, kS172, kL173, kA173, kS173, kC174, kG174, kP174, kR174_0, kR174_1, kR174_2, kR174_3, kR174_4, kL175, kA175, kS175, kL176, kA176, kS176, kL177, kA177, kS177, kL178, kA178, kS178, kL179, kC180, kG180, kP180, kL181, kL182, kA182, kS182, kC183, kG183, kP183, kR183_1, kR183_3, kR183_5, kR183_6, kR183_7, kR183_8, kR183_9, kR183_21, kR183_26, kR183_27, kR183_30, kR183_31, kR183_33, kR183_34, kR183_36, kR183_37, kR183_38, kR183_39, kR183_40, kR183_41, kR183_42, kR183_43, kR183_44, kL184, kA184, kS184, kL185, kA185, kS185, kL186, kA186, kS186, kL187, kA187, kS187, kL188, kA188, kS188, kL189, kL190, kL191, kA191, kS191, kL192, kA192, kS192, kL193, kA193, kS193, kL194, kA194, kS194, kL195, kA195, kS195, kL196, kA196, kS196, kL197, kA197, kS197, kL198, kA198, kS198, kL199, kA199, kS199, kL200, kA200, kS200, kL201, kL202, kA202, kS202, kL203, kA203, kS203, kL204, kA204, kS204, kL205, kL206, kA206, kS206, states12_ok hS hG', nn_le, Nat.le_refl, e, v2 one h1.1]
end PASS
/-- the terrain asked, then the model's notes at hand -/
theorem terr_both {n : Nat} {τ : XS} {g : GD} {gT gP : GH} {st : Nat} {F : Nat → Int32} {J' : Nat → Nat → Int32} (H1 : IV n τ g gT gP st) (r1 : xI τ 191 = F) (u : ∀ a k, ¬ (176 ≤ a ∧ a ≤ 182) → ¬ (a = 174 ∧ k = 9) → J' a k = xI τ a k) : IV n (xw τ J') g gT gP st ∧ GRD J' g ∧ J' 191 = F ∧ ∃ Q, f_X12_knows (xw τ J') 183 = some (xw τ Q) ∧ IV n (xw τ Q) g gT gP st ∧ GRD Q g ∧ KNK Q g F ∧ Q 191 = F := by
  have H3 : IV n (xw τ J') g gT gP st := H1.terr u
  obtain ⟨Q, e4, H4, K4, u4⟩ := knows_ok H3
  have r3 : J' 191 = F := by rw [← r1]; funext k; exact u 191 k (by omega) (by omega)
  have r4 : Q 191 = F := by rw [← r3]; funext k; exact u4 191 k (by omega) (by omega)
  rw [r4] at K4
  exact ⟨H3, H3.grd, r3, Q, e4, H4, H4.grd, K4, r4⟩
theorem IV.hills {n : Nat} {σ : XS} {g : GD} {gT gP : GH} {st : Nat} (H : IV n σ g gT gP st) {J' : Nat → Nat → Int32} (u : ∀ a k, ¬ (202 ≤ a ∧ a ≤ 206) → J' a k = xI σ a k) : IV n (xw σ J') g gT gP st :=
  H.model (fun a k h => by
    by_cases z : 202 ≤ a ∧ a ≤ 206
    · omega
    · exact u a k z) (KNW_c H.grd.1 (fun a k q => u a k (by unfold sKNW at q; omega)) H.knw)
theorem op_pass : Op_pass INV := by
  intro n σ hn ⟨g, gT, gP, st, H⟩ x y
  have hS := H.shp
  have hG := H.grd
  have hg := hG.1
  have hSt := (gSt_b hg).1
  have sm := isSmall_ok (σ := σ) (I := xI σ) hS hG
  have l1 := isLawful11_ok (σ := σ) (I := xI σ) hS hG H.now.1
  have l2 := isLawful12_ok (σ := σ) (I := xI σ) hS hG H.now.2.1
  have s2 := sites_ok (σ := σ) (I := xI σ) hS hG
  have sm2 := small12 hS hG
  by_cases h10 : gSz g ≤ 10 ∧ isB g (xI σ 191) x = true ∧ isB g (xI σ 191) y = true
  · obtain ⟨h10, hb, hb'⟩ := h10
    rw [if_pos h10] at sm
    have l1x := l1 x
    have l1y := l1 y
    rw [hb, if_pos rfl] at l1x
    rw [hb', if_pos rfl] at l1y
    obtain ⟨b, hb1, rfl, hbl⟩ := isB_t hb
    obtain ⟨d, hd1, rfl, hdl⟩ := isB_t hb'
    obtain ⟨τ, c, m, M, o, e1, H1, hT, hO, r1⟩ := terr_ready (by omega) H h10
    obtain ⟨F, hF⟩ : ∃ F, F = xI σ 191 := ⟨_, rfl⟩
    rw [← hF] at hT hO hbl hdl r1
    obtain ⟨i, J', hi, e3, m1, m2, u3⟩ := meetP_ok hT hO (one := b) (other := d) ⟨hb1, hbl⟩ ⟨hd1, hdl⟩
    obtain ⟨H3, hG3, r3, Q, e4, H4, hG4, K4, r4⟩ := terr_both H1 r1 u3
    have hS3 : Shp τ := H1.shp
    have ho := hT.2.2.1
    obtain ⟨J5, h', e5, u5, hI5, fx5⟩ := pass12_ok (σ := τ) (J := Q) hS3 hG4 ho K4 hT.st (one := b) (other := d) ⟨hb1, hbl⟩ ⟨hd1, hdl⟩
    have heq := meet_eq hg ho hO hi hI5 fx5 ⟨hb1, hbl⟩ ⟨hd1, hdl⟩ (fun q _ => Iff.rfl) rfl (fun q hq => by rw [show q = d from hq]; exact Int.le_refl _) m1 m2
    rw [heq] at e5
    have l3 := fun s => isLawful12_ok (σ := τ) (I := J') hS3 hG3 (show RO g (J' 191) from H3.now.2.1) (nI s)
    have l3b := l3 b
    have l3d := l3 d
    rw [r3, isB_n hg hb1, hbl, if_pos rfl] at l3b
    rw [r3, isB_n hg hd1, hdl, if_pos rfl] at l3d
    refine ⟨iI (eE g (zR F) (o i)), xw τ J', xw τ J5, ?_, ?_, INV_i (IV.nop (H4.hills (fun a k h => u5 a k (by omega))))⟩
    · unfold f_X11_pass
      show ((xck σ 1 11).bind fun _ => (f_X11_isSmall (xw σ (xI σ)) 1).bind _) = _
      rw [xck_ok (sT1 hS), Option.bind_some, sm, Option.bind_some, if_neg (by decide), Option.bind_some]
      show ((f_X11_isLawful (xw σ (xI σ)) 1 (nI b)).bind _) = _
      rw [l1x, Option.bind_some, if_neg (by decide), Option.bind_some]
      show ((f_X11_isLawful (xw σ (xI σ)) 1 (nI d)).bind _) = _
      rw [l1y, Option.bind_some, if_neg (by decide), Option.bind_some, e1, Option.bind_some]
      dsimp only
      rw [xnz_ok (by decide), Option.bind_some]
      unfold f_X11_pass_j30
      rw [xck_ok (sT174 hS3), Option.bind_some]
      show ((f_X9_meetingEnergy (xw τ (xI τ)) 174 (nI b) (nI d) 0).bind _) = _
      rw [e3, Option.bind_some]
    · unfold f_X12_pass
      simp (disch := first | assumption | omega) only [Option.bind_some, Option.map_some, xw_gR, xw_gN, xw_al, xw_ck, xw_uI, xw_ur, xup_at, xur_at, if_true, if_false, reduceIte, and_true, true_and, and_false, false_and, not_true_eq_false, not_false_eq_true, Nat.reduceEqDiff, eq_self, Nat.reduceAdd, Nat.reduceMul, kC1, kG1, kP1, kR1_0, kR1_1, kR1_2, kR1_3, kR1_4, kR1_5, kR1_6, kR1_7, kR1_8, kR1_9, kR1_10, kR1_11, kR1_12, kR1_13, kC2, kG2, kP2, kR2_0, kR2_1, kC3, kG3, kP3, kR3_0, kR3_1, kR3_2, kR3_3, kL4, kA4, kS4, kL5, kA5, kS5, kL6, kA6, kS6, kL7, kA7, kS7, kC8, kG8, kP8, kR8_0, kR8_1, kL9, kA9, kS9, kL10, kA10, kS10, kC11, kG11, kP11, kR11_0, kR11_1, kR11_2, kR11_3, kL12, kA12, kS12, kL13, kA13, kS13, kL14, kA14, kS14, kL15, kA15, kS15, kC16, kG16, kP16, kR16_0, kR16_1, kL17, kA17, kS17, kL18, kA18, kS18, kC19, kG19, kP19, kR19_0, kL20, kL141, kL146, kA146, kS146, kL151, kA151, kS151, kL156, kA156, kS156, kC157, kG157, kP157, kR157_0, kR157_1, kL158, kA158, kS158, kL159, kA159, kS159, kC161, kG161, kP161, kR161_0, kR161_1, kL162, kA162, kS162, kL163, kA163, kS163, kC165, kG165, kP165, kR165_0, kR165_1, kR165_2, kR165_3, kL166, kA166, kS166, kL167, kA167, kS167, kL168, kA168, kS168, kL169, kA169, kS169, kC170, kG170, kP170, kR170_0, kR170_1, kR170_2, kL171, kA171, kS171, kL172, kA172, kS172, kL173, kA173, kS173, kC174, kG174, kP174, kR174_0, kR174_1, kR174_2, kR174_3, kR174_4, kL175, kA175, kS175, kL176, kA176, kS176, kL177, kA177, kS177, kL178, kA178, kS178, kL179, kC180, kG180, kP180, kL181, kL182, kA182, kS182, kC183, kG183, kP183, kR183_1, kR183_3, kR183_5, kR183_6, kR183_7, kR183_8, kR183_9, kR183_21, kR183_26, kR183_27, kR183_30, kR183_31, kR183_33, kR183_34, kR183_36, kR183_37, kR183_38, kR183_39, kR183_40, kR183_41, kR183_42, kR183_43, kR183_44, kL184, kA184, kS184, kL185, kA185, kS185, kL186, kA186, kS186, kL187, kA187, kS187, kL188, kA188, kS188, kL189, kL190, kL191, kA191, kS191, kL192, kA192, kS192, kL193, kA193, kS193, kL194, kA194, kS194, kL195, kA195, kS195, kL196, kA196, kS196, kL197, kA197, kS197, kL198, kA198, kS198, kL199, kA199, kS199, kL200, kA200, kS200, kL201, kL202, kA202, kS202, kL203, kA203, kS203, kL204, kA204, kS204, kL205, kL206, kA206, kS206, l3b, l3d, one0, sites_ok hS3 hG3, sm2, h10, e4]
      exact e5
  · have A : f_X11_pass σ 1 x y = some (-100000, σ) := by
      show f_X11_pass (xw σ (xI σ)) 1 x y = _
      unfold f_X11_pass
      simp (disch := first | assumption | omega) only [Option.bind_some, Option.map_some, xw_gR, xw_gN, xw_al, xw_ck, xw_uI, xw_ur, xup_at, xur_at, if_true, if_false, reduceIte, and_true, true_and, and_false, false_and, not_true_eq_false, not_false_eq_true, Nat.reduceEqDiff, eq_self, Nat.reduceAdd, Nat.reduceMul, kC1, kG1, kP1, kR1_0, kR1_1, kR1_2, kR1_3, kR1_4, kR1_5, kR1_6, kR1_7, kR1_8, kR1_9, kR1_10, kR1_11, kR1_12, kR1_13, kC2, kG2, kP2, kR2_0, kR2_1, kC3, kG3, kP3, kR3_0, kR3_1, kR3_2, kR3_3, kL4, kA4, kS4, kL5, kA5, kS5, kL6, kA6, kS6, kL7, kA7, kS7, kC8, kG8, kP8, kR8_0, kR8_1, kL9, kA9, kS9, kL10, kA10, kS10, kC11, kG11, kP11, kR11_0, kR11_1, kR11_2, kR11_3, kL12, kA12, kS12, kL13, kA13, kS13, kL14, kA14, kS14, kL15, kA15, kS15, kC16, kG16, kP16, kR16_0, kR16_1, kL17, kA17, kS17, kL18, kA18, kS18, kC19, kG19, kP19, kR19_0, kL20, kL141, kL146, kA146, kS146, kL151, kA151, kS151, kL156, kA156, kS156, kC157, kG157, kP157, kR157_0, kR157_1, kL158, kA158, kS158, kL159, kA159, kS159, kC161, kG161, kP161, kR161_0, kR161_1, kL162, kA162, kS162, kL163, kA163, kS163, kC165, kG165, kP165, kR165_0, kR165_1, kR165_2, kR165_3, kL166, kA166, kS166, kL167, kA167, kS167, kL168, kA168, kS168, kL169, kA169, kS169, kC170, kG170, kP170, kR170_0, kR170_1, kR170_2, kL171, kA171, kS171, kL172, kA172, kS172, kL173, kA173, kS173, kC174, kG174, kP174, kR174_0, kR174_1, kR174_2, kR174_3, kR174_4, kL175, kA175, kS175, kL176, kA176, kS176, kL177, kA177, kS177, kL178, kA178, kS178, kL179, kC180, kG180, kP180, kL181, kL182, kA182, kS182, kC183, kG183, kP183, kR183_1, kR183_3, kR183_5, kR183_6, kR183_7, kR183_8, kR183_9, kR183_21, kR183_26, kR183_27, kR183_30, kR183_31, kR183_33, kR183_34, kR183_36, kR183_37, kR183_38, kR183_39, kR183_40, kR183_41, kR183_42, kR183_43, kR183_44, kL184, kA184, kS184, kL185, kA185, kS185, kL186, kA186, kS186, kL187, kA187, kS187, kL188, kA188, kS188, kL189, kL190, kL191, kA191, kS191, kL192, kA192, kS192, kL193, kA193, kS193, kL194, kA194, kS194, kL195, kA195, kS195, kL196, kA196, kS196, kL197, kA197, kS197, kL198, kA198, kS198, kL199, kA199, kS199, kL200, kA200, kS200, kL201, kL202, kA202, kS202, kL203, kA203, kS203, kL204, kA204, kS204, kL205, kL206, kA206, kS206, sm, l1]
      by_cases q1 : gSz g ≤ 10
      · by_cases q2 : isB g (xI σ 191) x = true
        · by_cases q3 : isB g (xI σ 191) y = true
          · exact absurd ⟨q1, q2, q3⟩ h10
          · simp only [q1, q2, q3, if_true, if_false, one0, Bool.false_eq_true]; rfl
        · simp only [q1, q2, if_true, if_false, one0, Bool.false_eq_true]; rfl
      · simp only [q1, if_false, if_true]; rfl
    have B : f_X12_pass σ 183 x y = some (-100000, σ) := by
      show f_X12_pass (xw σ (xI σ)) 183 x y = _
      unfold f_X12_pass
      simp (disch := first | assumption | omega) only [Option.bind_some, Option.map_some, xw_gR, xw_gN, xw_al, xw_ck, xw_uI, xw_ur, xup_at, xur_at, if_true, if_false, reduceIte, and_true, true_and, and_false, false_and, not_true_eq_false, not_false_eq_true, Nat.reduceEqDiff, eq_self, Nat.reduceAdd, Nat.reduceMul, kC1, kG1, kP1, kR1_0, kR1_1, kR1_2, kR1_3, kR1_4, kR1_5, kR1_6, kR1_7, kR1_8, kR1_9, kR1_10, kR1_11, kR1_12, kR1_13, kC2, kG2, kP2, kR2_0, kR2_1, kC3, kG3, kP3, kR3_0, kR3_1, kR3_2, kR3_3, kL4, kA4, kS4, kL5, kA5, kS5, kL6, kA6, kS6, kL7, kA7, kS7, kC8, kG8, kP8, kR8_0, kR8_1, kL9, kA9, kS9, kL10, kA10, kS10, kC11, kG11, kP11, kR11_0, kR11_1, kR11_2, kR11_3, kL12, kA12, kS12, kL13, kA13, kS13, kL14, kA14, kS14, kL15, kA15, kS15, kC16, kG16, kP16, kR16_0, kR16_1, kL17, kA17, kS17, kL18, kA18, kS18, kC19, kG19, kP19, kR19_0, kL20, kL141, kL146, kA146, kS146, kL151, kA151, kS151, kL156, kA156, kS156, kC157, kG157, kP157, kR157_0, kR157_1, kL158, kA158, kS158, kL159, kA159, kS159, kC161, kG161, kP161, kR161_0, kR161_1, kL162, kA162, kS162, kL163, kA163, kS163, kC165, kG165, kP165, kR165_0, kR165_1, kR165_2, kR165_3, kL166, kA166, kS166, kL167, kA167, kS167, kL168, kA168, kS168, kL169, kA169, kS169, kC170, kG170, kP170, kR170_0, kR170_1, kR170_2, kL171, kA171, kS171, kL172, kA172, kS172, kL173, kA173, kS173, kC174, kG174, kP174, kR174_0, kR174_1, kR174_2, kR174_3, kR174_4, kL175, kA175, kS175, kL176, kA176, kS176, kL177, kA177, kS177, kL178, kA178, kS178, kL179, kC180, kG180, kP180, kL181, kL182, kA182, kS182, kC183, kG183, kP183, kR183_1, kR183_3, kR183_5, kR183_6, kR183_7, kR183_8, kR183_9, kR183_21, kR183_26, kR183_27, kR183_30, kR183_31, kR183_33, kR183_34, kR183_36, kR183_37, kR183_38, kR183_39, kR183_40, kR183_41, kR183_42, kR183_43, kR183_44, kL184, kA184, kS184, kL185, kA185, kS185, kL186, kA186, kS186, kL187, kA187, kS187, kL188, kA188, kS188, kL189, kL190, kL191, kA191, kS191, kL192, kA192, kS192, kL193, kA193, kS193, kL194, kA194, kS194, kL195, kA195, kS195, kL196, kA196, kS196, kL197, kA197, kS197, kL198, kA198, kS198, kL199, kA199, kS199, kL200, kA200, kS200, kL201, kL202, kA202, kS202, kL203, kA203, kS203, kL204, kA204, kS204, kL205, kL206, kA206, kS206, l2, s2, sm2]
      by_cases q2 : isB g (xI σ 191) x = true
      · by_cases q3 : isB g (xI σ 191) y = true
        · by_cases q1 : gSz g ≤ 10
          · exact absurd ⟨q1, q2, q3⟩ h10
          · simp only [q1, q2, q3, if_true, if_false, one0, Bool.false_eq_true]; rfl
        · simp only [q2, q3, if_true, if_false, one0, Bool.false_eq_true]; rfl
      · simp only [q2, if_true, if_false, one0, Bool.false_eq_true]; rfl
    exact ⟨-100000, σ, σ, A, B, INV_i H.nop⟩
theorem op_hill : Op_hill INV := by
  intro n σ hn ⟨g, gT, gP, st, H⟩ x
  have hS := H.shp
  have hG := H.grd
  have hg := hG.1
  have hSt := (gSt_b hg).1
  have sm := isSmall_ok (σ := σ) (I := xI σ) hS hG
  have l1 := isLawful11_ok (σ := σ) (I := xI σ) hS hG H.now.1
  have l2 := isLawful12_ok (σ := σ) (I := xI σ) hS hG H.now.2.1
  have s2 := sites_ok (σ := σ) (I := xI σ) hS hG
  have sm2 := small12 hS hG
  by_cases h10 : gSz g ≤ 10 ∧ isB g (xI σ 191) x = true
  · obtain ⟨h10, hb⟩ := h10
    rw [if_pos h10] at sm
    have l1x := l1 x
    rw [hb, if_pos rfl] at l1x
    obtain ⟨b, hb1, rfl, hbl⟩ := isB_t hb
    obtain ⟨τ, c, m, M, o, e1, H1, hT, hO, r1⟩ := terr_ready (by omega) H h10
    obtain ⟨F, hF⟩ : ∃ F, F = xI σ 191 := ⟨_, rfl⟩
    rw [← hF] at hT hO hbl r1
    have ho := hT.2.2.1
    have hM0 : 0 < M := by
      obtain ⟨j, hj, -⟩ := hO.2.2.2.2 b hb1 hbl
      omega
    obtain ⟨i, J', hi, e3, m1, m2, u3⟩ := meetH_ok hT hO (one := b) ⟨hb1, hbl⟩ hM0
    obtain ⟨H3, hG3, r3, Q, e4, H4, hG4, K4, r4⟩ := terr_both H1 r1 u3
    have hS3 : Shp τ := H1.shp
    obtain ⟨e, he, hE, hp⟩ := lE_slot hg ho hb1 hbl
    have hlv : 0 < lvN g F := fb_ct_pos.mpr ⟨e, he, hp⟩
    obtain ⟨k, hk, hpk, hki⟩ := lv_first (g := g) (F := F) hlv
    have q0 : Q 198 0 = iI ((k : Int) - 144) := by rw [← hki]; exact K4.2.2.2 k hk hpk
    have eo : eE g (zR F) (o 0) = (k : Int) - 144 := by
      have a1 := ground_le hg ho hki (hO.2.2.1 0 hM0).2.1 (hO.2.2.1 0 hM0).2.2
      have a2 : 0 < lC g F ((k : Int) - 144) := of_decide_eq_true hpk
      obtain ⟨s, s1, s2⟩ := fb_ct_pos.mp a2
      unfold lE at s2
      simp only [Bool.and_eq_true, decide_eq_true_eq] at s2
      obtain ⟨j, j1, j2⟩ := hO.2.2.2.2 s s1 s2.1
      by_cases z : j = 0
      · rw [z] at j2; rw [j2]; exact s2.2
      · have := (hO.2.2.2.1 0 j (by omega) j1).1
        rw [j2] at this
        omega
    obtain ⟨J5, h', e5, u5, hI5, fx5⟩ := hill12_ok (σ := τ) (J := Q) hS3 hG4 ho K4 hT.st (one := b) ⟨hb1, hbl⟩ q0 (by omega)
    have heq := meet_eq (Qc := fun x => eE g (zR F) x = eE g (zR F) (o 0)) hg ho hO hi hI5 fx5 ⟨hb1, hbl⟩ (hO.2.2.1 0 hM0).2 (fun q hq => by
      constructor
      · rintro ⟨z1, z2⟩; show _ = _; omega
      · intro z
        have z' : eE g (zR F) q = eE g (zR F) (o 0) := z
        exact ⟨hq, by omega⟩) rfl (fun q hq => by rw [hq.2]; omega) m1 m2
    rw [heq] at e5
    have l3b := isLawful12_ok (σ := τ) (I := J') hS3 hG3 (show RO g (J' 191) from H3.now.2.1) (nI b)
    rw [r3, isB_n hg hb1, hbl, if_pos rfl] at l3b
    have low : f_X9_lowest τ 174 = some (nI (o 0)) := by
      show f_X9_lowest (xw τ (xI τ)) 174 = _
      unfold f_X9_lowest
      have z0 : xaI (xw τ (xI τ)) 20 175 (0 : Int32) = some (xI τ 175 0) := kA175 hS3 (i := 0) (by decide)
      simp (disch := first | assumption | omega) only [Option.bind_some, Option.map_some, xw_gR, xw_gN, xw_al, xw_ck, xw_uI, xw_ur, xup_at, xur_at, if_true, if_false, reduceIte, and_true, true_and, and_false, false_and, not_true_eq_false, not_false_eq_true, Nat.reduceEqDiff, eq_self, Nat.reduceAdd, Nat.reduceMul, kC1, kG1, kP1, kR1_0, kR1_1, kR1_2, kR1_3, kR1_4, kR1_5, kR1_6, kR1_7, kR1_8, kR1_9, kR1_10, kR1_11, kR1_12, kR1_13, kC2, kG2, kP2, kR2_0, kR2_1, kC3, kG3, kP3, kR3_0, kR3_1, kR3_2, kR3_3, kL4, kA4, kS4, kL5, kA5, kS5, kL6, kA6, kS6, kL7, kA7, kS7, kC8, kG8, kP8, kR8_0, kR8_1, kL9, kA9, kS9, kL10, kA10, kS10, kC11, kG11, kP11, kR11_0, kR11_1, kR11_2, kR11_3, kL12, kA12, kS12, kL13, kA13, kS13, kL14, kA14, kS14, kL15, kA15, kS15, kC16, kG16, kP16, kR16_0, kR16_1, kL17, kA17, kS17, kL18, kA18, kS18, kC19, kG19, kP19, kR19_0, kL20, kL141, kL146, kA146, kS146, kL151, kA151, kS151, kL156, kA156, kS156, kC157, kG157, kP157, kR157_0, kR157_1, kL158, kA158, kS158, kL159, kA159, kS159, kC161, kG161, kP161, kR161_0, kR161_1, kL162, kA162, kS162, kL163, kA163, kS163, kC165, kG165, kP165, kR165_0, kR165_1, kR165_2, kR165_3, kL166, kA166, kS166, kL167, kA167, kS167, kL168, kA168, kS168, kL169, kA169, kS169, kC170, kG170, kP170, kR170_0, kR170_1, kR170_2, kL171, kA171, kS171, kL172, kA172, kS172, kL173, kA173, kS173, kC174, kG174, kP174, kR174_0, kR174_1, kR174_2, kR174_3, kR174_4, kL175, kA175, kS175, kL176, kA176, kS176, kL177, kA177, kS177, kL178, kA178, kS178, kL179, kC180, kG180, kP180, kL181, kL182, kA182, kS182, kC183, kG183, kP183, kR183_1, kR183_3, kR183_5, kR183_6, kR183_7, kR183_8, kR183_9, kR183_21, kR183_26, kR183_27, kR183_30, kR183_31, kR183_33, kR183_34, kR183_36, kR183_37, kR183_38, kR183_39, kR183_40, kR183_41, kR183_42, kR183_43, kR183_44, kL184, kA184, kS184, kL185, kA185, kS185, kL186, kA186, kS186, kL187, kA187, kS187, kL188, kA188, kS188, kL189, kL190, kL191, kA191, kS191, kL192, kA192, kS192, kL193, kA193, kS193, kL194, kA194, kS194, kL195, kA195, kS195, kL196, kA196, kS196, kL197, kA197, kS197, kL198, kA198, kS198, kL199, kA199, kS199, kL200, kA200, kS200, kL201, kL202, kA202, kS202, kL203, kA203, kS203, kL204, kA204, kS204, kL205, kL206, kA206, kS206, z0, (hO.2.2.1 0 hM0).1]
    refine ⟨iI (eE g (zR F) (o i)), xw τ J', xw τ J5, ?_, ?_, INV_i (IV.nop (H4.hills (fun a k h => u5 a k (by omega))))⟩
    · unfold f_X11_hill
      show ((xck σ 1 11).bind fun _ => (f_X11_isSmall (xw σ (xI σ)) 1).bind _) = _
      rw [xck_ok (sT1 hS), Option.bind_some, sm, Option.bind_some, if_neg (by decide), Option.bind_some]
      show ((f_X11_isLawful (xw σ (xI σ)) 1 (nI b)).bind _) = _
      rw [l1x, Option.bind_some, if_neg (by decide), Option.bind_some, e1, Option.bind_some]
      dsimp only
      rw [xnz_ok (by decide), Option.bind_some]
      unfold f_X11_hill_j22
      rw [xck_ok (sT174 hS3), Option.bind_some, low, Option.bind_some, Option.bind_some]
      show ((f_X9_meetingEnergy (xw τ (xI τ)) 174 (nI b) (nI (o 0)) 1).bind _) = _
      rw [e3, Option.bind_some]
    · unfold f_X12_hill
      simp (disch := first | assumption | omega) only [Option.bind_some, Option.map_some, xw_gR, xw_gN, xw_al, xw_ck, xw_uI, xw_ur, xup_at, xur_at, if_true, if_false, reduceIte, and_true, true_and, and_false, false_and, not_true_eq_false, not_false_eq_true, Nat.reduceEqDiff, eq_self, Nat.reduceAdd, Nat.reduceMul, kC1, kG1, kP1, kR1_0, kR1_1, kR1_2, kR1_3, kR1_4, kR1_5, kR1_6, kR1_7, kR1_8, kR1_9, kR1_10, kR1_11, kR1_12, kR1_13, kC2, kG2, kP2, kR2_0, kR2_1, kC3, kG3, kP3, kR3_0, kR3_1, kR3_2, kR3_3, kL4, kA4, kS4, kL5, kA5, kS5, kL6, kA6, kS6, kL7, kA7, kS7, kC8, kG8, kP8, kR8_0, kR8_1, kL9, kA9, kS9, kL10, kA10, kS10, kC11, kG11, kP11, kR11_0, kR11_1, kR11_2, kR11_3, kL12, kA12, kS12, kL13, kA13, kS13, kL14, kA14, kS14, kL15, kA15, kS15, kC16, kG16, kP16, kR16_0, kR16_1, kL17, kA17, kS17, kL18, kA18, kS18, kC19, kG19, kP19, kR19_0, kL20, kL141, kL146, kA146, kS146, kL151, kA151, kS151, kL156, kA156, kS156, kC157, kG157, kP157, kR157_0, kR157_1, kL158, kA158, kS158, kL159, kA159, kS159, kC161, kG161, kP161, kR161_0, kR161_1, kL162, kA162, kS162, kL163, kA163, kS163, kC165, kG165, kP165, kR165_0, kR165_1, kR165_2, kR165_3, kL166, kA166, kS166, kL167, kA167, kS167, kL168, kA168, kS168, kL169, kA169, kS169, kC170, kG170, kP170, kR170_0, kR170_1, kR170_2, kL171, kA171, kS171, kL172, kA172, kS172, kL173, kA173, kS173, kC174, kG174, kP174, kR174_0, kR174_1, kR174_2, kR174_3, kR174_4, kL175, kA175, kS175, kL176, kA176, kS176, kL177, kA177, kS177, kL178, kA178, kS178, kL179, kC180, kG180, kP180, kL181, kL182, kA182, kS182, kC183, kG183, kP183, kR183_1, kR183_3, kR183_5, kR183_6, kR183_7, kR183_8, kR183_9, kR183_21, kR183_26, kR183_27, kR183_30, kR183_31, kR183_33, kR183_34, kR183_36, kR183_37, kR183_38, kR183_39, kR183_40, kR183_41, kR183_42, kR183_43, kR183_44, kL184, kA184, kS184, kL185, kA185, kS185, kL186, kA186, kS186, kL187, kA187, kS187, kL188, kA188, kS188, kL189, kL190, kL191, kA191, kS191, kL192, kA192, kS192, kL193, kA193, kS193, kL194, kA194, kS194, kL195, kA195, kS195, kL196, kA196, kS196, kL197, kA197, kS197, kL198, kA198, kS198, kL199, kA199, kS199, kL200, kA200, kS200, kL201, kL202, kA202, kS202, kL203, kA203, kS203, kL204, kA204, kS204, kL205, kL206, kA206, kS206, l3b, one0, sites_ok hS3 hG3, sm2, h10, e4]
      exact e5
  · have A : f_X11_hill σ 1 x = some (-100000, σ) := by
      show f_X11_hill (xw σ (xI σ)) 1 x = _
      unfold f_X11_hill
      simp (disch := first | assumption | omega) only [Option.bind_some, Option.map_some, xw_gR, xw_gN, xw_al, xw_ck, xw_uI, xw_ur, xup_at, xur_at, if_true, if_false, reduceIte, and_true, true_and, and_false, false_and, not_true_eq_false, not_false_eq_true, Nat.reduceEqDiff, eq_self, Nat.reduceAdd, Nat.reduceMul, kC1, kG1, kP1, kR1_0, kR1_1, kR1_2, kR1_3, kR1_4, kR1_5, kR1_6, kR1_7, kR1_8, kR1_9, kR1_10, kR1_11, kR1_12, kR1_13, kC2, kG2, kP2, kR2_0, kR2_1, kC3, kG3, kP3, kR3_0, kR3_1, kR3_2, kR3_3, kL4, kA4, kS4, kL5, kA5, kS5, kL6, kA6, kS6, kL7, kA7, kS7, kC8, kG8, kP8, kR8_0, kR8_1, kL9, kA9, kS9, kL10, kA10, kS10, kC11, kG11, kP11, kR11_0, kR11_1, kR11_2, kR11_3, kL12, kA12, kS12, kL13, kA13, kS13, kL14, kA14, kS14, kL15, kA15, kS15, kC16, kG16, kP16, kR16_0, kR16_1, kL17, kA17, kS17, kL18, kA18, kS18, kC19, kG19, kP19, kR19_0, kL20, kL141, kL146, kA146, kS146, kL151, kA151, kS151, kL156, kA156, kS156, kC157, kG157, kP157, kR157_0, kR157_1, kL158, kA158, kS158, kL159, kA159, kS159, kC161, kG161, kP161, kR161_0, kR161_1, kL162, kA162, kS162, kL163, kA163, kS163, kC165, kG165, kP165, kR165_0, kR165_1, kR165_2, kR165_3, kL166, kA166, kS166, kL167, kA167, kS167, kL168, kA168, kS168, kL169, kA169, kS169, kC170, kG170, kP170, kR170_0, kR170_1, kR170_2, kL171, kA171, kS171, kL172, kA172, kS172, kL173, kA173, kS173, kC174, kG174, kP174, kR174_0, kR174_1, kR174_2, kR174_3, kR174_4, kL175, kA175, kS175, kL176, kA176, kS176, kL177, kA177, kS177, kL178, kA178, kS178, kL179, kC180, kG180, kP180, kL181, kL182, kA182, kS182, kC183, kG183, kP183, kR183_1, kR183_3, kR183_5, kR183_6, kR183_7, kR183_8, kR183_9, kR183_21, kR183_26, kR183_27, kR183_30, kR183_31, kR183_33, kR183_34, kR183_36, kR183_37, kR183_38, kR183_39, kR183_40, kR183_41, kR183_42, kR183_43, kR183_44, kL184, kA184, kS184, kL185, kA185, kS185, kL186, kA186, kS186, kL187, kA187, kS187, kL188, kA188, kS188, kL189, kL190, kL191, kA191, kS191, kL192, kA192, kS192, kL193, kA193, kS193, kL194, kA194, kS194, kL195, kA195, kS195, kL196, kA196, kS196, kL197, kA197, kS197, kL198, kA198, kS198, kL199, kA199, kS199, kL200, kA200, kS200, kL201, kL202, kA202, kS202, kL203, kA203, kS203, kL204, kA204, kS204, kL205, kL206, kA206, kS206, sm, l1]
      by_cases q1 : gSz g ≤ 10
      · by_cases q2 : isB g (xI σ 191) x = true
        · exact absurd ⟨q1, q2⟩ h10
        · simp only [q1, q2, if_true, if_false, one0, Bool.false_eq_true]; rfl
      · simp only [q1, if_false, if_true]; rfl
    have B : f_X12_hill σ 183 x = some (-100000, σ) := by
      show f_X12_hill (xw σ (xI σ)) 183 x = _
      unfold f_X12_hill
      simp (disch := first | assumption | omega) only [Option.bind_some, Option.map_some, xw_gR, xw_gN, xw_al, xw_ck, xw_uI, xw_ur, xup_at, xur_at, if_true, if_false, reduceIte, and_true, true_and, and_false, false_and, not_true_eq_false, not_false_eq_true, Nat.reduceEqDiff, eq_self, Nat.reduceAdd, Nat.reduceMul, kC1, kG1, kP1, kR1_0, kR1_1, kR1_2, kR1_3, kR1_4, kR1_5, kR1_6, kR1_7, kR1_8, kR1_9, kR1_10, kR1_11, kR1_12, kR1_13, kC2, kG2, kP2, kR2_0, kR2_1, kC3, kG3, kP3, kR3_0, kR3_1, kR3_2, kR3_3, kL4, kA4, kS4, kL5, kA5, kS5, kL6, kA6, kS6, kL7, kA7, kS7, kC8, kG8, kP8, kR8_0, kR8_1, kL9, kA9, kS9, kL10, kA10, kS10, kC11, kG11, kP11, kR11_0, kR11_1, kR11_2, kR11_3, kL12, kA12, kS12, kL13, kA13, kS13, kL14, kA14, kS14, kL15, kA15, kS15, kC16, kG16, kP16, kR16_0, kR16_1, kL17, kA17, kS17, kL18, kA18, kS18, kC19, kG19, kP19, kR19_0, kL20, kL141, kL146, kA146, kS146, kL151, kA151, kS151, kL156, kA156, kS156, kC157, kG157, kP157, kR157_0, kR157_1, kL158, kA158, kS158, kL159, kA159, kS159, kC161, kG161, kP161, kR161_0, kR161_1, kL162, kA162, kS162, kL163, kA163, kS163, kC165, kG165, kP165, kR165_0, kR165_1, kR165_2, kR165_3, kL166, kA166, kS166, kL167, kA167, kS167, kL168, kA168, kS168, kL169, kA169, kS169, kC170, kG170, kP170, kR170_0, kR170_1, kR170_2, kL171, kA171, kS171, kL172, kA172, kS172, kL173, kA173, kS173, kC174, kG174, kP174, kR174_0, kR174_1, kR174_2, kR174_3, kR174_4, kL175, kA175, kS175, kL176, kA176, kS176, kL177, kA177, kS177, kL178, kA178, kS178, kL179, kC180, kG180, kP180, kL181, kL182, kA182, kS182, kC183, kG183, kP183, kR183_1, kR183_3, kR183_5, kR183_6, kR183_7, kR183_8, kR183_9, kR183_21, kR183_26, kR183_27, kR183_30, kR183_31, kR183_33, kR183_34, kR183_36, kR183_37, kR183_38, kR183_39, kR183_40, kR183_41, kR183_42, kR183_43, kR183_44, kL184, kA184, kS184, kL185, kA185, kS185, kL186, kA186, kS186, kL187, kA187, kS187, kL188, kA188, kS188, kL189, kL190, kL191, kA191, kS191, kL192, kA192, kS192, kL193, kA193, kS193, kL194, kA194, kS194, kL195, kA195, kS195, kL196, kA196, kS196, kL197, kA197, kS197, kL198, kA198, kS198, kL199, kA199, kS199, kL200, kA200, kS200, kL201, kL202, kA202, kS202, kL203, kA203, kS203, kL204, kA204, kS204, kL205, kL206, kA206, kS206, l2, s2, sm2]
      by_cases q2 : isB g (xI σ 191) x = true
      · by_cases q1 : gSz g ≤ 10
        · exact absurd ⟨q1, q2⟩ h10
        · simp only [q1, q2, if_true, if_false, one0, Bool.false_eq_true]; rfl
      · simp only [q2, if_true, if_false, one0, Bool.false_eq_true]; rfl
    exact ⟨-100000, σ, σ, A, B, INV_i H.nop⟩
end
section
/-! lakes: the model goes from state to state -/
def alw (g : GD) (F : Nat → Int32) (e : Int) (s : Nat) : Prop := lwS g F s ∧ eE g (zR F) s ≤ e
theorem Se_y {g : GD} {F : Nat → Int32} {e : Int} (a b : Nat) (h : Se g F e a b) : Se g F e b a := ⟨h.2.1, h.1, aj_y h.2.2⟩
/-- what waits in the row -/
def BF (g : GD) (F : Nat → Int32) (e : Int) (w0 w : Nat → Bool) (q : Nat → Nat) (many first : Nat) : Prop := (0 < many ∧ q 0 = first) ∧ (∀ j, j < many → alw g F e (q j) ∧ cn (Se g F e) first (q j) ∧ w0 (q j) = false) ∧ (∀ i j, i < j → j < many → q i ≠ q j) ∧ ∀ s, w s = true ↔ w0 s = true ∨ ∃ j, j < many ∧ q j = s
def LB (J0 J : Nat → Nat → Int32) (g : GD) (w : Nat → Bool) (q : Nat → Nat) (many : Nat) : Prop := (∀ s, s < gSt g → J 203 s = if w s then 1 else 0) ∧ (∀ j, j < many → J 204 j = nI (q j)) ∧ ∀ a k, ¬ (203 ≤ a ∧ a ≤ 204) → J a k = J0 a k
section LAKES
variable {σ : XS} {J0 J : Nat → Nat → Int32} {g : GD} {F : Nat → Int32} {w0 w : Nat → Bool} {q : Nat → Nat} {many first : Nat}
theorem BF_le {e : Int} (h : BF g F e w0 w q many first) : many ≤ gSt g := fb_holes _ _ q (fun i hi => (h.2.1 i hi).1.1.1) h.2.2.1
theorem BF_add {e : Int} (h : BF g F e w0 w q many first) {t k : Nat} (hk : k < many) (ht : alw g F e t) (hj : aj g F (q k) t) (hw : w t = false) : BF g F e w0 (wA w t) (fun j => if j = many then t else q j) (many + 1) first := by
  obtain ⟨⟨h1, h2⟩, h3, h4, h5⟩ := h
  have n0 : w0 t = false := by
    cases z : w0 t with
    | false => rfl
    | true =>
      have := (h5 t).mpr (.inl z)
      rw [hw] at this; cases this
  have nq : ∀ j, j < many → q j ≠ t := fun j hj z => by
    have := (h5 t).mpr (.inr ⟨j, hj, z⟩)
    rw [hw] at this; cases this
  refine ⟨⟨by omega, ?_⟩, fun j hj1 => ?_, fun i j hij hj1 => ?_, fun s => ?_⟩
  · show (if 0 = many then t else q 0) = first
    rw [if_neg (by omega)]; exact h2
  · show alw g F e (if j = many then t else q j) ∧ cn (Se g F e) first (if j = many then t else q j) ∧ w0 (if j = many then t else q j) = false
    by_cases z : j = many
    · rw [if_pos z]
      exact ⟨ht, cn_s (h3 k hk).2.1 ⟨(h3 k hk).1, ht, hj⟩, n0⟩
    · rw [if_neg z]; exact h3 j (by omega)
  · show (if i = many then t else q i) ≠ (if j = many then t else q j)
    rw [if_neg (show ¬ i = many by omega)]
    by_cases z : j = many
    · rw [if_pos z]; exact nq i (by omega)
    · rw [if_neg z]; exact h4 i j hij (by omega)
  · rw [wA_iff, h5 s]
    constructor
    · rintro ((z | ⟨j, j1, j2⟩) | z)
      · exact .inl z
      · refine .inr ⟨j, by omega, ?_⟩
        show (if j = many then t else q j) = s
        rw [if_neg (by omega)]; exact j2
      · refine .inr ⟨many, by omega, ?_⟩
        show (if many = many then t else q many) = s
        rw [if_pos rfl]; exact z
    · rintro (z | ⟨j, j1, j2⟩)
      · exact .inl (.inl z)
      · have j2' : (if j = many then t else q j) = s := j2
        by_cases z : j = many
        · rw [if_pos z] at j2'; exact .inr j2'
        · rw [if_neg z] at j2'; exact .inl (.inr ⟨j, by omega, j2'⟩)
theorem bfs_row (hS : Shp σ) (hG : GRD J0 g) (ho : RO g F) (hK : KNK J0 g F) (h10 : gSt g ≤ 1024) (x n f : Int32) (hB : BF g F x.toInt w0 w q many first) (hL : LB J0 J g w q many) {k : Nat} (hk : k < many) :
    ∃ r, xloop (f_X12_lakes_b119 183 x n f (nI k)) (nI many, (0 : Int32), xw σ J) = some r ∧ ∃ (J' : Nat → Nat → Int32) (w' : Nat → Bool) (q' : Nat → Nat) (many' : Nat), r = .inl (nI many', nI (k + 1), xw σ J') ∧ BF g F x.toInt w0 w' q' many' first ∧ LB J0 J' g w' q' many' ∧ many ≤ many' ∧ (∀ j, j < many → q' j = q j) ∧ (∀ s, w s = true → w' s = true) ∧ ∀ i, i < gSz g → alw g F x.toInt (q k ^^^ 2 ^ i) → w' (q k ^^^ 2 ^ i) = true := by
  have hg := hG.1
  have h16 := (gAll_b g hg).2.2.1
  refine xforI (fun i a => ∃ (J' : Nat → Nat → Int32) (w' : Nat → Bool) (q' : Nat → Nat) (many' : Nat), a = (nI many', nI i, xw σ J') ∧ BF g F x.toInt w0 w' q' many' first ∧ LB J0 J' g w' q' many' ∧ many ≤ many' ∧ (∀ j, j < many → q' j = q j) ∧ (∀ s, w s = true → w' s = true) ∧ ∀ i', i' < i → alw g F x.toInt (q k ^^^ 2 ^ i') → w' (q k ^^^ 2 ^ i') = true) (gSz g) ⟨J, w, q, many, rfl, hB, hL, Nat.le_refl _, fun _ _ => rfl, fun _ h => h, fun i hi => absurd hi (Nat.not_lt_zero _)⟩ ?_ ?_
  · rintro i a hi ⟨J', w', q', many', rfl, hB', hL', hle, hq, hm, hd⟩
    obtain ⟨v3, v4, u⟩ := id hL'
    have hG' : GRD J' g := GRD_c (fun a k z => u a k (by unfold sGRD at z; omega)) hG
    have hlk : lwS g F (q k) := (hB.2.1 k hk).1.1
    have hto := gSt_flip hlk.1 hi
    have t24 : q k ^^^ 2 ^ i < 1024 := by omega
    have k24 : k < 1024 := by have := BF_le hB; omega
    have m24 := BF_le hB'
    have vk : J' 204 k = nI (q k) := by rw [v4 k (by omega), hq k hk]
    have vw := v3 _ hto
    have ve : J' 196 (q k ^^^ 2 ^ i) = if lW g F (q k ^^^ 2 ^ i) then iI (eE g (zR F) (q k ^^^ 2 ^ i)) else nI 100000 := by rw [u _ _ (by omega)]; exact hK.1 _ hto
    have hbt := eE_b hg ho (q k ^^^ 2 ^ i)
    have skip : (alw g F x.toInt (q k ^^^ 2 ^ i) → w' (q k ^^^ 2 ^ i) = true) → f_X12_lakes_b119 183 x n f (nI k) (nI many', nI i, xw σ J') = some (.inl (nI many', nI (i + 1), xw σ J')) → ∃ a', f_X12_lakes_b119 183 x n f (nI k) (nI many', nI i, xw σ J') = some (.inl a') ∧ ∃ (J' : Nat → Nat → Int32) (w' : Nat → Bool) (q' : Nat → Nat) (many' : Nat), a' = (nI many', nI (i + 1), xw σ J') ∧ BF g F x.toInt w0 w' q' many' first ∧ LB J0 J' g w' q' many' ∧ many ≤ many' ∧ (∀ j, j < many → q' j = q j) ∧ (∀ s, w s = true → w' s = true) ∧ ∀ i', i' < i + 1 → alw g F x.toInt (q k ^^^ 2 ^ i') → w' (q k ^^^ 2 ^ i') = true := by
      intro h1 h2
      refine ⟨_, h2, J', w', q', many', rfl, hB', hL', hle, hq, hm, fun i' hi' ha => ?_⟩
      by_cases z : i' = i
      · rw [z] at ha ⊢; exact h1 ha
      · exact hd i' (by omega) ha
    cases hw : w' (q k ^^^ 2 ^ i) with
    | true =>
      rw [hw, if_pos rfl] at vw
      refine skip (fun _ => hw) ?_
      simp only [f_X12_lakes_b119]
      simp (disch := first | assumption | omega) only [Option.bind_some, Option.map_some, xw_gR, xw_gN, xw_al, xw_ck, xw_uI, xw_ur, xup_at, xur_at, if_true, if_false, reduceIte, and_true, true_and, and_false, false_and, not_true_eq_false, not_false_eq_true, Nat.reduceEqDiff, eq_self, Nat.reduceAdd, Nat.reduceMul, kC1, kG1, kP1, kR1_0, kR1_1, kR1_2, kR1_3, kR1_4, kR1_5, kR1_6, kR1_7, kR1_8, kR1_9, kR1_10, kR1_11, kR1_12, kR1_13, kC2, kG2, kP2, kR2_0, kR2_1, kC3, kG3, kP3, kR3_0, kR3_1, kR3_2, kR3_3, kL4, kA4, kS4, kL5, kA5, kS5, kL6, kA6, kS6, kL7, kA7, kS7, kC8, kG8, kP8, kR8_0, kR8_1, kL9, kA9, kS9, kL10, kA10, kS10, kC11, kG11, kP11, kR11_0, kR11_1, kR11_2, kR11_3, kL12, kA12, kS12, kL13, kA13, kS13, kL14, kA14, kS14, kL15, kA15, kS15, kC16, kG16, kP16, kR16_0, kR16_1, kL17, kA17, kS17, kL18, kA18, kS18, kC19, kG19, kP19, kR19_0, kL20, kL141, kL146, kA146, kS146, kL151, kA151, kS151, kL156, kA156, kS156, kC157, kG157, kP157, kR157_0, kR157_1, kL158, kA158, kS158, kL159, kA159, kS159, kC161, kG161, kP161, kR161_0, kR161_1, kL162, kA162, kS162, kL163, kA163, kS163, kC165, kG165, kP165, kR165_0, kR165_1, kR165_2, kR165_3, kL166, kA166, kS166, kL167, kA167, kS167, kL168, kA168, kS168, kL169, kA169, kS169, kC170, kG170, kP170, kR170_0, kR170_1, kR170_2, kL171, kA171, kS171, kL172, kA172, kS172, kL173, kA173, kS173, kC174, kG174, kP174, kR174_0, kR174_1, kR174_2, kR174_3, kR174_4, kL175, kA175, kS175, kL176, kA176, kS176, kL177, kA177, kS177, kL178, kA178, kS178, kL179, kC180, kG180, kP180, kL181, kL182, kA182, kS182, kC183, kG183, kP183, kR183_1, kR183_3, kR183_5, kR183_6, kR183_7, kR183_8, kR183_9, kR183_21, kR183_26, kR183_27, kR183_30, kR183_31, kR183_33, kR183_34, kR183_36, kR183_37, kR183_38, kR183_39, kR183_40, kR183_41, kR183_42, kR183_43, kR183_44, kL184, kA184, kS184, kL185, kA185, kS185, kL186, kA186, kS186, kL187, kA187, kS187, kL188, kA188, kS188, kL189, kL190, kL191, kA191, kS191, kL192, kA192, kS192, kL193, kA193, kS193, kL194, kA194, kS194, kL195, kA195, kS195, kL196, kA196, kS196, kL197, kA197, kS197, kL198, kA198, kS198, kL199, kA199, kS199, kL200, kA200, kS200, kL201, kL202, kA202, kS202, kL203, kA203, kS203, kL204, kA204, kS204, kL205, kL206, kA206, kS206, sites_ok hS hG', nn_le, show ¬ (gSz g ≤ i) by omega, vk, nn_one, nn_xor, vw, one0]
      rw [nI_succ]
    | false =>
      rw [hw, if_neg (by decide)] at vw
      cases hl : lW g F (q k ^^^ 2 ^ i) with
      | false =>
        rw [hl, if_neg (by decide)] at ve
        refine skip (fun z => by rw [z.1.2] at hl; cases hl) ?_
        simp only [f_X12_lakes_b119]
        simp (disch := first | assumption | omega) only [Option.bind_some, Option.map_some, xw_gR, xw_gN, xw_al, xw_ck, xw_uI, xw_ur, xup_at, xur_at, if_true, if_false, reduceIte, and_true, true_and, and_false, false_and, not_true_eq_false, not_false_eq_true, Nat.reduceEqDiff, eq_self, Nat.reduceAdd, Nat.reduceMul, kC1, kG1, kP1, kR1_0, kR1_1, kR1_2, kR1_3, kR1_4, kR1_5, kR1_6, kR1_7, kR1_8, kR1_9, kR1_10, kR1_11, kR1_12, kR1_13, kC2, kG2, kP2, kR2_0, kR2_1, kC3, kG3, kP3, kR3_0, kR3_1, kR3_2, kR3_3, kL4, kA4, kS4, kL5, kA5, kS5, kL6, kA6, kS6, kL7, kA7, kS7, kC8, kG8, kP8, kR8_0, kR8_1, kL9, kA9, kS9, kL10, kA10, kS10, kC11, kG11, kP11, kR11_0, kR11_1, kR11_2, kR11_3, kL12, kA12, kS12, kL13, kA13, kS13, kL14, kA14, kS14, kL15, kA15, kS15, kC16, kG16, kP16, kR16_0, kR16_1, kL17, kA17, kS17, kL18, kA18, kS18, kC19, kG19, kP19, kR19_0, kL20, kL141, kL146, kA146, kS146, kL151, kA151, kS151, kL156, kA156, kS156, kC157, kG157, kP157, kR157_0, kR157_1, kL158, kA158, kS158, kL159, kA159, kS159, kC161, kG161, kP161, kR161_0, kR161_1, kL162, kA162, kS162, kL163, kA163, kS163, kC165, kG165, kP165, kR165_0, kR165_1, kR165_2, kR165_3, kL166, kA166, kS166, kL167, kA167, kS167, kL168, kA168, kS168, kL169, kA169, kS169, kC170, kG170, kP170, kR170_0, kR170_1, kR170_2, kL171, kA171, kS171, kL172, kA172, kS172, kL173, kA173, kS173, kC174, kG174, kP174, kR174_0, kR174_1, kR174_2, kR174_3, kR174_4, kL175, kA175, kS175, kL176, kA176, kS176, kL177, kA177, kS177, kL178, kA178, kS178, kL179, kC180, kG180, kP180, kL181, kL182, kA182, kS182, kC183, kG183, kP183, kR183_1, kR183_3, kR183_5, kR183_6, kR183_7, kR183_8, kR183_9, kR183_21, kR183_26, kR183_27, kR183_30, kR183_31, kR183_33, kR183_34, kR183_36, kR183_37, kR183_38, kR183_39, kR183_40, kR183_41, kR183_42, kR183_43, kR183_44, kL184, kA184, kS184, kL185, kA185, kS185, kL186, kA186, kS186, kL187, kA187, kS187, kL188, kA188, kS188, kL189, kL190, kL191, kA191, kS191, kL192, kA192, kS192, kL193, kA193, kS193, kL194, kA194, kS194, kL195, kA195, kS195, kL196, kA196, kS196, kL197, kA197, kS197, kL198, kA198, kS198, kL199, kA199, kS199, kL200, kA200, kS200, kL201, kL202, kA202, kS202, kL203, kA203, kS203, kL204, kA204, kS204, kL205, kL206, kA206, kS206, sites_ok hS hG', nn_le, show ¬ (gSz g ≤ i) by omega, vk, nn_one, nn_xor, vw, ve, show (nI 100000 = (100000 : Int32)) = True from eq_true rfl]
        rw [nI_succ]
      | true =>
        rw [hl, if_pos rfl] at ve
        have q1 : (iI (eE g (zR F) (q k ^^^ 2 ^ i)) = (100000 : Int32)) = False := by
          rw [show (100000 : Int32) = iI 100000 from rfl, iI_eq (by omega) (by omega) (by omega) (by omega)]; exact eq_false (by omega)
        have q2 : (iI (eE g (zR F) (q k ^^^ 2 ^ i)) ≤ x) = (eE g (zR F) (q k ^^^ 2 ^ i) ≤ x.toInt) := by rw [fa_le, iI_ti (by omega) (by omega)]
        by_cases he : eE g (zR F) (q k ^^^ 2 ^ i) ≤ x.toInt
        · have hp : F (48 + i) = 0 := by
            rw [lW_flip hi hlk.2] at hl
            exact of_decide_eq_true hl
          have hB2 := BF_add hB' (show k < many' by omega) (t := q k ^^^ 2 ^ i) ⟨⟨hto, hl⟩, he⟩ (by rw [hq k hk]; exact ⟨i, hi, hp, rfl⟩) hw
          have m2 := BF_le hB2
          have m3 : many' < 1024 := by omega
          refine ⟨(nI (many' + 1), nI (i + 1), xw σ (xup (xup J' 203 (q k ^^^ 2 ^ i) 1) 204 many' (nI (q k ^^^ 2 ^ i)))), ?_, _, _, _, _, rfl, hB2, ⟨fun s hs => ?_, fun j hj => ?_, fun a b hab => ?_⟩, by omega, fun j hj => ?_, fun s hs => wA_o (hm s hs), fun i' hi' ha => ?_⟩
          · simp only [f_X12_lakes_b119]
            simp (disch := first | assumption | omega) only [Option.bind_some, Option.map_some, xw_gR, xw_gN, xw_al, xw_ck, xw_uI, xw_ur, xup_at, xur_at, if_true, if_false, reduceIte, and_true, true_and, and_false, false_and, not_true_eq_false, not_false_eq_true, Nat.reduceEqDiff, eq_self, Nat.reduceAdd, Nat.reduceMul, kC1, kG1, kP1, kR1_0, kR1_1, kR1_2, kR1_3, kR1_4, kR1_5, kR1_6, kR1_7, kR1_8, kR1_9, kR1_10, kR1_11, kR1_12, kR1_13, kC2, kG2, kP2, kR2_0, kR2_1, kC3, kG3, kP3, kR3_0, kR3_1, kR3_2, kR3_3, kL4, kA4, kS4, kL5, kA5, kS5, kL6, kA6, kS6, kL7, kA7, kS7, kC8, kG8, kP8, kR8_0, kR8_1, kL9, kA9, kS9, kL10, kA10, kS10, kC11, kG11, kP11, kR11_0, kR11_1, kR11_2, kR11_3, kL12, kA12, kS12, kL13, kA13, kS13, kL14, kA14, kS14, kL15, kA15, kS15, kC16, kG16, kP16, kR16_0, kR16_1, kL17, kA17, kS17, kL18, kA18, kS18, kC19, kG19, kP19, kR19_0, kL20, kL141, kL146, kA146, kS146, kL151, kA151, kS151, kL156, kA156, kS156, kC157, kG157, kP157, kR157_0, kR157_1, kL158, kA158, kS158, kL159, kA159, kS159, kC161, kG161, kP161, kR161_0, kR161_1, kL162, kA162, kS162, kL163, kA163, kS163, kC165, kG165, kP165, kR165_0, kR165_1, kR165_2, kR165_3, kL166, kA166, kS166, kL167, kA167, kS167, kL168, kA168, kS168, kL169, kA169, kS169, kC170, kG170, kP170, kR170_0, kR170_1, kR170_2, kL171, kA171, kS171, kL172, kA172, kS172, kL173, kA173, kS173, kC174, kG174, kP174, kR174_0, kR174_1, kR174_2, kR174_3, kR174_4, kL175, kA175, kS175, kL176, kA176, kS176, kL177, kA177, kS177, kL178, kA178, kS178, kL179, kC180, kG180, kP180, kL181, kL182, kA182, kS182, kC183, kG183, kP183, kR183_1, kR183_3, kR183_5, kR183_6, kR183_7, kR183_8, kR183_9, kR183_21, kR183_26, kR183_27, kR183_30, kR183_31, kR183_33, kR183_34, kR183_36, kR183_37, kR183_38, kR183_39, kR183_40, kR183_41, kR183_42, kR183_43, kR183_44, kL184, kA184, kS184, kL185, kA185, kS185, kL186, kA186, kS186, kL187, kA187, kS187, kL188, kA188, kS188, kL189, kL190, kL191, kA191, kS191, kL192, kA192, kS192, kL193, kA193, kS193, kL194, kA194, kS194, kL195, kA195, kS195, kL196, kA196, kS196, kL197, kA197, kS197, kL198, kA198, kS198, kL199, kA199, kS199, kL200, kA200, kS200, kL201, kL202, kA202, kS202, kL203, kA203, kS203, kL204, kA204, kS204, kL205, kL206, kA206, kS206, sites_ok hS hG', nn_le, show ¬ (gSz g ≤ i) by omega, vk, nn_one, nn_xor, vw, ve, q1, q2, he]
            rw [nI_succ, nI_succ]
          · rw [xup_at, if_neg (by omega), xup_at]
            by_cases z : s = q k ^^^ 2 ^ i
            · rw [if_pos ⟨rfl, z⟩, z, wA_b, if_pos rfl]
            · rw [if_neg (by omega), v3 s hs]
              have : wA w' (q k ^^^ 2 ^ i) s = w' s := by
                unfold wA
                rw [decide_eq_false (fun y => z y.symm), Bool.or_false]
              rw [this]
          · rw [xup_at]
            show _ = nI (if j = many' then q k ^^^ 2 ^ i else q' j)
            by_cases z : j = many'
            · rw [if_pos ⟨rfl, z⟩, if_pos z]
            · rw [if_neg (by omega), xup_at, if_neg (by omega), if_neg z]; exact v4 j (by omega)
          · rw [xup_at, if_neg (by omega), xup_at, if_neg (by omega)]; exact u a b hab
          · show (if j = many' then _ else q' j) = q j
            rw [if_neg (by omega)]; exact hq j hj
          · by_cases z : i' = i
            · rw [z]; exact wA_b _ _
            · exact wA_o (hd i' (by omega) ha)
        · refine skip (fun z => absurd z.2 he) ?_
          simp only [f_X12_lakes_b119]
          simp (disch := first | assumption | omega) only [Option.bind_some, Option.map_some, xw_gR, xw_gN, xw_al, xw_ck, xw_uI, xw_ur, xup_at, xur_at, if_true, if_false, reduceIte, and_true, true_and, and_false, false_and, not_true_eq_false, not_false_eq_true, Nat.reduceEqDiff, eq_self, Nat.reduceAdd, Nat.reduceMul, kC1, kG1, kP1, kR1_0, kR1_1, kR1_2, kR1_3, kR1_4, kR1_5, kR1_6, kR1_7, kR1_8, kR1_9, kR1_10, kR1_11, kR1_12, kR1_13, kC2, kG2, kP2, kR2_0, kR2_1, kC3, kG3, kP3, kR3_0, kR3_1, kR3_2, kR3_3, kL4, kA4, kS4, kL5, kA5, kS5, kL6, kA6, kS6, kL7, kA7, kS7, kC8, kG8, kP8, kR8_0, kR8_1, kL9, kA9, kS9, kL10, kA10, kS10, kC11, kG11, kP11, kR11_0, kR11_1, kR11_2, kR11_3, kL12, kA12, kS12, kL13, kA13, kS13, kL14, kA14, kS14, kL15, kA15, kS15, kC16, kG16, kP16, kR16_0, kR16_1, kL17, kA17, kS17, kL18, kA18, kS18, kC19, kG19, kP19, kR19_0, kL20, kL141, kL146, kA146, kS146, kL151, kA151, kS151, kL156, kA156, kS156, kC157, kG157, kP157, kR157_0, kR157_1, kL158, kA158, kS158, kL159, kA159, kS159, kC161, kG161, kP161, kR161_0, kR161_1, kL162, kA162, kS162, kL163, kA163, kS163, kC165, kG165, kP165, kR165_0, kR165_1, kR165_2, kR165_3, kL166, kA166, kS166, kL167, kA167, kS167, kL168, kA168, kS168, kL169, kA169, kS169, kC170, kG170, kP170, kR170_0, kR170_1, kR170_2, kL171, kA171, kS171, kL172, kA172, kS172, kL173, kA173, kS173, kC174, kG174, kP174, kR174_0, kR174_1, kR174_2, kR174_3, kR174_4, kL175, kA175, kS175, kL176, kA176, kS176, kL177, kA177, kS177, kL178, kA178, kS178, kL179, kC180, kG180, kP180, kL181, kL182, kA182, kS182, kC183, kG183, kP183, kR183_1, kR183_3, kR183_5, kR183_6, kR183_7, kR183_8, kR183_9, kR183_21, kR183_26, kR183_27, kR183_30, kR183_31, kR183_33, kR183_34, kR183_36, kR183_37, kR183_38, kR183_39, kR183_40, kR183_41, kR183_42, kR183_43, kR183_44, kL184, kA184, kS184, kL185, kA185, kS185, kL186, kA186, kS186, kL187, kA187, kS187, kL188, kA188, kS188, kL189, kL190, kL191, kA191, kS191, kL192, kA192, kS192, kL193, kA193, kS193, kL194, kA194, kS194, kL195, kA195, kS195, kL196, kA196, kS196, kL197, kA197, kS197, kL198, kA198, kS198, kL199, kA199, kS199, kL200, kA200, kS200, kL201, kL202, kA202, kS202, kL203, kA203, kS203, kL204, kA204, kS204, kL205, kL206, kA206, kS206, sites_ok hS hG', nn_le, show ¬ (gSz g ≤ i) by omega, vk, nn_one, nn_xor, vw, ve, q1, q2, he]
          rw [nI_succ]
  · rintro a ⟨J', w', q', many', rfl, hB', hL', hle, hq, hm, hd⟩
    have hG' : GRD J' g := GRD_c (fun a k z => hL'.2.2 a k (by unfold sGRD at z; omega)) hG
    refine ⟨.inl (nI many', nI (k + 1), xw σ J'), ?_, J', w', q', many', rfl, hB', hL', hle, hq, hm, hd⟩
    simp only [f_X12_lakes_b119]
    simp (disch := first | assumption | omega) only [Option.bind_some, Option.map_some, xw_gR, xw_gN, xw_al, xw_ck, xw_uI, xw_ur, xup_at, xur_at, if_true, if_false, reduceIte, and_true, true_and, and_false, false_and, not_true_eq_false, not_false_eq_true, Nat.reduceEqDiff, eq_self, Nat.reduceAdd, Nat.reduceMul, kC1, kG1, kP1, kR1_0, kR1_1, kR1_2, kR1_3, kR1_4, kR1_5, kR1_6, kR1_7, kR1_8, kR1_9, kR1_10, kR1_11, kR1_12, kR1_13, kC2, kG2, kP2, kR2_0, kR2_1, kC3, kG3, kP3, kR3_0, kR3_1, kR3_2, kR3_3, kL4, kA4, kS4, kL5, kA5, kS5, kL6, kA6, kS6, kL7, kA7, kS7, kC8, kG8, kP8, kR8_0, kR8_1, kL9, kA9, kS9, kL10, kA10, kS10, kC11, kG11, kP11, kR11_0, kR11_1, kR11_2, kR11_3, kL12, kA12, kS12, kL13, kA13, kS13, kL14, kA14, kS14, kL15, kA15, kS15, kC16, kG16, kP16, kR16_0, kR16_1, kL17, kA17, kS17, kL18, kA18, kS18, kC19, kG19, kP19, kR19_0, kL20, kL141, kL146, kA146, kS146, kL151, kA151, kS151, kL156, kA156, kS156, kC157, kG157, kP157, kR157_0, kR157_1, kL158, kA158, kS158, kL159, kA159, kS159, kC161, kG161, kP161, kR161_0, kR161_1, kL162, kA162, kS162, kL163, kA163, kS163, kC165, kG165, kP165, kR165_0, kR165_1, kR165_2, kR165_3, kL166, kA166, kS166, kL167, kA167, kS167, kL168, kA168, kS168, kL169, kA169, kS169, kC170, kG170, kP170, kR170_0, kR170_1, kR170_2, kL171, kA171, kS171, kL172, kA172, kS172, kL173, kA173, kS173, kC174, kG174, kP174, kR174_0, kR174_1, kR174_2, kR174_3, kR174_4, kL175, kA175, kS175, kL176, kA176, kS176, kL177, kA177, kS177, kL178, kA178, kS178, kL179, kC180, kG180, kP180, kL181, kL182, kA182, kS182, kC183, kG183, kP183, kR183_1, kR183_3, kR183_5, kR183_6, kR183_7, kR183_8, kR183_9, kR183_21, kR183_26, kR183_27, kR183_30, kR183_31, kR183_33, kR183_34, kR183_36, kR183_37, kR183_38, kR183_39, kR183_40, kR183_41, kR183_42, kR183_43, kR183_44, kL184, kA184, kS184, kL185, kA185, kS185, kL186, kA186, kS186, kL187, kA187, kS187, kL188, kA188, kS188, kL189, kL190, kL191, kA191, kS191, kL192, kA192, kS192, kL193, kA193, kS193, kL194, kA194, kS194, kL195, kA195, kS195, kL196, kA196, kS196, kL197, kA197, kS197, kL198, kA198, kS198, kL199, kA199, kS199, kL200, kA200, kS200, kL201, kL202, kA202, kS202, kL203, kA203, kS203, kL204, kA204, kS204, kL205, kL206, kA206, kS206, sites_ok hS hG', nn_le, Nat.le_refl]
    rw [nI_succ]
theorem bfs_ok (hS : Shp σ) (hG : GRD J0 g) (ho : RO g F) (hK : KNK J0 g F) (h10 : gSt g ≤ 1024) (x n : Int32) {f : Nat} (hB : BF g F x.toInt w0 w q many first) (hL : LB J0 J g w q many) (h1 : many = 1)
    (hcl : ∀ a b, alw g F x.toInt a → alw g F x.toInt b → aj g F a b → w0 a = true → w0 b = true) :
    ∃ (J' : Nat → Nat → Int32) (w' : Nat → Bool) (q' : Nat → Nat), xloop (f_X12_lakes_b109 183 x n (nI f)) ((1 : Int32), (0 : Int32), xw σ J) = some (.inl (n, nI (f + 1), xw σ J')) ∧ (∃ m', LB J0 J' g w' q' m') ∧ ∀ s, w' s = true ↔ w0 s = true ∨ (alw g F x.toInt s ∧ cn (Se g F x.toInt) first s) := by
  have key := xloop_run (f := f_X12_lakes_b109 183 x n (nI f)) (fun m a => ∃ (k : Nat) (J' : Nat → Nat → Int32) (w' : Nat → Bool) (q' : Nat → Nat) (many' : Nat), a = (nI many', nI k, xw σ J') ∧ m = gSt g - k ∧ k ≤ many' ∧ BF g F x.toInt w0 w' q' many' first ∧ LB J0 J' g w' q' many' ∧ ∀ j, j < k → ∀ i, i < gSz g → alw g F x.toInt (q' j ^^^ 2 ^ i) → w' (q' j ^^^ 2 ^ i) = true) (fun b => ∃ (J' : Nat → Nat → Int32) (w' : Nat → Bool) (q' : Nat → Nat), b = .inl (n, nI (f + 1), xw σ J') ∧ (∃ m', LB J0 J' g w' q' m') ∧ ∀ s, w' s = true ↔ w0 s = true ∨ (alw g F x.toInt s ∧ cn (Se g F x.toInt) first s)) ?_ (gSt g - 0) ((1 : Int32), (0 : Int32), xw σ J) ⟨0, J, w, q, 1, rfl, rfl, Nat.zero_le _, by rw [← h1]; exact hB, by rw [← h1]; exact hL, fun j hj => absurd hj (Nat.not_lt_zero _)⟩
  · obtain ⟨b, e, J', w', q', rfl, rest⟩ := key
    exact ⟨J', w', q', e, rest⟩
  · rintro m a ⟨k, J', w', q', many', rfl, rfl, hkm, hB', hL', hd⟩
    have m24 := BF_le hB'
    have qk : (nI many' ≤ nI k) = (many' ≤ k) := nn_le (by omega) (by omega)
    by_cases hk : k = many'
    · left
      refine ⟨_, ?_, J', w', q', rfl, ⟨many', hL'⟩, fun s => ?_⟩
      · simp only [f_X12_lakes_b109]
        rw [if_pos (by rw [qk]; omega), nI_succ]
        rfl
      · obtain ⟨⟨b1, b2⟩, b3, b4, b5⟩ := id hB'
        rw [b5 s]
        constructor
        · rintro (z | ⟨j, j1, rfl⟩)
          · exact .inl z
          · exact .inr ⟨(b3 j j1).1, (b3 j j1).2.1⟩
        · rintro (z | ⟨z1, z2⟩)
          · exact .inl z
          · right
            refine z2 (fun t => ∃ j, j < many' ∧ q' j = t) ⟨0, b1, b2⟩ ?_
            rintro a b ⟨j, j1, rfl⟩ ⟨s1, s2, i, i1, i2, rfl⟩
            have hw := hd j (by omega) i i1 s2
            rcases (b5 _).mp hw with v | v
            · have := hcl _ _ s2 s1 (aj_y ⟨i, i1, i2, rfl⟩) v
              rw [(b3 j j1).2.2] at this; cases this
            · exact v
    · right
      obtain ⟨r, e, J2, w2, q2, many2, rfl, hB2, hL2, hle, hq, hm, hd2⟩ := bfs_row (σ := σ) hS hG ho hK h10 x n (nI f) hB' hL' (show k < many' by omega)
      refine ⟨gSt g - (k + 1), (nI many2, nI (k + 1), xw σ J2), by omega, ?_, k + 1, J2, w2, q2, many2, rfl, rfl, by omega, hB2, hL2, fun j hj i hi ha => ?_⟩
      · simp only [f_X12_lakes_b109]
        rw [if_neg (by rw [qk]; omega), e]
      · rw [hq j (by omega)] at ha ⊢
        by_cases z : j = k
        · rw [z] at ha ⊢; exact hd2 i hi ha
        · exact hm _ (hd j (by omega) i hi ha)
end LAKES
end
section
/-! lakes, counted -/
noncomputable def mnC (g : GD) (F : Nat → Int32) (e : Int) (y : Nat) : Bool := @decide (alw g F e y ∧ ∀ z, z < y → alw g F e z → ¬ cn (Se g F e) z y) (Classical.propDecidable _)
theorem mnC_iff {g : GD} {F : Nat → Int32} {e : Int} {y : Nat} : mnC g F e y = true ↔ alw g F e y ∧ ∀ z, z < y → alw g F e z → ¬ cn (Se g F e) z y := by
  unfold mnC
  exact @decide_eq_true_iff _ (Classical.propDecidable _)
section LAKE2
variable {σ : XS} {J0 J : Nat → Nat → Int32} {g : GD} {F : Nat → Int32}
def wK (g : GD) (F : Nat → Int32) (e : Int) (w : Nat → Bool) (k : Nat) : Prop := ∀ s, w s = true ↔ alw g F e s ∧ ∃ y, y < k ∧ alw g F e y ∧ cn (Se g F e) y s
theorem wK_skip {e : Int} {w : Nat → Bool} {k : Nat} (h : wK g F e w k) (hk : ¬ alw g F e k ∨ w k = true) : wK g F e w (k + 1) ∧ mnC g F e k = false := by
  refine ⟨fun s => ?_, ?_⟩
  · rw [h s]
    constructor
    · rintro ⟨h1, y, y1, y2⟩
      exact ⟨h1, y, by omega, y2⟩
    · rintro ⟨h1, y, y1, y2, y3⟩
      refine ⟨h1, ?_⟩
      by_cases z : y = k
      · rw [z] at y2 y3
        rcases hk with v | v
        · exact absurd y2 v
        · obtain ⟨-, t, t1, t2, t3⟩ := (h k).mp v
          exact ⟨t, t1, t2, cn_t t3 y3⟩
      · exact ⟨y, by omega, y2, y3⟩
  · cases z : mnC g F e k with
    | false => rfl
    | true =>
      obtain ⟨z1, z2⟩ := mnC_iff.mp z
      rcases hk with v | v
      · exact absurd z1 v
      · obtain ⟨-, t, t1, t2, t3⟩ := (h k).mp v
        exact absurd t3 (z2 t t1 t2)
theorem lakes44 (hS : Shp σ) (hG : GRD J0 g) (ho : RO g F) (hK : KNK J0 g F) (h10 : gSt g ≤ 1024) (x : Int32) (hL : LB J0 J g (fun _ => false) (fun _ => 0) 0) :
    ∃ r, xloop (f_X12_lakes_b44 183 x) ((0 : Int32), (0 : Int32), xw σ J) = some r ∧ ∃ J' : Nat → Nat → Int32, r = (nI (fb_ct (mnC g F x.toInt) (gSt g)), xw σ J') ∧ ∀ a k, ¬ (203 ≤ a ∧ a ≤ 204) → J' a k = J0 a k := by
  have hg := hG.1
  refine xforI (fun k a => ∃ (J' : Nat → Nat → Int32) (w : Nat → Bool) (q : Nat → Nat), a = (nI (fb_ct (mnC g F x.toInt) k), nI k, xw σ J') ∧ LB J0 J' g w q 0 ∧ wK g F x.toInt w k) (gSt g) ⟨J, _, _, rfl, hL, fun s => ⟨fun z => absurd z Bool.false_ne_true, fun ⟨_, y, y1, _⟩ => absurd y1 (Nat.not_lt_zero _)⟩⟩ ?_ ?_
  · rintro k a hk ⟨J', w, q, rfl, hL', hw⟩
    obtain ⟨v3, v4, u⟩ := id hL'
    have hG' : GRD J' g := GRD_c (fun a k z => u a k (by unfold sGRD at z; omega)) hG
    have k24 : k < 1024 := by omega
    have vw := v3 k hk
    have ve : J' 196 k = if lW g F k then iI (eE g (zR F) k) else nI 100000 := by rw [u _ _ (by omega)]; exact hK.1 k hk
    have hbt := eE_b hg ho k
    have skip : (¬ alw g F x.toInt k ∨ w k = true) → f_X12_lakes_b44 183 x (nI (fb_ct (mnC g F x.toInt) k), nI k, xw σ J') = some (.inl (nI (fb_ct (mnC g F x.toInt) k), nI (k + 1), xw σ J')) → ∃ a', f_X12_lakes_b44 183 x (nI (fb_ct (mnC g F x.toInt) k), nI k, xw σ J') = some (.inl a') ∧ ∃ (J' : Nat → Nat → Int32) (w : Nat → Bool) (q : Nat → Nat), a' = (nI (fb_ct (mnC g F x.toInt) (k + 1)), nI (k + 1), xw σ J') ∧ LB J0 J' g w q 0 ∧ wK g F x.toInt w (k + 1) := by
      intro h1 h2
      obtain ⟨s1, s2⟩ := wK_skip hw h1
      refine ⟨_, h2, J', w, q, ?_, hL', s1⟩
      rw [fb_ct_succ, s2]
      rfl
    cases hwk : w k with
    | true =>
      rw [hwk, if_pos rfl] at vw
      refine skip (.inr hwk) ?_
      simp only [f_X12_lakes_b44]
      simp (disch := first | assumption | omega) only [Option.bind_some, Option.map_some, xw_gR, xw_gN, xw_al, xw_ck, xw_uI, xw_ur, xup_at, xur_at, if_true, if_false, reduceIte, and_true, true_and, and_false, false_and, not_true_eq_false, not_false_eq_true, Nat.reduceEqDiff, eq_self, Nat.reduceAdd, Nat.reduceMul, kC1, kG1, kP1, kR1_0, kR1_1, kR1_2, kR1_3, kR1_4, kR1_5, kR1_6, kR1_7, kR1_8, kR1_9, kR1_10, kR1_11, kR1_12, kR1_13, kC2, kG2, kP2, kR2_0, kR2_1, kC3, kG3, kP3, kR3_0, kR3_1, kR3_2, kR3_3, kL4, kA4, kS4, kL5, kA5, kS5, kL6, kA6, kS6, kL7, kA7, kS7, kC8, kG8, kP8, kR8_0, kR8_1, kL9, kA9, kS9, kL10, kA10, kS10, kC11, kG11, kP11, kR11_0, kR11_1, kR11_2, kR11_3, kL12, kA12, kS12, kL13, kA13, kS13, kL14, kA14, kS14, kL15, kA15, kS15, kC16, kG16, kP16, kR16_0, kR16_1, kL17, kA17, kS17, kL18, kA18, kS18, kC19, kG19, kP19, kR19_0, kL20, kL141, kL146, kA146, kS146, kL151, kA151, kS151, kL156, kA156, kS156, kC157, kG157, kP157, kR157_0, kR157_1, kL158, kA158, kS158, kL159, kA159, kS159, kC161, kG161, kP161, kR161_0, kR161_1, kL162, kA162, kS162, kL163, kA163, kS163, kC165, kG165, kP165, kR165_0, kR165_1, kR165_2, kR165_3, kL166, kA166, kS166, kL167, kA167, kS167, kL168, kA168, kS168, kL169, kA169, kS169, kC170, kG170, kP170, kR170_0, kR170_1, kR170_2, kL171, kA171, kS171, kL172, kA172, kS172, kL173, kA173, kS173, kC174, kG174, kP174, kR174_0, kR174_1, kR174_2, kR174_3, kR174_4, kL175, kA175, kS175, kL176, kA176, kS176, kL177, kA177, kS177, kL178, kA178, kS178, kL179, kC180, kG180, kP180, kL181, kL182, kA182, kS182, kC183, kG183, kP183, kR183_1, kR183_3, kR183_5, kR183_6, kR183_7, kR183_8, kR183_9, kR183_21, kR183_26, kR183_27, kR183_30, kR183_31, kR183_33, kR183_34, kR183_36, kR183_37, kR183_38, kR183_39, kR183_40, kR183_41, kR183_42, kR183_43, kR183_44, kL184, kA184, kS184, kL185, kA185, kS185, kL186, kA186, kS186, kL187, kA187, kS187, kL188, kA188, kS188, kL189, kL190, kL191, kA191, kS191, kL192, kA192, kS192, kL193, kA193, kS193, kL194, kA194, kS194, kL195, kA195, kS195, kL196, kA196, kS196, kL197, kA197, kS197, kL198, kA198, kS198, kL199, kA199, kS199, kL200, kA200, kS200, kL201, kL202, kA202, kS202, kL203, kA203, kS203, kL204, kA204, kS204, kL205, kL206, kA206, kS206, states12_ok hS hG', nn_le, show ¬ (gSt g ≤ k) by omega, vw, one0]
      rw [nI_succ]
    | false =>
      rw [hwk, if_neg (by decide)] at vw
      cases hl : lW g F k with
      | false =>
        rw [hl, if_neg (by decide)] at ve
        refine skip (.inl (fun z => by have := z.1.2; rw [hl] at this; cases this)) ?_
        simp only [f_X12_lakes_b44]
        simp (disch := first | assumption | omega) only [Option.bind_some, Option.map_some, xw_gR, xw_gN, xw_al, xw_ck, xw_uI, xw_ur, xup_at, xur_at, if_true, if_false, reduceIte, and_true, true_and, and_false, false_and, not_true_eq_false, not_false_eq_true, Nat.reduceEqDiff, eq_self, Nat.reduceAdd, Nat.reduceMul, kC1, kG1, kP1, kR1_0, kR1_1, kR1_2, kR1_3, kR1_4, kR1_5, kR1_6, kR1_7, kR1_8, kR1_9, kR1_10, kR1_11, kR1_12, kR1_13, kC2, kG2, kP2, kR2_0, kR2_1, kC3, kG3, kP3, kR3_0, kR3_1, kR3_2, kR3_3, kL4, kA4, kS4, kL5, kA5, kS5, kL6, kA6, kS6, kL7, kA7, kS7, kC8, kG8, kP8, kR8_0, kR8_1, kL9, kA9, kS9, kL10, kA10, kS10, kC11, kG11, kP11, kR11_0, kR11_1, kR11_2, kR11_3, kL12, kA12, kS12, kL13, kA13, kS13, kL14, kA14, kS14, kL15, kA15, kS15, kC16, kG16, kP16, kR16_0, kR16_1, kL17, kA17, kS17, kL18, kA18, kS18, kC19, kG19, kP19, kR19_0, kL20, kL141, kL146, kA146, kS146, kL151, kA151, kS151, kL156, kA156, kS156, kC157, kG157, kP157, kR157_0, kR157_1, kL158, kA158, kS158, kL159, kA159, kS159, kC161, kG161, kP161, kR161_0, kR161_1, kL162, kA162, kS162, kL163, kA163, kS163, kC165, kG165, kP165, kR165_0, kR165_1, kR165_2, kR165_3, kL166, kA166, kS166, kL167, kA167, kS167, kL168, kA168, kS168, kL169, kA169, kS169, kC170, kG170, kP170, kR170_0, kR170_1, kR170_2, kL171, kA171, kS171, kL172, kA172, kS172, kL173, kA173, kS173, kC174, kG174, kP174, kR174_0, kR174_1, kR174_2, kR174_3, kR174_4, kL175, kA175, kS175, kL176, kA176, kS176, kL177, kA177, kS177, kL178, kA178, kS178, kL179, kC180, kG180, kP180, kL181, kL182, kA182, kS182, kC183, kG183, kP183, kR183_1, kR183_3, kR183_5, kR183_6, kR183_7, kR183_8, kR183_9, kR183_21, kR183_26, kR183_27, kR183_30, kR183_31, kR183_33, kR183_34, kR183_36, kR183_37, kR183_38, kR183_39, kR183_40, kR183_41, kR183_42, kR183_43, kR183_44, kL184, kA184, kS184, kL185, kA185, kS185, kL186, kA186, kS186, kL187, kA187, kS187, kL188, kA188, kS188, kL189, kL190, kL191, kA191, kS191, kL192, kA192, kS192, kL193, kA193, kS193, kL194, kA194, kS194, kL195, kA195, kS195, kL196, kA196, kS196, kL197, kA197, kS197, kL198, kA198, kS198, kL199, kA199, kS199, kL200, kA200, kS200, kL201, kL202, kA202, kS202, kL203, kA203, kS203, kL204, kA204, kS204, kL205, kL206, kA206, kS206, states12_ok hS hG', nn_le, show ¬ (gSt g ≤ k) by omega, vw, ve, show (nI 100000 = (100000 : Int32)) = True from eq_true rfl]
        rw [nI_succ]
      | true =>
        rw [hl, if_pos rfl] at ve
        have q1 : (iI (eE g (zR F) k) = (100000 : Int32)) = False := by
          rw [show (100000 : Int32) = iI 100000 from rfl, iI_eq (by omega) (by omega) (by omega) (by omega)]; exact eq_false (by omega)
        have q2 : (iI (eE g (zR F) k) ≤ x) = (eE g (zR F) k ≤ x.toInt) := by rw [fa_le, iI_ti (by omega) (by omega)]
        by_cases he : eE g (zR F) k ≤ x.toInt
        · have hal : alw g F x.toInt k := ⟨⟨hk, hl⟩, he⟩
          have z0 : ∀ (I : Nat → Nat → Int32) (v : Int32), xsI (xw σ I) 20 204 (0 : Int32) v = some (xw σ (xup I 204 0 v)) := fun I v => kS204 hS (i := 0) (by decide)
          have hB : BF g F x.toInt w (wA w k) (fun _ => k) 1 k := by
            refine ⟨⟨by omega, rfl⟩, fun j hj => ⟨hal, cn_r _ _, hwk⟩, fun i j hij hj => by omega, fun s => ?_⟩
            rw [wA_iff]
            constructor
            · rintro (z | z)
              · exact .inl z
              · exact .inr ⟨0, by omega, z⟩
            · rintro (z | ⟨j, -, z⟩)
              · exact .inl z
              · exact .inr z
          have hL2 : LB J0 (xup (xup J' 203 k 1) 204 0 (nI k)) g (wA w k) (fun _ => k) 1 := by
            refine ⟨fun s hs => ?_, fun j hj => ?_, fun a b hab => ?_⟩
            · rw [xup_at, if_neg (by omega), xup_at]
              by_cases z : s = k
              · rw [if_pos ⟨rfl, z⟩, z, wA_b, if_pos rfl]
              · rw [if_neg (by omega), v3 s hs]
                have : wA w k s = w s := by
                  unfold wA
                  rw [decide_eq_false (fun y => z y.symm), Bool.or_false]
                rw [this]
            · rw [xup_at, if_pos ⟨rfl, by omega⟩]
            · rw [xup_at, if_neg (by omega), xup_at, if_neg (by omega)]; exact u a b hab
          have hcl : ∀ a b, alw g F x.toInt a → alw g F x.toInt b → aj g F a b → w a = true → w b = true := fun a b ha hb hab hwa => by
            obtain ⟨-, y, y1, y2, y3⟩ := (hw a).mp hwa
            exact (hw b).mpr ⟨hb, y, y1, y2, cn_s y3 ⟨ha, hb, hab⟩⟩
          obtain ⟨J2, w', q', e, ⟨m', hL3⟩, hw'⟩ := bfs_ok (σ := σ) hS hG ho hK h10 x (nI (fb_ct (mnC g F x.toInt) k + 1)) (f := k) hB hL2 rfl hcl
          have hmn : mnC g F x.toInt k = true := by
            refine mnC_iff.mpr ⟨hal, fun z z1 z2 z3 => ?_⟩
            have := (hw k).mpr ⟨hal, z, z1, z2, z3⟩
            rw [hwk] at this; cases this
          refine ⟨(nI (fb_ct (mnC g F x.toInt) k + 1), nI (k + 1), xw σ J2), ?_, J2, w', q', ?_, ⟨hL3.1, fun j hj => absurd hj (Nat.not_lt_zero _), hL3.2.2⟩, fun s => ?_⟩
          · simp only [f_X12_lakes_b44]
            simp (disch := first | assumption | omega) only [Option.bind_some, Option.map_some, xw_gR, xw_gN, xw_al, xw_ck, xw_uI, xw_ur, xup_at, xur_at, if_true, if_false, reduceIte, and_true, true_and, and_false, false_and, not_true_eq_false, not_false_eq_true, Nat.reduceEqDiff, eq_self, Nat.reduceAdd, Nat.reduceMul, kC1, kG1, kP1, kR1_0, kR1_1, kR1_2, kR1_3, kR1_4, kR1_5, kR1_6, kR1_7, kR1_8, kR1_9, kR1_10, kR1_11, kR1_12, kR1_13, kC2, kG2, kP2, kR2_0, kR2_1, kC3, kG3, kP3, kR3_0, kR3_1, kR3_2, kR3_3, kL4, kA4, kS4, kL5, kA5, kS5, kL6, kA6, kS6, kL7, kA7, kS7, kC8, kG8, kP8, kR8_0, kR8_1, kL9, kA9, kS9, kL10, kA10, kS10, kC11, kG11, kP11, kR11_0, kR11_1, kR11_2, kR11_3, kL12, kA12, kS12, kL13, kA13, kS13, kL14, kA14, kS14, kL15, kA15, kS15, kC16, kG16, kP16, kR16_0, kR16_1, kL17, kA17, kS17, kL18, kA18, kS18, kC19, kG19, kP19, kR19_0, kL20, kL141, kL146, kA146, kS146, kL151, kA151, kS151, kL156, kA156, kS156, kC157, kG157, kP157, kR157_0, kR157_1, kL158, kA158, kS158, kL159, kA159, kS159, kC161, kG161, kP161, kR161_0, kR161_1, kL162, kA162, kS162, kL163, kA163, kS163, kC165, kG165, kP165, kR165_0, kR165_1, kR165_2, kR165_3, kL166, kA166, kS166, kL167, kA167, kS167, kL168, kA168, kS168, kL169, kA169, kS169, kC170, kG170, kP170, kR170_0, kR170_1, kR170_2, kL171, kA171, kS171, kL172, kA172, kS172, kL173, kA173, kS173, kC174, kG174, kP174, kR174_0, kR174_1, kR174_2, kR174_3, kR174_4, kL175, kA175, kS175, kL176, kA176, kS176, kL177, kA177, kS177, kL178, kA178, kS178, kL179, kC180, kG180, kP180, kL181, kL182, kA182, kS182, kC183, kG183, kP183, kR183_1, kR183_3, kR183_5, kR183_6, kR183_7, kR183_8, kR183_9, kR183_21, kR183_26, kR183_27, kR183_30, kR183_31, kR183_33, kR183_34, kR183_36, kR183_37, kR183_38, kR183_39, kR183_40, kR183_41, kR183_42, kR183_43, kR183_44, kL184, kA184, kS184, kL185, kA185, kS185, kL186, kA186, kS186, kL187, kA187, kS187, kL188, kA188, kS188, kL189, kL190, kL191, kA191, kS191, kL192, kA192, kS192, kL193, kA193, kS193, kL194, kA194, kS194, kL195, kA195, kS195, kL196, kA196, kS196, kL197, kA197, kS197, kL198, kA198, kS198, kL199, kA199, kS199, kL200, kA200, kS200, kL201, kL202, kA202, kS202, kL203, kA203, kS203, kL204, kA204, kS204, kL205, kL206, kA206, kS206, states12_ok hS hG', nn_le, show ¬ (gSt g ≤ k) by omega, vw, ve, q1, q2, he, z0]
            rw [← nI_succ]
            exact e
          · rw [fb_ct_succ, hmn]
            rfl
          · rw [hw' s, hw s]
            constructor
            · rintro (⟨h1, y, y1, y2⟩ | ⟨h1, h2⟩)
              · exact ⟨h1, y, by omega, y2⟩
              · exact ⟨h1, k, by omega, hal, h2⟩
            · rintro ⟨h1, y, y1, y2, y3⟩
              by_cases z : y = k
              · rw [z] at y3; exact .inr ⟨h1, y3⟩
              · exact .inl ⟨h1, y, by omega, y2, y3⟩
        · refine skip (.inl (fun z => he z.2)) ?_
          simp only [f_X12_lakes_b44]
          simp (disch := first | assumption | omega) only [Option.bind_some, Option.map_some, xw_gR, xw_gN, xw_al, xw_ck, xw_uI, xw_ur, xup_at, xur_at, if_true, if_false, reduceIte, and_true, true_and, and_false, false_and, not_true_eq_false, not_false_eq_true, Nat.reduceEqDiff, eq_self, Nat.reduceAdd, Nat.reduceMul, kC1, kG1, kP1, kR1_0, kR1_1, kR1_2, kR1_3, kR1_4, kR1_5, kR1_6, kR1_7, kR1_8, kR1_9, kR1_10, kR1_11, kR1_12, kR1_13, kC2, kG2, kP2, kR2_0, kR2_1, kC3, kG3, kP3, kR3_0, kR3_1, kR3_2, kR3_3, kL4, kA4, kS4, kL5, kA5, kS5, kL6, kA6, kS6, kL7, kA7, kS7, kC8, kG8, kP8, kR8_0, kR8_1, kL9, kA9, kS9, kL10, kA10, kS10, kC11, kG11, kP11, kR11_0, kR11_1, kR11_2, kR11_3, kL12, kA12, kS12, kL13, kA13, kS13, kL14, kA14, kS14, kL15, kA15, kS15, kC16, kG16, kP16, kR16_0, kR16_1, kL17, kA17, kS17, kL18, kA18, kS18, kC19, kG19, kP19, kR19_0, kL20, kL141, kL146, kA146, kS146, kL151, kA151, kS151, kL156, kA156, kS156, kC157, kG157, kP157, kR157_0, kR157_1, kL158, kA158, kS158, kL159, kA159, kS159, kC161, kG161, kP161, kR161_0, kR161_1, kL162, kA162, kS162, kL163, kA163, kS163, kC165, kG165, kP165, kR165_0, kR165_1, kR165_2, kR165_3, kL166, kA166, kS166, kL167, kA167, kS167, kL168, kA168, kS168, kL169, kA169, kS169, kC170, kG170, kP170, kR170_0, kR170_1, kR170_2, kL171, kA171, kS171, kL172, kA172, kS172, kL173, kA173, kS173, kC174, kG174, kP174, kR174_0, kR174_1, kR174_2, kR174_3, kR174_4, kL175, kA175, kS175, kL176, kA176, kS176, kL177, kA177, kS177, kL178, kA178, kS178, kL179, kC180, kG180, kP180, kL181, kL182, kA182, kS182, kC183, kG183, kP183, kR183_1, kR183_3, kR183_5, kR183_6, kR183_7, kR183_8, kR183_9, kR183_21, kR183_26, kR183_27, kR183_30, kR183_31, kR183_33, kR183_34, kR183_36, kR183_37, kR183_38, kR183_39, kR183_40, kR183_41, kR183_42, kR183_43, kR183_44, kL184, kA184, kS184, kL185, kA185, kS185, kL186, kA186, kS186, kL187, kA187, kS187, kL188, kA188, kS188, kL189, kL190, kL191, kA191, kS191, kL192, kA192, kS192, kL193, kA193, kS193, kL194, kA194, kS194, kL195, kA195, kS195, kL196, kA196, kS196, kL197, kA197, kS197, kL198, kA198, kS198, kL199, kA199, kS199, kL200, kA200, kS200, kL201, kL202, kA202, kS202, kL203, kA203, kS203, kL204, kA204, kS204, kL205, kL206, kA206, kS206, states12_ok hS hG', nn_le, show ¬ (gSt g ≤ k) by omega, vw, ve, q1, q2, he]
          rw [nI_succ]
  · rintro a ⟨J', w, q, rfl, hL', hw⟩
    have hG' : GRD J' g := GRD_c (fun a k z => hL'.2.2 a k (by unfold sGRD at z; omega)) hG
    have hSt := (gSt_b hg).1
    refine ⟨_, ?_, J', rfl, hL'.2.2⟩
    simp only [f_X12_lakes_b44]
    simp (disch := first | assumption | omega) only [Option.bind_some, Option.map_some, xw_gR, xw_gN, xw_al, xw_ck, xw_uI, xw_ur, xup_at, xur_at, if_true, if_false, reduceIte, and_true, true_and, and_false, false_and, not_true_eq_false, not_false_eq_true, Nat.reduceEqDiff, eq_self, Nat.reduceAdd, Nat.reduceMul, kC1, kG1, kP1, kR1_0, kR1_1, kR1_2, kR1_3, kR1_4, kR1_5, kR1_6, kR1_7, kR1_8, kR1_9, kR1_10, kR1_11, kR1_12, kR1_13, kC2, kG2, kP2, kR2_0, kR2_1, kC3, kG3, kP3, kR3_0, kR3_1, kR3_2, kR3_3, kL4, kA4, kS4, kL5, kA5, kS5, kL6, kA6, kS6, kL7, kA7, kS7, kC8, kG8, kP8, kR8_0, kR8_1, kL9, kA9, kS9, kL10, kA10, kS10, kC11, kG11, kP11, kR11_0, kR11_1, kR11_2, kR11_3, kL12, kA12, kS12, kL13, kA13, kS13, kL14, kA14, kS14, kL15, kA15, kS15, kC16, kG16, kP16, kR16_0, kR16_1, kL17, kA17, kS17, kL18, kA18, kS18, kC19, kG19, kP19, kR19_0, kL20, kL141, kL146, kA146, kS146, kL151, kA151, kS151, kL156, kA156, kS156, kC157, kG157, kP157, kR157_0, kR157_1, kL158, kA158, kS158, kL159, kA159, kS159, kC161, kG161, kP161, kR161_0, kR161_1, kL162, kA162, kS162, kL163, kA163, kS163, kC165, kG165, kP165, kR165_0, kR165_1, kR165_2, kR165_3, kL166, kA166, kS166, kL167, kA167, kS167, kL168, kA168, kS168, kL169, kA169, kS169, kC170, kG170, kP170, kR170_0, kR170_1, kR170_2, kL171, kA171, kS171, kL172, kA172, kS172, kL173, kA173, kS173, kC174, kG174, kP174, kR174_0, kR174_1, kR174_2, kR174_3, kR174_4, kL175, kA175, kS175, kL176, kA176, kS176, kL177, kA177, kS177, kL178, kA178, kS178, kL179, kC180, kG180, kP180, kL181, kL182, kA182, kS182, kC183, kG183, kP183, kR183_1, kR183_3, kR183_5, kR183_6, kR183_7, kR183_8, kR183_9, kR183_21, kR183_26, kR183_27, kR183_30, kR183_31, kR183_33, kR183_34, kR183_36, kR183_37, kR183_38, kR183_39, kR183_40, kR183_41, kR183_42, kR183_43, kR183_44, kL184, kA184, kS184, kL185, kA185, kS185, kL186, kA186, kS186, kL187, kA187, kS187, kL188, kA188, kS188, kL189, kL190, kL191, kA191, kS191, kL192, kA192, kS192, kL193, kA193, kS193, kL194, kA194, kS194, kL195, kA195, kS195, kL196, kA196, kS196, kL197, kA197, kS197, kL198, kA198, kS198, kL199, kA199, kS199, kL200, kA200, kS200, kL201, kL202, kA202, kS202, kL203, kA203, kS203, kL204, kA204, kS204, kL205, kL206, kA206, kS206, states12_ok hS hG', nn_le, Nat.le_refl]
theorem lakes12_ok (hS : Shp σ) (hG : GRD J g) (ho : RO g F) (hK : KNK J g F) (h10 : gSt g ≤ 1024) (x : Int32) : ∃ J' : Nat → Nat → Int32, xloop (f_X12_lakes_b19 183 x) ((0 : Int32), xw σ J) = some (nI (fb_ct (mnC g F x.toInt) (gSt g)), xw σ J') ∧ ∀ a k, ¬ (203 ≤ a ∧ a ≤ 204) → J' a k = J a k := by
  have hg := hG.1
  have key := xforI (f := f_X12_lakes_b19 183 x) (fun s a => ∃ J' : Nat → Nat → Int32, a = (nI s, xw σ J') ∧ (∀ y, y < s → J' 203 y = 0) ∧ ∀ a k, ¬ (203 ≤ a ∧ a ≤ 204) → J' a k = J a k) (gSt g) (Q := fun r => ∃ J' : Nat → Nat → Int32, r = (nI (fb_ct (mnC g F x.toInt) (gSt g)), xw σ J') ∧ ∀ a k, ¬ (203 ≤ a ∧ a ≤ 204) → J' a k = J a k) (a0 := ((0 : Int32), xw σ J)) ⟨J, rfl, fun y hy => absurd hy (Nat.not_lt_zero _), fun _ _ _ => rfl⟩ ?_ ?_
  · obtain ⟨r, e, J', rfl, u⟩ := key
    exact ⟨J', e, u⟩
  · rintro s a hs ⟨J', rfl, v, u⟩
    have hG' : GRD J' g := GRD_c (fun a k z => u a k (by unfold sGRD at z; omega)) hG
    have s24 : s < 1024 := by omega
    refine ⟨(nI (s + 1), xw σ (xup J' 203 s 0)), ?_, xup J' 203 s 0, rfl, fun y hy => ?_, fun a k h => by rw [xup_at, if_neg (by omega)]; exact u a k h⟩
    · simp only [f_X12_lakes_b19]
      simp (disch := first | assumption | omega) only [Option.bind_some, Option.map_some, xw_gR, xw_gN, xw_al, xw_ck, xw_uI, xw_ur, xup_at, xur_at, if_true, if_false, reduceIte, and_true, true_and, and_false, false_and, not_true_eq_false, not_false_eq_true, Nat.reduceEqDiff, eq_self, Nat.reduceAdd, Nat.reduceMul, kC1, kG1, kP1, kR1_0, kR1_1, kR1_2, kR1_3, kR1_4, kR1_5, kR1_6, kR1_7, kR1_8, kR1_9, kR1_10, kR1_11, kR1_12, kR1_13, kC2, kG2, kP2, kR2_0, kR2_1, kC3, kG3, kP3, kR3_0, kR3_1, kR3_2, kR3_3, kL4, kA4, kS4, kL5, kA5, kS5, kL6, kA6, kS6, kL7, kA7, kS7, kC8, kG8, kP8, kR8_0, kR8_1, kL9, kA9, kS9, kL10, kA10, kS10, kC11, kG11, kP11, kR11_0, kR11_1, kR11_2, kR11_3, kL12, kA12, kS12, kL13, kA13, kS13, kL14, kA14, kS14, kL15, kA15, kS15, kC16, kG16, kP16, kR16_0, kR16_1, kL17, kA17, kS17, kL18, kA18, kS18, kC19, kG19, kP19, kR19_0, kL20, kL141, kL146, kA146, kS146, kL151, kA151, kS151, kL156, kA156, kS156, kC157, kG157, kP157, kR157_0, kR157_1, kL158, kA158, kS158, kL159, kA159, kS159, kC161, kG161, kP161, kR161_0, kR161_1, kL162, kA162, kS162, kL163, kA163, kS163, kC165, kG165, kP165, kR165_0, kR165_1, kR165_2, kR165_3, kL166, kA166, kS166, kL167, kA167, kS167, kL168, kA168, kS168, kL169, kA169, kS169, kC170, kG170, kP170, kR170_0, kR170_1, kR170_2, kL171, kA171, kS171, kL172, kA172, kS172, kL173, kA173, kS173, kC174, kG174, kP174, kR174_0, kR174_1, kR174_2, kR174_3, kR174_4, kL175, kA175, kS175, kL176, kA176, kS176, kL177, kA177, kS177, kL178, kA178, kS178, kL179, kC180, kG180, kP180, kL181, kL182, kA182, kS182, kC183, kG183, kP183, kR183_1, kR183_3, kR183_5, kR183_6, kR183_7, kR183_8, kR183_9, kR183_21, kR183_26, kR183_27, kR183_30, kR183_31, kR183_33, kR183_34, kR183_36, kR183_37, kR183_38, kR183_39, kR183_40, kR183_41, kR183_42, kR183_43, kR183_44, kL184, kA184, kS184, kL185, kA185, kS185, kL186, kA186, kS186, kL187, kA187, kS187, kL188, kA188, kS188, kL189, kL190, kL191, kA191, kS191, kL192, kA192, kS192, kL193, kA193, kS193, kL194, kA194, kS194, kL195, kA195, kS195, kL196, kA196, kS196, kL197, kA197, kS197, kL198, kA198, kS198, kL199, kA199, kS199, kL200, kA200, kS200, kL201, kL202, kA202, kS202, kL203, kA203, kS203, kL204, kA204, kS204, kL205, kL206, kA206, kS206, states12_ok hS hG', nn_le, show ¬ (gSt g ≤ s) by omega]
      rw [nI_succ]
    · rw [xup_at]
      by_cases z : y = s
      · rw [if_pos ⟨rfl, z⟩]
      · rw [if_neg (by omega)]; exact v y (by omega)
  · rintro a ⟨J', rfl, v, u⟩
    have hG' : GRD J' g := GRD_c (fun a k z => u a k (by unfold sGRD at z; omega)) hG
    obtain ⟨r, e, J2, rfl, u2⟩ := lakes44 (σ := σ) (J0 := J) (J := J') hS hG ho hK h10 x ⟨fun s hs => by rw [v s hs]; exact (if_neg Bool.false_ne_true).symm, fun j hj => absurd hj (Nat.not_lt_zero _), u⟩
    refine ⟨_, ?_, J2, rfl, u2⟩
    simp only [f_X12_lakes_b19]
    simp (disch := first | assumption | omega) only [Option.bind_some, Option.map_some, xw_gR, xw_gN, xw_al, xw_ck, xw_uI, xw_ur, xup_at, xur_at, if_true, if_false, reduceIte, and_true, true_and, and_false, false_and, not_true_eq_false, not_false_eq_true, Nat.reduceEqDiff, eq_self, Nat.reduceAdd, Nat.reduceMul, kC1, kG1, kP1, kR1_0, kR1_1, kR1_2, kR1_3, kR1_4, kR1_5, kR1_6, kR1_7, kR1_8, kR1_9, kR1_10, kR1_11, kR1_12, kR1_13, kC2, kG2, kP2, kR2_0, kR2_1, kC3, kG3, kP3, kR3_0, kR3_1, kR3_2, kR3_3, kL4, kA4, kS4, kL5, kA5, kS5, kL6, kA6, kS6, kL7, kA7, kS7, kC8, kG8, kP8, kR8_0, kR8_1, kL9, kA9, kS9, kL10, kA10, kS10, kC11, kG11, kP11, kR11_0, kR11_1, kR11_2, kR11_3, kL12, kA12, kS12, kL13, kA13, kS13, kL14, kA14, kS14, kL15, kA15, kS15, kC16, kG16, kP16, kR16_0, kR16_1, kL17, kA17, kS17, kL18, kA18, kS18, kC19, kG19, kP19, kR19_0, kL20, kL141, kL146, kA146, kS146, kL151, kA151, kS151, kL156, kA156, kS156, kC157, kG157, kP157, kR157_0, kR157_1, kL158, kA158, kS158, kL159, kA159, kS159, kC161, kG161, kP161, kR161_0, kR161_1, kL162, kA162, kS162, kL163, kA163, kS163, kC165, kG165, kP165, kR165_0, kR165_1, kR165_2, kR165_3, kL166, kA166, kS166, kL167, kA167, kS167, kL168, kA168, kS168, kL169, kA169, kS169, kC170, kG170, kP170, kR170_0, kR170_1, kR170_2, kL171, kA171, kS171, kL172, kA172, kS172, kL173, kA173, kS173, kC174, kG174, kP174, kR174_0, kR174_1, kR174_2, kR174_3, kR174_4, kL175, kA175, kS175, kL176, kA176, kS176, kL177, kA177, kS177, kL178, kA178, kS178, kL179, kC180, kG180, kP180, kL181, kL182, kA182, kS182, kC183, kG183, kP183, kR183_1, kR183_3, kR183_5, kR183_6, kR183_7, kR183_8, kR183_9, kR183_21, kR183_26, kR183_27, kR183_30, kR183_31, kR183_33, kR183_34, kR183_36, kR183_37, kR183_38, kR183_39, kR183_40, kR183_41, kR183_42, kR183_43, kR183_44, kL184, kA184, kS184, kL185, kA185, kS185, kL186, kA186, kS186, kL187, kA187, kS187, kL188, kA188, kS188, kL189, kL190, kL191, kA191, kS191, kL192, kA192, kS192, kL193, kA193, kS193, kL194, kA194, kS194, kL195, kA195, kS195, kL196, kA196, kS196, kL197, kA197, kS197, kL198, kA198, kS198, kL199, kA199, kS199, kL200, kA200, kS200, kL201, kL202, kA202, kS202, kL203, kA203, kS203, kL204, kA204, kS204, kL205, kL206, kA206, kS206, states12_ok hS hG', nn_le, Nat.le_refl, e]
end LAKE2
theorem ct_inj {p q : Nat → Bool} {N N' : Nat} (φ : Nat → Nat) (h1 : ∀ x, x < N → p x = true → φ x < N' ∧ q (φ x) = true) (h2 : ∀ x y, x < N → y < N → p x = true → p y = true → φ x = φ y → x = y) : fb_ct p N ≤ fb_ct q N' := by
  have h : ∀ i, ∃ x, i < fb_ct p N → x < N ∧ p x = true ∧ fb_ct p x = i := by
    intro i
    by_cases z : i < fb_ct p N
    · obtain ⟨x, x1, x2, x3⟩ := fb_ct_kth z
      exact ⟨x, fun _ => ⟨x1, x2, x3⟩⟩
    · exact ⟨0, fun q => absurd q z⟩
  obtain ⟨e, h⟩ := Classical.axiomOfChoice h
  refine fb_holes (fb_ct q N') (fb_ct p N) (fun i => fb_ct q (φ (e i))) (fun i hi => ?_) (fun i j hij hj => ?_)
  · obtain ⟨a1, a2, a3⟩ := h i hi
    obtain ⟨b1, b2⟩ := h1 _ a1 a2
    exact ct_in b1 b2
  · obtain ⟨a1, a2, a3⟩ := h i (by omega)
    obtain ⟨c1, c2, c3⟩ := h j hj
    intro z
    have := h2 _ _ a1 c1 a2 c2 (fb_ct_kth_one (h1 _ a1 a2).2 (h1 _ c1 c2).2 z)
    rw [this] at a3
    omega
theorem lakes_eq {g : GD} {F : Nat → Int32} {e : Int} {w : Nat → Bool} {r : Nat → Nat} (hw : ∀ s, w s = true ↔ lwS g F s ∧ eE g (zR F) s ≤ e) (h1 : ∀ s, w s = true → s < 1024 ∧ w (r s) = true) (h2 : ∀ a b, w a = true → w b = true → (r a = r b ↔ cn (Sw w (aj g F)) a b)) (h3 : ∀ s, w s = true → r (r s) = r s) : rc w r = fb_ct (mnC g F e) (gSt g) := by
  have c1 : ∀ a b, cn (Sw w (aj g F)) a b → cn (Se g F e) a b := fun a b h => cn_m (fun p q ⟨s1, s2, s3⟩ => ⟨(hw p).mp s1, (hw q).mp s2, s3⟩) h
  have c2 : ∀ a b, cn (Se g F e) a b → cn (Sw w (aj g F)) a b := fun a b h => cn_m (fun p q ⟨s1, s2, s3⟩ => ⟨(hw p).mpr s1, (hw q).mpr s2, s3⟩) h
  apply Nat.le_antisymm
  · have ex : ∀ x, ∃ y, (w x = true ∧ r x = x) → (w y = true ∧ r y = x ∧ ∀ z, z < y → ¬ (w z = true ∧ r z = x)) := by
      intro x
      by_cases z : w x = true ∧ r x = x
      · obtain ⟨y, y1, y2, y3⟩ := fb_first (p := fun y => w y = true ∧ r y = x) (n := x + 1) ⟨x, by omega, z⟩
        exact ⟨y, fun _ => ⟨y2.1, y2.2, y3⟩⟩
      · exact ⟨0, fun q => absurd q z⟩
    obtain ⟨φ, hφ⟩ := Classical.axiomOfChoice ex
    have sp : ∀ x, (w x && decide (r x = x)) = true → w x = true ∧ r x = x := fun x hx1 => by
      simpa using hx1
    refine ct_inj φ (fun x _ hx1 => ?_) (fun x y _ _ hx1 hy1 hxy => ?_)
    · obtain ⟨a1, a2, a3⟩ := hφ x (sp x hx1)
      have al := (hw _).mp a1
      refine ⟨al.1.1, mnC_iff.mpr ⟨al, fun z z1 z2 z3 => a3 z z1 ?_⟩⟩
      have wz := (hw z).mpr z2
      exact ⟨wz, ((h2 z _ wz a1).mpr (c2 _ _ z3)).trans a2⟩
    · obtain ⟨a1, a2, a3⟩ := hφ x (sp x hx1)
      obtain ⟨b1, b2, b3⟩ := hφ y (sp y hy1)
      rw [hxy, b2] at a2
      exact a2.symm
  · refine ct_inj r (fun y _ hy1 => ?_) (fun x y _ _ hx1 hy1 hxy => ?_)
    · have wy := (hw y).mpr (mnC_iff.mp hy1).1
      have a := h1 y wy
      refine ⟨(h1 _ a.2).1, ?_⟩
      rw [a.2, h3 y wy]; simp
    · obtain ⟨x1, x2⟩ := mnC_iff.mp hx1
      obtain ⟨y1, y2⟩ := mnC_iff.mp hy1
      have wx := (hw x).mpr x1
      have wy := (hw y).mpr y1
      have c := c1 _ _ ((h2 x y wx wy).mp hxy)
      rcases Nat.lt_trichotomy x y with z | z | z
      · exact absurd c (y2 x z x1)
      · exact z
      · exact absurd (cn_y Se_y c) (x2 y z y1)
theorem op_lakes : Op_lakes INV := by
  intro n σ hn ⟨g, gT, gP, st, H⟩ x
  have hS := H.shp
  have hG := H.grd
  have hg := hG.1
  have hSt := (gSt_b hg).1
  have sm := isSmall_ok (σ := σ) (I := xI σ) hS hG
  have s2 := sites_ok (σ := σ) (I := xI σ) hS hG
  have sm2 := small12 hS hG
  by_cases h10 : gSz g ≤ 10
  · rw [if_pos h10] at sm
    obtain ⟨τ, c, m, M, o, e1, H1, hT, hO, r1⟩ := terr_ready (by omega) H h10
    obtain ⟨F, hF⟩ : ∃ F, F = xI σ 191 := ⟨_, rfl⟩
    rw [← hF] at hT hO r1
    have ho := hT.2.2.1
    obtain ⟨J', r, w, e3, u3, w1, w2, w3, w4⟩ := lakesBelow_ok hT hO x
    obtain ⟨H3, hG3, r3, Q, e4, H4, hG4, K4, r4⟩ := terr_both H1 r1 u3
    have hS3 : Shp τ := H1.shp
    obtain ⟨J5, e5, u5⟩ := lakes12_ok (σ := τ) (J := Q) hS3 hG4 ho K4 hT.st x
    rw [lakes_eq w1 w2 w3 w4] at e3
    refine ⟨nI (fb_ct (mnC g F x.toInt) (gSt g)), xw τ J', xw τ J5, ?_, ?_, INV_i (IV.nop (H4.hills (fun a k h => u5 a k (by omega))))⟩
    · unfold f_X11_lakes
      show ((xck σ 1 11).bind fun _ => (f_X11_isSmall (xw σ (xI σ)) 1).bind _) = _
      rw [xck_ok (sT1 hS), Option.bind_some, sm, Option.bind_some, if_neg (by decide), Option.bind_some, e1, Option.bind_some]
      dsimp only
      rw [xnz_ok (by decide), Option.bind_some]
      unfold f_X11_lakes_j14
      rw [xck_ok (sT174 hS3), Option.bind_some]
      show ((f_X9_lakesBelow (xw τ (xI τ)) 174 x).bind _) = _
      rw [e3, Option.bind_some]
    · unfold f_X12_lakes
      simp (disch := first | assumption | omega) only [Option.bind_some, Option.map_some, xw_gR, xw_gN, xw_al, xw_ck, xw_uI, xw_ur, xup_at, xur_at, if_true, if_false, reduceIte, and_true, true_and, and_false, false_and, not_true_eq_false, not_false_eq_true, Nat.reduceEqDiff, eq_self, Nat.reduceAdd, Nat.reduceMul, kC1, kG1, kP1, kR1_0, kR1_1, kR1_2, kR1_3, kR1_4, kR1_5, kR1_6, kR1_7, kR1_8, kR1_9, kR1_10, kR1_11, kR1_12, kR1_13, kC2, kG2, kP2, kR2_0, kR2_1, kC3, kG3, kP3, kR3_0, kR3_1, kR3_2, kR3_3, kL4, kA4, kS4, kL5, kA5, kS5, kL6, kA6, kS6, kL7, kA7, kS7, kC8, kG8, kP8, kR8_0, kR8_1, kL9, kA9, kS9, kL10, kA10, kS10, kC11, kG11, kP11, kR11_0, kR11_1, kR11_2, kR11_3, kL12, kA12, kS12, kL13, kA13, kS13, kL14, kA14, kS14, kL15, kA15, kS15, kC16, kG16, kP16, kR16_0, kR16_1, kL17, kA17, kS17, kL18, kA18, kS18, kC19, kG19, kP19, kR19_0, kL20, kL141, kL146, kA146, kS146, kL151, kA151, kS151, kL156, kA156, kS156, kC157, kG157, kP157, kR157_0, kR157_1, kL158, kA158, kS158, kL159, kA159, kS159, kC161, kG161, kP161, kR161_0, kR161_1, kL162, kA162, kS162, kL163, kA163, kS163, kC165, kG165, kP165, kR165_0, kR165_1, kR165_2, kR165_3, kL166, kA166, kS166, kL167, kA167, kS167, kL168, kA168, kS168, kL169, kA169, kS169, kC170, kG170, kP170, kR170_0, kR170_1, kR170_2, kL171, kA171, kS171, kL172, kA172, kS172, kL173, kA173, kS173, kC174, kG174, kP174, kR174_0, kR174_1, kR174_2, kR174_3, kR174_4, kL175, kA175, kS175, kL176, kA176, kS176, kL177, kA177, kS177, kL178, kA178, kS178, kL179, kC180, kG180, kP180, kL181, kL182, kA182, kS182, kC183, kG183, kP183, kR183_1, kR183_3, kR183_5, kR183_6, kR183_7, kR183_8, kR183_9, kR183_21, kR183_26, kR183_27, kR183_30, kR183_31, kR183_33, kR183_34, kR183_36, kR183_37, kR183_38, kR183_39, kR183_40, kR183_41, kR183_42, kR183_43, kR183_44, kL184, kA184, kS184, kL185, kA185, kS185, kL186, kA186, kS186, kL187, kA187, kS187, kL188, kA188, kS188, kL189, kL190, kL191, kA191, kS191, kL192, kA192, kS192, kL193, kA193, kS193, kL194, kA194, kS194, kL195, kA195, kS195, kL196, kA196, kS196, kL197, kA197, kS197, kL198, kA198, kS198, kL199, kA199, kS199, kL200, kA200, kS200, kL201, kL202, kA202, kS202, kL203, kA203, kS203, kL204, kA204, kS204, kL205, kL206, kA206, kS206, sites_ok hS3 hG3, sm2, h10, e4]
      exact e5
  · rw [if_neg h10] at sm
    refine ⟨-100000, σ, σ, ?_, ?_, INV_i H.nop⟩
    · show f_X11_lakes (xw σ (xI σ)) 1 x = _
      unfold f_X11_lakes
      simp (disch := first | assumption | omega) only [Option.bind_some, Option.map_some, xw_gR, xw_gN, xw_al, xw_ck, xw_uI, xw_ur, xup_at, xur_at, if_true, if_false, reduceIte, and_true, true_and, and_false, false_and, not_true_eq_false, not_false_eq_true, Nat.reduceEqDiff, eq_self, Nat.reduceAdd, Nat.reduceMul, kC1, kG1, kP1, kR1_0, kR1_1, kR1_2, kR1_3, kR1_4, kR1_5, kR1_6, kR1_7, kR1_8, kR1_9, kR1_10, kR1_11, kR1_12, kR1_13, kC2, kG2, kP2, kR2_0, kR2_1, kC3, kG3, kP3, kR3_0, kR3_1, kR3_2, kR3_3, kL4, kA4, kS4, kL5, kA5, kS5, kL6, kA6, kS6, kL7, kA7, kS7, kC8, kG8, kP8, kR8_0, kR8_1, kL9, kA9, kS9, kL10, kA10, kS10, kC11, kG11, kP11, kR11_0, kR11_1, kR11_2, kR11_3, kL12, kA12, kS12, kL13, kA13, kS13, kL14, kA14, kS14, kL15, kA15, kS15, kC16, kG16, kP16, kR16_0, kR16_1, kL17, kA17, kS17, kL18, kA18, kS18, kC19, kG19, kP19, kR19_0, kL20, kL141, kL146, kA146, kS146, kL151, kA151, kS151, kL156, kA156, kS156, kC157, kG157, kP157, kR157_0, kR157_1, kL158, kA158, kS158, kL159, kA159, kS159, kC161, kG161, kP161, kR161_0, kR161_1, kL162, kA162, kS162, kL163, kA163, kS163, kC165, kG165, kP165, kR165_0, kR165_1, kR165_2, kR165_3, kL166, kA166, kS166, kL167, kA167, kS167, kL168, kA168, kS168, kL169, kA169, kS169, kC170, kG170, kP170, kR170_0, kR170_1, kR170_2, kL171, kA171, kS171, kL172, kA172, kS172, kL173, kA173, kS173, kC174, kG174, kP174, kR174_0, kR174_1, kR174_2, kR174_3, kR174_4, kL175, kA175, kS175, kL176, kA176, kS176, kL177, kA177, kS177, kL178, kA178, kS178, kL179, kC180, kG180, kP180, kL181, kL182, kA182, kS182, kC183, kG183, kP183, kR183_1, kR183_3, kR183_5, kR183_6, kR183_7, kR183_8, kR183_9, kR183_21, kR183_26, kR183_27, kR183_30, kR183_31, kR183_33, kR183_34, kR183_36, kR183_37, kR183_38, kR183_39, kR183_40, kR183_41, kR183_42, kR183_43, kR183_44, kL184, kA184, kS184, kL185, kA185, kS185, kL186, kA186, kS186, kL187, kA187, kS187, kL188, kA188, kS188, kL189, kL190, kL191, kA191, kS191, kL192, kA192, kS192, kL193, kA193, kS193, kL194, kA194, kS194, kL195, kA195, kS195, kL196, kA196, kS196, kL197, kA197, kS197, kL198, kA198, kS198, kL199, kA199, kS199, kL200, kA200, kS200, kL201, kL202, kA202, kS202, kL203, kA203, kS203, kL204, kA204, kS204, kL205, kL206, kA206, kS206, sm]
      rfl
    · show f_X12_lakes (xw σ (xI σ)) 183 x = _
      unfold f_X12_lakes
      simp (disch := first | assumption | omega) only [Option.bind_some, Option.map_some, xw_gR, xw_gN, xw_al, xw_ck, xw_uI, xw_ur, xup_at, xur_at, if_true, if_false, reduceIte, and_true, true_and, and_false, false_and, not_true_eq_false, not_false_eq_true, Nat.reduceEqDiff, eq_self, Nat.reduceAdd, Nat.reduceMul, kC1, kG1, kP1, kR1_0, kR1_1, kR1_2, kR1_3, kR1_4, kR1_5, kR1_6, kR1_7, kR1_8, kR1_9, kR1_10, kR1_11, kR1_12, kR1_13, kC2, kG2, kP2, kR2_0, kR2_1, kC3, kG3, kP3, kR3_0, kR3_1, kR3_2, kR3_3, kL4, kA4, kS4, kL5, kA5, kS5, kL6, kA6, kS6, kL7, kA7, kS7, kC8, kG8, kP8, kR8_0, kR8_1, kL9, kA9, kS9, kL10, kA10, kS10, kC11, kG11, kP11, kR11_0, kR11_1, kR11_2, kR11_3, kL12, kA12, kS12, kL13, kA13, kS13, kL14, kA14, kS14, kL15, kA15, kS15, kC16, kG16, kP16, kR16_0, kR16_1, kL17, kA17, kS17, kL18, kA18, kS18, kC19, kG19, kP19, kR19_0, kL20, kL141, kL146, kA146, kS146, kL151, kA151, kS151, kL156, kA156, kS156, kC157, kG157, kP157, kR157_0, kR157_1, kL158, kA158, kS158, kL159, kA159, kS159, kC161, kG161, kP161, kR161_0, kR161_1, kL162, kA162, kS162, kL163, kA163, kS163, kC165, kG165, kP165, kR165_0, kR165_1, kR165_2, kR165_3, kL166, kA166, kS166, kL167, kA167, kS167, kL168, kA168, kS168, kL169, kA169, kS169, kC170, kG170, kP170, kR170_0, kR170_1, kR170_2, kL171, kA171, kS171, kL172, kA172, kS172, kL173, kA173, kS173, kC174, kG174, kP174, kR174_0, kR174_1, kR174_2, kR174_3, kR174_4, kL175, kA175, kS175, kL176, kA176, kS176, kL177, kA177, kS177, kL178, kA178, kS178, kL179, kC180, kG180, kP180, kL181, kL182, kA182, kS182, kC183, kG183, kP183, kR183_1, kR183_3, kR183_5, kR183_6, kR183_7, kR183_8, kR183_9, kR183_21, kR183_26, kR183_27, kR183_30, kR183_31, kR183_33, kR183_34, kR183_36, kR183_37, kR183_38, kR183_39, kR183_40, kR183_41, kR183_42, kR183_43, kR183_44, kL184, kA184, kS184, kL185, kA185, kS185, kL186, kA186, kS186, kL187, kA187, kS187, kL188, kA188, kS188, kL189, kL190, kL191, kA191, kS191, kL192, kA192, kS192, kL193, kA193, kS193, kL194, kA194, kS194, kL195, kA195, kS195, kL196, kA196, kS196, kL197, kA197, kS197, kL198, kA198, kS198, kL199, kA199, kS199, kL200, kA200, kS200, kL201, kL202, kA202, kS202, kL203, kA203, kS203, kL204, kA204, kS204, kL205, kL206, kA206, kS206, s2, sm2, h10]
      rfl
end
section
/-! the text, cut into tokens: what both sides must find -/
def isBl (x : Int32) : Bool := decide (x = 9) || decide (x = 10) || decide (x = 13) || decide (x = 32)
def isLt (x : Int32) : Bool := !(decide (x < 97) || decide (122 < x))
def isDg (x : Int32) : Bool := !(decide (x < 48) || decide (57 < x))
/-- the first place from p on that isn't of a kind; the text's end -/
def nxP (q : Int32 → Bool) (b : Nat → Int32) (m p : Nat) : Nat := p + fa_first (fun k => !q (b (p + k))) (m - p)
section NXT
variable {q : Int32 → Bool} {b : Nat → Int32} {m p : Nat}
theorem nxP_ge : p ≤ nxP q b m p := Nat.le_add_right _ _
theorem nxP_le (h : p ≤ m) : nxP q b m p ≤ m := by
  have := fa_first_le (fun k => !q (b (p + k))) (m - p)
  unfold nxP; omega
theorem nxP_in {k : Nat} (h1 : p ≤ k) (h2 : k < nxP q b m p) : q (b k) = true := by
  have := fa_first_no (fun k => !q (b (p + k))) (m - p) (k - p) (by unfold nxP at h2; omega)
  rw [show p + (k - p) = k by omega] at this
  simpa using this
theorem nxP_out (h : nxP q b m p < m) : q (b (nxP q b m p)) = false := by
  have := fa_first_yes (fun k => !q (b (p + k))) (m - p) (by unfold nxP at h; omega)
  unfold nxP
  simpa using this
theorem nxP_one {e : Nat} (h1 : p ≤ e) (h2 : e ≤ m) (h3 : ∀ k, p ≤ k → k < e → q (b k) = true) (h4 : e < m → q (b e) = false) : nxP q b m p = e := by
  rcases Nat.lt_trichotomy (nxP q b m p) e with z | z | z
  · have a := h3 _ nxP_ge z
    rw [nxP_out (q := q) (b := b) (m := m) (p := p) (by omega)] at a; cases a
  · exact z
  · have a := nxP_in (q := q) (b := b) (m := m) h1 z
    have l := nxP_le (q := q) (b := b) (show p ≤ m by omega)
    rw [h4 (by omega)] at a; cases a
theorem nxP_step (h : p < m) (hq : q (b p) = true) : nxP q b m (p + 1) = nxP q b m p := by
  symm
  refine nxP_one (by have := nxP_ge (q := q) (b := b) (m := m) (p := p + 1); omega) (nxP_le (by omega)) (fun k h1 h2 => ?_) nxP_out
  by_cases z : k = p
  · rw [z]; exact hq
  · exact nxP_in (show p + 1 ≤ k by omega) h2
end NXT
/-- the letters as digits from 1 to 26; a word as a number -/
def lt1 (x : Int32) : Nat := x.toInt.toNat - 96
def wdN (b : Nat → Int32) (s : Nat) : Nat → Nat
  | 0 => 0
  | n + 1 => 27 * wdN b s n + lt1 (b (s + n))
def wdC (w : Nat → Nat) : Nat → Nat
  | 0 => 0
  | n + 1 => 27 * wdC w n + w n
theorem isLt_b {x : Int32} (h : isLt x = true) : 97 ≤ x.toInt ∧ x.toInt ≤ 122 := by
  unfold isLt at h
  simp only [Bool.not_eq_true', Bool.or_eq_false_iff, decide_eq_false_iff_not] at h
  rw [fa_lt, fa_lt] at h
  have e1 : (97 : Int32).toInt = 97 := by decide
  have e2 : (122 : Int32).toInt = 122 := by decide
  omega
theorem isDg_b {x : Int32} (h : isDg x = true) : 48 ≤ x.toInt ∧ x.toInt ≤ 57 := by
  unfold isDg at h
  simp only [Bool.not_eq_true', Bool.or_eq_false_iff, decide_eq_false_iff_not] at h
  rw [fa_lt, fa_lt] at h
  have e1 : (48 : Int32).toInt = 48 := by decide
  have e2 : (57 : Int32).toInt = 57 := by decide
  omega
theorem wd_inj {b : Nat → Int32} {s : Nat} {w : Nat → Nat} : ∀ n k, (∀ i, i < n → 1 ≤ lt1 (b (s + i)) ∧ lt1 (b (s + i)) ≤ 26) → (∀ i, i < k → 1 ≤ w i ∧ w i ≤ 26) → (wdN b s n = wdC w k ↔ n = k ∧ ∀ i, i < n → lt1 (b (s + i)) = w i)
  | 0, 0, _, _ => ⟨fun _ => ⟨rfl, fun i hi => by omega⟩, fun _ => rfl⟩
  | 0, k + 1, _, hw => by
    have := hw k (by omega)
    constructor
    · intro h
      have h' : 0 = 27 * wdC w k + w k := h
      omega
    · intro h; omega
  | n + 1, 0, hb, _ => by
    have := hb n (by omega)
    constructor
    · intro h
      have h' : 27 * wdN b s n + lt1 (b (s + n)) = 0 := h
      omega
    · intro h; omega
  | n + 1, k + 1, hb, hw => by
    have ih := wd_inj (b := b) (s := s) (w := w) n k (fun i hi => hb i (by omega)) (fun i hi => hw i (by omega))
    have h1 := hb n (by omega)
    have h2 := hw k (by omega)
    show 27 * wdN b s n + lt1 (b (s + n)) = 27 * wdC w k + w k ↔ _
    constructor
    · intro h
      have e1 : wdN b s n = wdC w k := by omega
      have e2 : lt1 (b (s + n)) = w k := by omega
      obtain ⟨z1, z2⟩ := ih.mp e1
      refine ⟨by omega, fun i hi => ?_⟩
      by_cases z : i = n
      · rw [z, e2, z1]
      · exact z2 i (by omega)
    · rintro ⟨z1, z2⟩
      have z1' : n = k := by omega
      have e1 := ih.mpr ⟨z1', fun i hi => z2 i (by omega)⟩
      have e2 := z2 n (by omega)
      rw [e1, e2, z1']
theorem wdN_b {b : Nat → Int32} {s : Nat} : ∀ n, (∀ i, i < n → lt1 (b (s + i)) ≤ 26) → wdN b s n < 27 ^ n
  | 0, _ => by show 0 < 1; omega
  | n + 1, h => by
    have ih := wdN_b n (fun i hi => h i (by omega))
    have h1 := h n (by omega)
    show 27 * wdN b s n + lt1 (b (s + n)) < 27 ^ (n + 1)
    rw [Nat.pow_succ]
    omega
/-- the eleven words -/
def wdL : List (List Nat) := [[19, 20, 18, 9, 16], [1, 3, 18, 15, 19, 19], [1, 12, 15, 14, 7], [6, 9, 5, 12, 4], [18, 9, 14, 7], [20, 9, 5], [16, 21, 12, 12], [16, 9, 14], [21, 16], [4, 15, 23, 14], [19, 5, 5, 4]]
def wdW (j i : Nat) : Nat := (wdL.getD j []).getD i 0
theorem wd_tab : ∀ j, j < 11 → (wdL.getD j []).length = xsl.getD j 0 ∧ kyW.getD j 0 = wdC (wdW j) (xsl.getD j 0) ∧ xsl.getD j 0 ≤ 6 ∧ 1 ≤ xsl.getD j 0 ∧ (∀ i, i < xsl.getD j 0 → 1 ≤ wdW j i ∧ wdW j i ≤ 26 ∧ (xsb.getD j []).getD i 0 = nI (96 + wdW j i)) := by decide +kernel
def wdM (b : Nat → Int32) (s n j : Nat) : Bool := decide (n = xsl.getD j 0) && (List.range n).all (fun i => decide (lt1 (b (s + i)) = wdW j i))
theorem wdM_iff {b : Nat → Int32} {s n j : Nat} (hj : j < 11) (hb : ∀ i, i < n → isLt (b (s + i)) = true) : wdM b s n j = true ↔ wdN b s n = kyW.getD j 0 := by
  obtain ⟨t1, t2, t3, t4, t5⟩ := wd_tab j hj
  have hb' : ∀ i, i < n → 1 ≤ lt1 (b (s + i)) ∧ lt1 (b (s + i)) ≤ 26 := fun i hi => by
    have := isLt_b (hb i hi)
    unfold lt1; omega
  rw [t2, wd_inj n _ hb' (fun i hi => ⟨(t5 i hi).1, (t5 i hi).2.1⟩)]
  unfold wdM
  rw [Bool.and_eq_true, decide_eq_true_eq, List.all_eq_true]
  constructor
  · rintro ⟨h1, h2⟩
    exact ⟨h1, fun i hi => of_decide_eq_true (h2 i (List.mem_range.mpr hi))⟩
  · rintro ⟨h1, h2⟩
    exact ⟨h1, fun i hi => decide_eq_true (h2 i (List.mem_range.mp hi))⟩
theorem ky_one : ∀ i, i < 11 → ∀ j, j < 11 → kyW.getD i 0 = kyW.getD j 0 → i = j := by decide +kernel
/-- the kind of a word, in the class's numbers: the first that matches -/
def wkF (p : Nat → Bool) : Nat → Nat
  | 0 => 1
  | k + 1 => if p (10 - k) then 5 + (10 - k) else wkF p k
def wdK (b : Nat → Int32) (s n : Nat) : Nat := wkF (wdM b s n) 11
def nuV (b : Nat → Int32) (s : Nat) : Nat → Nat
  | 0 => 0
  | n + 1 => 10 * nuV b s n + ((b (s + n)).toInt.toNat - 48)
theorem nuV_b {b : Nat → Int32} {s : Nat} : ∀ n, (∀ i, i < n → isDg (b (s + i)) = true) → nuV b s n < 10 ^ n
  | 0, _ => by show 0 < 1; omega
  | n + 1, h => by
    have ih := nuV_b n (fun i hi => h i (by omega))
    have h1 := isDg_b (h n (by omega))
    show 10 * nuV b s n + ((b (s + n)).toInt.toNat - 48) < 10 ^ (n + 1)
    rw [Nat.pow_succ]
    omega
/-- the token at a place -/
def tS0 (b : Nat → Int32) (m p : Nat) : Nat := nxP isBl b m p
def tE0 (b : Nat → Int32) (m s : Nat) : Nat := if m ≤ s then m else if isLt (b s) then nxP isLt b m s else if isDg (b s) then nxP isDg b m s else s + 1
def tK0 (b : Nat → Int32) (m s : Nat) : Nat := if m ≤ s then 0 else if isLt (b s) then wdK b s (nxP isLt b m s - s) else if isDg (b s) then (if nxP isDg b m s - s ≤ 4 then 2 else 1) else if b s = 45 then 3 else if b s = 59 then 4 else 1
def tN0 (b : Nat → Int32) (m s : Nat) : Nat := nuV b s (nxP isDg b m s - s)
/-- the tokens, one behind another: where each is looked for -/
def tPo (b : Nat → Int32) (m : Nat) : Nat → Nat
  | 0 => 0
  | i + 1 => tE0 b m (tS0 b m (tPo b m i))
def tSt (b : Nat → Int32) (m i : Nat) : Nat := tS0 b m (tPo b m i)
def tKd (b : Nat → Int32) (m i : Nat) : Nat := tK0 b m (tSt b m i)
def tNu (b : Nat → Int32) (m i : Nat) : Nat := tN0 b m (tSt b m i)
section TOK
variable {b : Nat → Int32} {m : Nat}
theorem tE0_b {s : Nat} (h : s ≤ m) : s ≤ tE0 b m s ∧ tE0 b m s ≤ m ∧ (s < m → s < tE0 b m s) := by
  unfold tE0
  split
  · omega
  · next z =>
    split
    · next y =>
      have h1 := nxP_le (q := isLt) (b := b) h
      have h2 := nxP_ge (q := isLt) (b := b) (m := m) (p := s + 1)
      rw [nxP_step (by omega) y] at h2
      omega
    · split
      · next y =>
        have h1 := nxP_le (q := isDg) (b := b) h
        have h2 := nxP_ge (q := isDg) (b := b) (m := m) (p := s + 1)
        rw [nxP_step (by omega) y] at h2
        omega
      · omega
theorem tPo_b : ∀ i, tPo b m i ≤ m
  | 0 => Nat.zero_le _
  | i + 1 => (tE0_b (nxP_le (tPo_b i))).2.1
theorem tSt_b (i : Nat) : tPo b m i ≤ tSt b m i ∧ tSt b m i ≤ m := ⟨nxP_ge, nxP_le (tPo_b i)⟩
theorem tPo_s (i : Nat) : tPo b m (i + 1) = tE0 b m (tSt b m i) := rfl
theorem wkF_b (p : Nat → Bool) : ∀ k, k ≤ 11 → 1 ≤ wkF p k ∧ wkF p k ≤ 15
  | 0, _ => by show 1 ≤ 1 ∧ 1 ≤ 15; omega
  | k + 1, h => by
    have := wkF_b p k (by omega)
    rw [wkF]
    split <;> omega
theorem tKd_b (i : Nat) : tKd b m i ≤ 15 := by
  unfold tKd tK0 wdK
  have := wkF_b (wdM b (tSt b m i) (nxP isLt b m (tSt b m i) - tSt b m i)) 11 (by omega)
  split
  · omega
  · split
    · omega
    · split
      · split <;> omega
      · split
        · omega
        · split <;> omega
theorem tKd_0 (i : Nat) : tKd b m i = 0 ↔ tSt b m i = m := by
  have hb := (tSt_b (b := b) (m := m) i).2
  unfold tKd tK0 wdK
  have := wkF_b (wdM b (tSt b m i) (nxP isLt b m (tSt b m i) - tSt b m i)) 11 (by omega)
  split
  · next z => exact ⟨fun _ => by omega, fun _ => rfl⟩
  · next z =>
    constructor
    · intro h
      exfalso
      split at h
      · omega
      · split at h
        · split at h <;> omega
        · split at h
          · omega
          · split at h <;> omega
    · intro h; omega
/-- places grow -/
theorem tSt_lt {i : Nat} (h : tKd b m i ≠ 0) : tSt b m i < tSt b m (i + 1) := by
  have h1 : tSt b m i ≠ m := fun z => h ((tKd_0 i).mpr z)
  have h2 := tSt_b (b := b) (m := m) i
  have h3 := (tE0_b (b := b) h2.2).2.2 (by omega)
  have h4 := (tSt_b (b := b) (m := m) (i + 1)).1
  rw [tPo_s] at h4
  omega
theorem tSt_mono {i j : Nat} (hij : i < j) (h : ∀ k, i ≤ k → k < j → tKd b m k ≠ 0) : tSt b m i < tSt b m j := by
  induction j with
  | zero => omega
  | succ j ih =>
    have h1 := tSt_lt (b := b) (m := m) (h j (by omega) (by omega))
    by_cases z : i = j
    · rw [z]; exact h1
    · have := ih (by omega) (fun k a c => h k a (by omega))
      omega
theorem tNu_b {i : Nat} (h : tKd b m i = 2) : tNu b m i < 10000 := by
  have hb := tSt_b (b := b) (m := m) i
  unfold tKd tK0 wdK at h
  have hw := wkF_b (wdM b (tSt b m i) (nxP isLt b m (tSt b m i) - tSt b m i)) 11 (by omega)
  unfold tNu tN0
  split at h
  · cases h
  · next z =>
    split at h
    · exfalso
      have h2 : ∀ p k, k ≤ 11 → wkF p k ≠ 2 := by
        intro p k
        induction k with
        | zero => intro _ q; cases q
        | succ k ih =>
          intro hk q
          rw [wkF] at q
          split at q
          · omega
          · exact ih (by omega) q
      exact h2 _ 11 (by omega) h
    · split at h
      · next y =>
        split at h
        · next v =>
          have h1 := nuV_b (b := b) (s := tSt b m i) (nxP isDg b m (tSt b m i) - tSt b m i) (fun k hk => nxP_in (m := m) (p := tSt b m i) (by omega) (by omega))
          have h2 : 10 ^ (nxP isDg b m (tSt b m i) - tSt b m i) ≤ 10 ^ 4 := Nat.pow_le_pow_right (by decide) v
          omega
        · cases h
      · split at h
        · cases h
        · split at h <;> cases h
end TOK
end
section
/-! the class finds a token -/
theorem xup2 {I : Nat → Nat → Int32} {a j : Nat} {v v' : Int32} : xup (xup I a j v) a j v' = xup I a j v' := by
  funext c k
  simp only [xup_at]
  by_cases z : c = a ∧ k = j
  · rw [if_pos z, if_pos z]
  · rw [if_neg z, if_neg z, if_neg z]
theorem bl8_ok (x : Int32) : f_X8_isBlank x = some (if isBl x then 1 else 0) := by
  unfold f_X8_isBlank isBl
  by_cases h1 : x = 9
  · simp [h1]
  · by_cases h2 : x = 10
    · simp [h2]
    · by_cases h3 : x = 13
      · simp [h3]
      · by_cases h4 : x = 32
        · simp [h4]
        · simp [h1, h2, h3, h4]
theorem lt8_ok (x : Int32) : f_X8_isLetter x = some (if isLt x then 1 else 0) := by
  unfold f_X8_isLetter isLt
  by_cases h1 : x < 97
  · simp [h1]
  · by_cases h2 : 122 < x
    · simp [h1, h2]
    · simp [h1, h2]
theorem dg8_ok (x : Int32) : f_X8_isDigit x = some (if isDg x then 1 else 0) := by
  unfold f_X8_isDigit isDg
  by_cases h1 : x < 48
  · simp [h1]
  · by_cases h2 : 57 < x
    · simp [h1, h2]
    · simp [h1, h2]
theorem b10 (a : Bool) : ((if a = true then (1 : Int32) else 0) = 0) = (a = false) := by cases a <;> decide
section FIND
variable {σ : XS} {J : Nat → Nat → Int32} {m : Nat}
theorem byte8_ok (hS : Shp σ) (hm : m ≤ 2000) (h4 : J 3 4 = nI m) {k : Nat} (hk : k < m) : f_X8_byteAt (xw σ J) 3 (nI k) = some (J 4 k) := by
  unfold f_X8_byteAt
  have q1 : (nI m ≤ nI k) = False := by rw [nn_le (by omega) (by omega)]; exact eq_false (by omega)
  have q2 : (nI 2000 ≤ nI k) = False := by rw [nn_le (by omega) (by omega)]; exact eq_false (by omega)
  have k20 : k < 2000 := by omega
  rw [if_neg (nI_pos (by omega))]
  simp (disch := first | assumption | omega) only [Option.bind_some, Option.map_some, xw_gR, xw_gN, xw_al, xw_ck, xw_uI, xw_ur, xup_at, xur_at, if_true, if_false, reduceIte, and_true, true_and, and_false, false_and, not_true_eq_false, not_false_eq_true, Nat.reduceEqDiff, eq_self, Nat.reduceAdd, Nat.reduceMul, kC1, kG1, kP1, kR1_0, kR1_1, kR1_2, kR1_3, kR1_4, kR1_5, kR1_6, kR1_7, kR1_8, kR1_9, kR1_10, kR1_11, kR1_12, kR1_13, kC2, kG2, kP2, kR2_0, kR2_1, kC3, kG3, kP3, kR3_0, kR3_1, kR3_2, kR3_3, kL4, kA4, kS4, kL5, kA5, kS5, kL6, kA6, kS6, kL7, kA7, kS7, kC8, kG8, kP8, kR8_0, kR8_1, kL9, kA9, kS9, kL10, kA10, kS10, kC11, kG11, kP11, kR11_0, kR11_1, kR11_2, kR11_3, kL12, kA12, kS12, kL13, kA13, kS13, kL14, kA14, kS14, kL15, kA15, kS15, kC16, kG16, kP16, kR16_0, kR16_1, kL17, kA17, kS17, kL18, kA18, kS18, kC19, kG19, kP19, kR19_0, kL20, kL141, kL146, kA146, kS146, kL151, kA151, kS151, kL156, kA156, kS156, kC157, kG157, kP157, kR157_0, kR157_1, kL158, kA158, kS158, kL159, kA159, kS159, kC161, kG161, kP161, kR161_0, kR161_1, kL162, kA162, kS162, kL163, kA163, kS163, kC165, kG165, kP165, kR165_0, kR165_1, kR165_2, kR165_3, kL166, kA166, kS166, kL167, kA167, kS167, kL168, kA168, kS168, kL169, kA169, kS169, kC170, kG170, kP170, kR170_0, kR170_1, kR170_2, kL171, kA171, kS171, kL172, kA172, kS172, kL173, kA173, kS173, kC174, kG174, kP174, kR174_0, kR174_1, kR174_2, kR174_3, kR174_4, kL175, kA175, kS175, kL176, kA176, kS176, kL177, kA177, kS177, kL178, kA178, kS178, kL179, kC180, kG180, kP180, kL181, kL182, kA182, kS182, kC183, kG183, kP183, kR183_1, kR183_3, kR183_5, kR183_6, kR183_7, kR183_8, kR183_9, kR183_21, kR183_26, kR183_27, kR183_30, kR183_31, kR183_33, kR183_34, kR183_36, kR183_37, kR183_38, kR183_39, kR183_40, kR183_41, kR183_42, kR183_43, kR183_44, kL184, kA184, kS184, kL185, kA185, kS185, kL186, kA186, kS186, kL187, kA187, kS187, kL188, kA188, kS188, kL189, kL190, kL191, kA191, kS191, kL192, kA192, kS192, kL193, kA193, kS193, kL194, kA194, kS194, kL195, kA195, kS195, kL196, kA196, kS196, kL197, kA197, kS197, kL198, kA198, kS198, kL199, kA199, kS199, kL200, kA200, kS200, kL201, kL202, kA202, kS202, kL203, kA203, kS203, kL204, kA204, kS204, kL205, kL206, kA206, kS206, h4, q1, q2]
theorem skipL_ok (hS : Shp σ) (hm : m ≤ 2000) (h4 : J 3 4 = nI m) {p : Nat} (hp : p ≤ m) (h9 : J 3 9 = nI p) : f_X8_skipLetters (xw σ J) 3 = some (xw σ (xup J 3 9 (nI (nxP isLt (J 4) m p)))) := by
  have hge := nxP_ge (q := isLt) (b := J 4) (m := m) (p := p)
  have hle := nxP_le (q := isLt) (b := J 4) hp
  unfold f_X8_skipLetters
  have e0 : xup J 3 9 (nI p) = J := by
    funext c k
    rw [xup_at]
    by_cases z : c = 3 ∧ k = 9
    · rw [if_pos z, z.1, z.2]; exact h9.symm
    · rw [if_neg z]
  have ends : nI (p + (nxP isLt (J 4) m p - p)) = nI (nxP isLt (J 4) m p) := by congr 1; omega
  refine xforE (fun i : Nat => xw σ (xup J 3 9 (nI (p + i)))) (nxP isLt (J 4) m p - p) ?_ (fun i hi => ?_) ?_
  · show xw σ J = xw σ (xup J 3 9 (nI (p + 0)))
    rw [Nat.add_zero, e0]
  · have hb := byte8_ok (σ := σ) (J := xup J 3 9 (nI (p + i))) hS hm (by rw [xup_at, if_neg (by omega)]; exact h4) (show p + i < m by omega)
    have hr : xup J 3 9 (nI (p + i)) 4 (p + i) = J 4 (p + i) := by rw [xup_at, if_neg (by omega)]
    have hl : isLt (J 4 (p + i)) = true := nxP_in (q := isLt) (b := J 4) (m := m) (p := p) (by omega) (by omega)
    rw [hr] at hb
    have q1 : (nI m ≤ nI (p + i)) = False := by rw [nn_le (by omega) (by omega)]; exact eq_false (by omega)
    simp only [f_X8_skipLetters_b0]
    simp (disch := first | assumption | omega) only [Option.bind_some, Option.map_some, xw_gR, xw_gN, xw_al, xw_ck, xw_uI, xw_ur, xup_at, xur_at, if_true, if_false, reduceIte, and_true, true_and, and_false, false_and, not_true_eq_false, not_false_eq_true, Nat.reduceEqDiff, eq_self, Nat.reduceAdd, Nat.reduceMul, kC1, kG1, kP1, kR1_0, kR1_1, kR1_2, kR1_3, kR1_4, kR1_5, kR1_6, kR1_7, kR1_8, kR1_9, kR1_10, kR1_11, kR1_12, kR1_13, kC2, kG2, kP2, kR2_0, kR2_1, kC3, kG3, kP3, kR3_0, kR3_1, kR3_2, kR3_3, kL4, kA4, kS4, kL5, kA5, kS5, kL6, kA6, kS6, kL7, kA7, kS7, kC8, kG8, kP8, kR8_0, kR8_1, kL9, kA9, kS9, kL10, kA10, kS10, kC11, kG11, kP11, kR11_0, kR11_1, kR11_2, kR11_3, kL12, kA12, kS12, kL13, kA13, kS13, kL14, kA14, kS14, kL15, kA15, kS15, kC16, kG16, kP16, kR16_0, kR16_1, kL17, kA17, kS17, kL18, kA18, kS18, kC19, kG19, kP19, kR19_0, kL20, kL141, kL146, kA146, kS146, kL151, kA151, kS151, kL156, kA156, kS156, kC157, kG157, kP157, kR157_0, kR157_1, kL158, kA158, kS158, kL159, kA159, kS159, kC161, kG161, kP161, kR161_0, kR161_1, kL162, kA162, kS162, kL163, kA163, kS163, kC165, kG165, kP165, kR165_0, kR165_1, kR165_2, kR165_3, kL166, kA166, kS166, kL167, kA167, kS167, kL168, kA168, kS168, kL169, kA169, kS169, kC170, kG170, kP170, kR170_0, kR170_1, kR170_2, kL171, kA171, kS171, kL172, kA172, kS172, kL173, kA173, kS173, kC174, kG174, kP174, kR174_0, kR174_1, kR174_2, kR174_3, kR174_4, kL175, kA175, kS175, kL176, kA176, kS176, kL177, kA177, kS177, kL178, kA178, kS178, kL179, kC180, kG180, kP180, kL181, kL182, kA182, kS182, kC183, kG183, kP183, kR183_1, kR183_3, kR183_5, kR183_6, kR183_7, kR183_8, kR183_9, kR183_21, kR183_26, kR183_27, kR183_30, kR183_31, kR183_33, kR183_34, kR183_36, kR183_37, kR183_38, kR183_39, kR183_40, kR183_41, kR183_42, kR183_43, kR183_44, kL184, kA184, kS184, kL185, kA185, kS185, kL186, kA186, kS186, kL187, kA187, kS187, kL188, kA188, kS188, kL189, kL190, kL191, kA191, kS191, kL192, kA192, kS192, kL193, kA193, kS193, kL194, kA194, kS194, kL195, kA195, kS195, kL196, kA196, kS196, kL197, kA197, kS197, kL198, kA198, kS198, kL199, kA199, kS199, kL200, kA200, kS200, kL201, kL202, kA202, kS202, kL203, kA203, kS203, kL204, kA204, kS204, kL205, kL206, kA206, kS206, h4, q1, hb, lt8_ok, hl, one0]
    rw [← nI_succ, xup2]
    rfl
  · rw [ends]
    by_cases z : nxP isLt (J 4) m p = m
    · have q1 : (nI m ≤ nI (nxP isLt (J 4) m p)) = True := by rw [nn_le (by omega) (by omega)]; exact eq_true (by omega)
      simp only [f_X8_skipLetters_b0]
      simp (disch := first | assumption | omega) only [Option.bind_some, Option.map_some, xw_gR, xw_gN, xw_al, xw_ck, xw_uI, xw_ur, xup_at, xur_at, if_true, if_false, reduceIte, and_true, true_and, and_false, false_and, not_true_eq_false, not_false_eq_true, Nat.reduceEqDiff, eq_self, Nat.reduceAdd, Nat.reduceMul, kC1, kG1, kP1, kR1_0, kR1_1, kR1_2, kR1_3, kR1_4, kR1_5, kR1_6, kR1_7, kR1_8, kR1_9, kR1_10, kR1_11, kR1_12, kR1_13, kC2, kG2, kP2, kR2_0, kR2_1, kC3, kG3, kP3, kR3_0, kR3_1, kR3_2, kR3_3, kL4, kA4, kS4, kL5, kA5, kS5, kL6, kA6, kS6, kL7, kA7, kS7, kC8, kG8, kP8, kR8_0, kR8_1, kL9, kA9, kS9, kL10, kA10, kS10, kC11, kG11, kP11, kR11_0, kR11_1, kR11_2, kR11_3, kL12, kA12, kS12, kL13, kA13, kS13, kL14, kA14, kS14, kL15, kA15, kS15, kC16, kG16, kP16, kR16_0, kR16_1, kL17, kA17, kS17, kL18, kA18, kS18, kC19, kG19, kP19, kR19_0, kL20, kL141, kL146, kA146, kS146, kL151, kA151, kS151, kL156, kA156, kS156, kC157, kG157, kP157, kR157_0, kR157_1, kL158, kA158, kS158, kL159, kA159, kS159, kC161, kG161, kP161, kR161_0, kR161_1, kL162, kA162, kS162, kL163, kA163, kS163, kC165, kG165, kP165, kR165_0, kR165_1, kR165_2, kR165_3, kL166, kA166, kS166, kL167, kA167, kS167, kL168, kA168, kS168, kL169, kA169, kS169, kC170, kG170, kP170, kR170_0, kR170_1, kR170_2, kL171, kA171, kS171, kL172, kA172, kS172, kL173, kA173, kS173, kC174, kG174, kP174, kR174_0, kR174_1, kR174_2, kR174_3, kR174_4, kL175, kA175, kS175, kL176, kA176, kS176, kL177, kA177, kS177, kL178, kA178, kS178, kL179, kC180, kG180, kP180, kL181, kL182, kA182, kS182, kC183, kG183, kP183, kR183_1, kR183_3, kR183_5, kR183_6, kR183_7, kR183_8, kR183_9, kR183_21, kR183_26, kR183_27, kR183_30, kR183_31, kR183_33, kR183_34, kR183_36, kR183_37, kR183_38, kR183_39, kR183_40, kR183_41, kR183_42, kR183_43, kR183_44, kL184, kA184, kS184, kL185, kA185, kS185, kL186, kA186, kS186, kL187, kA187, kS187, kL188, kA188, kS188, kL189, kL190, kL191, kA191, kS191, kL192, kA192, kS192, kL193, kA193, kS193, kL194, kA194, kS194, kL195, kA195, kS195, kL196, kA196, kS196, kL197, kA197, kS197, kL198, kA198, kS198, kL199, kA199, kS199, kL200, kA200, kS200, kL201, kL202, kA202, kS202, kL203, kA203, kS203, kL204, kA204, kS204, kL205, kL206, kA206, kS206, h4, q1]
    · have hb := byte8_ok (σ := σ) (J := xup J 3 9 (nI (nxP isLt (J 4) m p))) hS hm (by rw [xup_at, if_neg (by omega)]; exact h4) (show nxP isLt (J 4) m p < m by omega)
      have hr : xup J 3 9 (nI (nxP isLt (J 4) m p)) 4 (nxP isLt (J 4) m p) = J 4 (nxP isLt (J 4) m p) := by rw [xup_at, if_neg (by omega)]
      have hl : isLt (J 4 (nxP isLt (J 4) m p)) = false := nxP_out (by omega)
      rw [hr] at hb
      have q1 : (nI m ≤ nI (nxP isLt (J 4) m p)) = False := by rw [nn_le (by omega) (by omega)]; exact eq_false (by omega)
      simp only [f_X8_skipLetters_b0]
      simp (disch := first | assumption | omega) only [Option.bind_some, Option.map_some, xw_gR, xw_gN, xw_al, xw_ck, xw_uI, xw_ur, xup_at, xur_at, if_true, if_false, reduceIte, and_true, true_and, and_false, false_and, not_true_eq_false, not_false_eq_true, Nat.reduceEqDiff, eq_self, Nat.reduceAdd, Nat.reduceMul, kC1, kG1, kP1, kR1_0, kR1_1, kR1_2, kR1_3, kR1_4, kR1_5, kR1_6, kR1_7, kR1_8, kR1_9, kR1_10, kR1_11, kR1_12, kR1_13, kC2, kG2, kP2, kR2_0, kR2_1, kC3, kG3, kP3, kR3_0, kR3_1, kR3_2, kR3_3, kL4, kA4, kS4, kL5, kA5, kS5, kL6, kA6, kS6, kL7, kA7, kS7, kC8, kG8, kP8, kR8_0, kR8_1, kL9, kA9, kS9, kL10, kA10, kS10, kC11, kG11, kP11, kR11_0, kR11_1, kR11_2, kR11_3, kL12, kA12, kS12, kL13, kA13, kS13, kL14, kA14, kS14, kL15, kA15, kS15, kC16, kG16, kP16, kR16_0, kR16_1, kL17, kA17, kS17, kL18, kA18, kS18, kC19, kG19, kP19, kR19_0, kL20, kL141, kL146, kA146, kS146, kL151, kA151, kS151, kL156, kA156, kS156, kC157, kG157, kP157, kR157_0, kR157_1, kL158, kA158, kS158, kL159, kA159, kS159, kC161, kG161, kP161, kR161_0, kR161_1, kL162, kA162, kS162, kL163, kA163, kS163, kC165, kG165, kP165, kR165_0, kR165_1, kR165_2, kR165_3, kL166, kA166, kS166, kL167, kA167, kS167, kL168, kA168, kS168, kL169, kA169, kS169, kC170, kG170, kP170, kR170_0, kR170_1, kR170_2, kL171, kA171, kS171, kL172, kA172, kS172, kL173, kA173, kS173, kC174, kG174, kP174, kR174_0, kR174_1, kR174_2, kR174_3, kR174_4, kL175, kA175, kS175, kL176, kA176, kS176, kL177, kA177, kS177, kL178, kA178, kS178, kL179, kC180, kG180, kP180, kL181, kL182, kA182, kS182, kC183, kG183, kP183, kR183_1, kR183_3, kR183_5, kR183_6, kR183_7, kR183_8, kR183_9, kR183_21, kR183_26, kR183_27, kR183_30, kR183_31, kR183_33, kR183_34, kR183_36, kR183_37, kR183_38, kR183_39, kR183_40, kR183_41, kR183_42, kR183_43, kR183_44, kL184, kA184, kS184, kL185, kA185, kS185, kL186, kA186, kS186, kL187, kA187, kS187, kL188, kA188, kS188, kL189, kL190, kL191, kA191, kS191, kL192, kA192, kS192, kL193, kA193, kS193, kL194, kA194, kS194, kL195, kA195, kS195, kL196, kA196, kS196, kL197, kA197, kS197, kL198, kA198, kS198, kL199, kA199, kS199, kL200, kA200, kS200, kL201, kL202, kA202, kS202, kL203, kA203, kS203, kL204, kA204, kS204, kL205, kL206, kA206, kS206, h4, q1, hb, lt8_ok, hl, Bool.false_eq_true]
theorem spells_ok (hS : Shp σ) (hm : m ≤ 2000) (h4 : J 3 4 = nI m) {s e j : Nat} (hse : s ≤ e) (he : e ≤ m) (h8 : J 3 8 = nI s) (h9 : J 3 9 = nI e) (hl : ∀ k, s ≤ k → k < e → isLt (J 4 k) = true) (hj : j < 11) : f_X8_spells (xw σ J) 3 j = some (if wdM (J 4) s (e - s) j then 1 else 0) := by
  obtain ⟨t1, t2, t3, t4, t5⟩ := wd_tab j hj
  have hk : xsk j = some () := by unfold xsk; rw [if_pos hj]
  unfold f_X8_spells
  have q0 : (nI e - nI s = Int32.ofNat (xsl.getD j 0)) = (e - s = xsl.getD j 0) := by
    rw [nn_sub hse]
    exact nn_eq (by omega) (by omega)
  simp (disch := first | assumption | omega) only [Option.bind_some, Option.map_some, xw_gR, xw_gN, xw_al, xw_ck, xw_uI, xw_ur, xup_at, xur_at, if_true, if_false, reduceIte, and_true, true_and, and_false, false_and, not_true_eq_false, not_false_eq_true, Nat.reduceEqDiff, eq_self, Nat.reduceAdd, Nat.reduceMul, kC1, kG1, kP1, kR1_0, kR1_1, kR1_2, kR1_3, kR1_4, kR1_5, kR1_6, kR1_7, kR1_8, kR1_9, kR1_10, kR1_11, kR1_12, kR1_13, kC2, kG2, kP2, kR2_0, kR2_1, kC3, kG3, kP3, kR3_0, kR3_1, kR3_2, kR3_3, kL4, kA4, kS4, kL5, kA5, kS5, kL6, kA6, kS6, kL7, kA7, kS7, kC8, kG8, kP8, kR8_0, kR8_1, kL9, kA9, kS9, kL10, kA10, kS10, kC11, kG11, kP11, kR11_0, kR11_1, kR11_2, kR11_3, kL12, kA12, kS12, kL13, kA13, kS13, kL14, kA14, kS14, kL15, kA15, kS15, kC16, kG16, kP16, kR16_0, kR16_1, kL17, kA17, kS17, kL18, kA18, kS18, kC19, kG19, kP19, kR19_0, kL20, kL141, kL146, kA146, kS146, kL151, kA151, kS151, kL156, kA156, kS156, kC157, kG157, kP157, kR157_0, kR157_1, kL158, kA158, kS158, kL159, kA159, kS159, kC161, kG161, kP161, kR161_0, kR161_1, kL162, kA162, kS162, kL163, kA163, kS163, kC165, kG165, kP165, kR165_0, kR165_1, kR165_2, kR165_3, kL166, kA166, kS166, kL167, kA167, kS167, kL168, kA168, kS168, kL169, kA169, kS169, kC170, kG170, kP170, kR170_0, kR170_1, kR170_2, kL171, kA171, kS171, kL172, kA172, kS172, kL173, kA173, kS173, kC174, kG174, kP174, kR174_0, kR174_1, kR174_2, kR174_3, kR174_4, kL175, kA175, kS175, kL176, kA176, kS176, kL177, kA177, kS177, kL178, kA178, kS178, kL179, kC180, kG180, kP180, kL181, kL182, kA182, kS182, kC183, kG183, kP183, kR183_1, kR183_3, kR183_5, kR183_6, kR183_7, kR183_8, kR183_9, kR183_21, kR183_26, kR183_27, kR183_30, kR183_31, kR183_33, kR183_34, kR183_36, kR183_37, kR183_38, kR183_39, kR183_40, kR183_41, kR183_42, kR183_43, kR183_44, kL184, kA184, kS184, kL185, kA185, kS185, kL186, kA186, kS186, kL187, kA187, kS187, kL188, kA188, kS188, kL189, kL190, kL191, kA191, kS191, kL192, kA192, kS192, kL193, kA193, kS193, kL194, kA194, kS194, kL195, kA195, kS195, kL196, kA196, kS196, kL197, kA197, kS197, kL198, kA198, kS198, kL199, kA199, kS199, kL200, kA200, kS200, kL201, kL202, kA202, kS202, kL203, kA203, kS203, kL204, kA204, kS204, kL205, kL206, kA206, kS206, h9, h8, hk, q0]
  by_cases hlen : e - s = xsl.getD j 0
  · rw [if_pos hlen]
    have key := xallL (f := f_X8_spells_b20 (xw σ J) 3 j) (a0 := (0 : Int32)) (fun i : Nat => nI i) (xsl.getD j 0) (fun i => decide (lt1 (J 4 (s + i)) = wdW j i)) (bad := (0 : Int32)) (good := (1 : Int32)) rfl ?_ ?_ ?_
    · rw [key]
      unfold wdM
      rw [hlen, decide_eq_true rfl, Bool.true_and]
    · intro i hi hp
      have hb := byte8_ok (σ := σ) (J := J) hS hm h4 (show s + i < m by omega)
      have hc : xsc j (nI i) = some (nI (96 + wdW j i)) := by
        unfold xsc
        rw [nI_clamp (by omega), if_pos ⟨hj, fun z => z.elim (nI_pos (by omega)) (fun y => by omega)⟩, (t5 i hi).2.2]
      have hlt := isLt_b (hl (s + i) (by omega) (by omega))
      have e1 : J 4 (s + i) = nI (96 + wdW j i) := by
        have := of_decide_eq_true hp
        unfold lt1 at this
        rw [iI_n, iI_of (J 4 (s + i))]
        congr 1
        omega
      have q1 : (Int32.ofNat (xsl.getD j 0) ≤ nI i) = False := by
        have : (nI (xsl.getD j 0) ≤ nI i) = False := by rw [nn_le (by omega) (by omega)]; exact eq_false (by omega)
        exact this
      simp only [f_X8_spells_b20]
      simp (disch := first | assumption | omega) only [Option.bind_some, Option.map_some, xw_gR, xw_gN, xw_al, xw_ck, xw_uI, xw_ur, xup_at, xur_at, if_true, if_false, reduceIte, and_true, true_and, and_false, false_and, not_true_eq_false, not_false_eq_true, Nat.reduceEqDiff, eq_self, Nat.reduceAdd, Nat.reduceMul, kC1, kG1, kP1, kR1_0, kR1_1, kR1_2, kR1_3, kR1_4, kR1_5, kR1_6, kR1_7, kR1_8, kR1_9, kR1_10, kR1_11, kR1_12, kR1_13, kC2, kG2, kP2, kR2_0, kR2_1, kC3, kG3, kP3, kR3_0, kR3_1, kR3_2, kR3_3, kL4, kA4, kS4, kL5, kA5, kS5, kL6, kA6, kS6, kL7, kA7, kS7, kC8, kG8, kP8, kR8_0, kR8_1, kL9, kA9, kS9, kL10, kA10, kS10, kC11, kG11, kP11, kR11_0, kR11_1, kR11_2, kR11_3, kL12, kA12, kS12, kL13, kA13, kS13, kL14, kA14, kS14, kL15, kA15, kS15, kC16, kG16, kP16, kR16_0, kR16_1, kL17, kA17, kS17, kL18, kA18, kS18, kC19, kG19, kP19, kR19_0, kL20, kL141, kL146, kA146, kS146, kL151, kA151, kS151, kL156, kA156, kS156, kC157, kG157, kP157, kR157_0, kR157_1, kL158, kA158, kS158, kL159, kA159, kS159, kC161, kG161, kP161, kR161_0, kR161_1, kL162, kA162, kS162, kL163, kA163, kS163, kC165, kG165, kP165, kR165_0, kR165_1, kR165_2, kR165_3, kL166, kA166, kS166, kL167, kA167, kS167, kL168, kA168, kS168, kL169, kA169, kS169, kC170, kG170, kP170, kR170_0, kR170_1, kR170_2, kL171, kA171, kS171, kL172, kA172, kS172, kL173, kA173, kS173, kC174, kG174, kP174, kR174_0, kR174_1, kR174_2, kR174_3, kR174_4, kL175, kA175, kS175, kL176, kA176, kS176, kL177, kA177, kS177, kL178, kA178, kS178, kL179, kC180, kG180, kP180, kL181, kL182, kA182, kS182, kC183, kG183, kP183, kR183_1, kR183_3, kR183_5, kR183_6, kR183_7, kR183_8, kR183_9, kR183_21, kR183_26, kR183_27, kR183_30, kR183_31, kR183_33, kR183_34, kR183_36, kR183_37, kR183_38, kR183_39, kR183_40, kR183_41, kR183_42, kR183_43, kR183_44, kL184, kA184, kS184, kL185, kA185, kS185, kL186, kA186, kS186, kL187, kA187, kS187, kL188, kA188, kS188, kL189, kL190, kL191, kA191, kS191, kL192, kA192, kS192, kL193, kA193, kS193, kL194, kA194, kS194, kL195, kA195, kS195, kL196, kA196, kS196, kL197, kA197, kS197, kL198, kA198, kS198, kL199, kA199, kS199, kL200, kA200, kS200, kL201, kL202, kA202, kS202, kL203, kA203, kS203, kL204, kA204, kS204, kL205, kL206, kA206, kS206, hk, q1, h8, nn_add, hb, hc, e1]
      rw [nI_succ]
    · intro i hi hp
      have hb := byte8_ok (σ := σ) (J := J) hS hm h4 (show s + i < m by omega)
      have hc : xsc j (nI i) = some (nI (96 + wdW j i)) := by
        unfold xsc
        rw [nI_clamp (by omega), if_pos ⟨hj, fun z => z.elim (nI_pos (by omega)) (fun y => by omega)⟩, (t5 i hi).2.2]
      have hlt := isLt_b (hl (s + i) (by omega) (by omega))
      have h6 := (t5 i hi).2.1
      have e1 : (J 4 (s + i) = nI (96 + wdW j i)) = False := by
        apply eq_false
        intro z
        have hn := of_decide_eq_false hp
        apply hn
        unfold lt1
        rw [z, nI_toInt (by omega)]
        omega
      have q1 : (Int32.ofNat (xsl.getD j 0) ≤ nI i) = False := by
        have : (nI (xsl.getD j 0) ≤ nI i) = False := by rw [nn_le (by omega) (by omega)]; exact eq_false (by omega)
        exact this
      simp only [f_X8_spells_b20]
      simp (disch := first | assumption | omega) only [Option.bind_some, Option.map_some, xw_gR, xw_gN, xw_al, xw_ck, xw_uI, xw_ur, xup_at, xur_at, if_true, if_false, reduceIte, and_true, true_and, and_false, false_and, not_true_eq_false, not_false_eq_true, Nat.reduceEqDiff, eq_self, Nat.reduceAdd, Nat.reduceMul, kC1, kG1, kP1, kR1_0, kR1_1, kR1_2, kR1_3, kR1_4, kR1_5, kR1_6, kR1_7, kR1_8, kR1_9, kR1_10, kR1_11, kR1_12, kR1_13, kC2, kG2, kP2, kR2_0, kR2_1, kC3, kG3, kP3, kR3_0, kR3_1, kR3_2, kR3_3, kL4, kA4, kS4, kL5, kA5, kS5, kL6, kA6, kS6, kL7, kA7, kS7, kC8, kG8, kP8, kR8_0, kR8_1, kL9, kA9, kS9, kL10, kA10, kS10, kC11, kG11, kP11, kR11_0, kR11_1, kR11_2, kR11_3, kL12, kA12, kS12, kL13, kA13, kS13, kL14, kA14, kS14, kL15, kA15, kS15, kC16, kG16, kP16, kR16_0, kR16_1, kL17, kA17, kS17, kL18, kA18, kS18, kC19, kG19, kP19, kR19_0, kL20, kL141, kL146, kA146, kS146, kL151, kA151, kS151, kL156, kA156, kS156, kC157, kG157, kP157, kR157_0, kR157_1, kL158, kA158, kS158, kL159, kA159, kS159, kC161, kG161, kP161, kR161_0, kR161_1, kL162, kA162, kS162, kL163, kA163, kS163, kC165, kG165, kP165, kR165_0, kR165_1, kR165_2, kR165_3, kL166, kA166, kS166, kL167, kA167, kS167, kL168, kA168, kS168, kL169, kA169, kS169, kC170, kG170, kP170, kR170_0, kR170_1, kR170_2, kL171, kA171, kS171, kL172, kA172, kS172, kL173, kA173, kS173, kC174, kG174, kP174, kR174_0, kR174_1, kR174_2, kR174_3, kR174_4, kL175, kA175, kS175, kL176, kA176, kS176, kL177, kA177, kS177, kL178, kA178, kS178, kL179, kC180, kG180, kP180, kL181, kL182, kA182, kS182, kC183, kG183, kP183, kR183_1, kR183_3, kR183_5, kR183_6, kR183_7, kR183_8, kR183_9, kR183_21, kR183_26, kR183_27, kR183_30, kR183_31, kR183_33, kR183_34, kR183_36, kR183_37, kR183_38, kR183_39, kR183_40, kR183_41, kR183_42, kR183_43, kR183_44, kL184, kA184, kS184, kL185, kA185, kS185, kL186, kA186, kS186, kL187, kA187, kS187, kL188, kA188, kS188, kL189, kL190, kL191, kA191, kS191, kL192, kA192, kS192, kL193, kA193, kS193, kL194, kA194, kS194, kL195, kA195, kS195, kL196, kA196, kS196, kL197, kA197, kS197, kL198, kA198, kS198, kL199, kA199, kS199, kL200, kA200, kS200, kL201, kL202, kA202, kS202, kL203, kA203, kS203, kL204, kA204, kS204, kL205, kL206, kA206, kS206, hk, q1, h8, nn_add, hb, hc, e1]
    · have q1 : (Int32.ofNat (xsl.getD j 0) ≤ nI (xsl.getD j 0)) = True := by
        have : (nI (xsl.getD j 0) ≤ nI (xsl.getD j 0)) = True := by rw [nn_le (by omega) (by omega)]; exact eq_true (Nat.le_refl _)
        exact this
      simp only [f_X8_spells_b20]
      simp (disch := first | assumption | omega) only [Option.bind_some, Option.map_some, xw_gR, xw_gN, xw_al, xw_ck, xw_uI, xw_ur, xup_at, xur_at, if_true, if_false, reduceIte, and_true, true_and, and_false, false_and, not_true_eq_false, not_false_eq_true, Nat.reduceEqDiff, eq_self, Nat.reduceAdd, Nat.reduceMul, kC1, kG1, kP1, kR1_0, kR1_1, kR1_2, kR1_3, kR1_4, kR1_5, kR1_6, kR1_7, kR1_8, kR1_9, kR1_10, kR1_11, kR1_12, kR1_13, kC2, kG2, kP2, kR2_0, kR2_1, kC3, kG3, kP3, kR3_0, kR3_1, kR3_2, kR3_3, kL4, kA4, kS4, kL5, kA5, kS5, kL6, kA6, kS6, kL7, kA7, kS7, kC8, kG8, kP8, kR8_0, kR8_1, kL9, kA9, kS9, kL10, kA10, kS10, kC11, kG11, kP11, kR11_0, kR11_1, kR11_2, kR11_3, kL12, kA12, kS12, kL13, kA13, kS13, kL14, kA14, kS14, kL15, kA15, kS15, kC16, kG16, kP16, kR16_0, kR16_1, kL17, kA17, kS17, kL18, kA18, kS18, kC19, kG19, kP19, kR19_0, kL20, kL141, kL146, kA146, kS146, kL151, kA151, kS151, kL156, kA156, kS156, kC157, kG157, kP157, kR157_0, kR157_1, kL158, kA158, kS158, kL159, kA159, kS159, kC161, kG161, kP161, kR161_0, kR161_1, kL162, kA162, kS162, kL163, kA163, kS163, kC165, kG165, kP165, kR165_0, kR165_1, kR165_2, kR165_3, kL166, kA166, kS166, kL167, kA167, kS167, kL168, kA168, kS168, kL169, kA169, kS169, kC170, kG170, kP170, kR170_0, kR170_1, kR170_2, kL171, kA171, kS171, kL172, kA172, kS172, kL173, kA173, kS173, kC174, kG174, kP174, kR174_0, kR174_1, kR174_2, kR174_3, kR174_4, kL175, kA175, kS175, kL176, kA176, kS176, kL177, kA177, kS177, kL178, kA178, kS178, kL179, kC180, kG180, kP180, kL181, kL182, kA182, kS182, kC183, kG183, kP183, kR183_1, kR183_3, kR183_5, kR183_6, kR183_7, kR183_8, kR183_9, kR183_21, kR183_26, kR183_27, kR183_30, kR183_31, kR183_33, kR183_34, kR183_36, kR183_37, kR183_38, kR183_39, kR183_40, kR183_41, kR183_42, kR183_43, kR183_44, kL184, kA184, kS184, kL185, kA185, kS185, kL186, kA186, kS186, kL187, kA187, kS187, kL188, kA188, kS188, kL189, kL190, kL191, kA191, kS191, kL192, kA192, kS192, kL193, kA193, kS193, kL194, kA194, kS194, kL195, kA195, kS195, kL196, kA196, kS196, kL197, kA197, kS197, kL198, kA198, kS198, kL199, kA199, kS199, kL200, kA200, kS200, kL201, kL202, kA202, kS202, kL203, kA203, kS203, kL204, kA204, kS204, kL205, kL206, kA206, kS206, hk, q1]
  · rw [if_neg hlen]
    have : wdM (J 4) s (e - s) j = false := by
      unfold wdM
      rw [decide_eq_false hlen, Bool.false_and]
    rw [this]
    rfl
theorem wk_if (p : Nat → Bool) : wkF p 11 = if p 0 then 5 else if p 1 then 6 else if p 2 then 7 else if p 3 then 8 else if p 4 then 9 else if p 5 then 10 else if p 6 then 11 else if p 7 then 12 else if p 8 then 13 else if p 9 then 14 else if p 10 then 15 else 1 := rfl
theorem wk_step (hS : Shp σ) {j : Nat} {pj : Bool} (sp : f_X8_spells (xw σ J) 3 j = some (if pj then 1 else 0)) (A B : Option Int32) : ((xck (xw σ J) 3 8).bind fun _ => (f_X8_spells (xw σ J) 3 j).bind fun v => if v = 0 then A else B) = if pj = true then B else A := by
  rw [xw_ck, kC3 hS, Option.bind_some, sp, Option.bind_some]
  cases pj with
  | true => rfl
  | false => rfl
theorem wordKind_ok (hS : Shp σ) (hm : m ≤ 2000) (h4 : J 3 4 = nI m) {s e : Nat} (hse : s ≤ e) (he : e ≤ m) (h8 : J 3 8 = nI s) (h9 : J 3 9 = nI e) (hl : ∀ k, s ≤ k → k < e → isLt (J 4 k) = true) : f_X8_wordKind (xw σ J) 3 = some (nI (wdK (J 4) s (e - s))) := by
  have sp : ∀ j, j < 11 → f_X8_spells (xw σ J) 3 j = some (if wdM (J 4) s (e - s) j then 1 else 0) := fun j hj => spells_ok hS hm h4 hse he h8 h9 hl hj
  unfold wdK
  rw [wk_if]
  generalize wdM (J 4) s (e - s) = p at sp
  unfold f_X8_wordKind
  rw [wk_step hS (sp 0 (by omega)), wk_step hS (sp 1 (by omega)), wk_step hS (sp 2 (by omega)), wk_step hS (sp 3 (by omega)), wk_step hS (sp 4 (by omega)), wk_step hS (sp 5 (by omega)), wk_step hS (sp 6 (by omega)), wk_step hS (sp 7 (by omega)), wk_step hS (sp 8 (by omega)), wk_step hS (sp 9 (by omega)), wk_step hS (sp 10 (by omega))]
  cases p 0 with
  | true => rfl
  | false =>
    cases p 1 with
    | true => rfl
    | false =>
      cases p 2 with
      | true => rfl
      | false =>
        cases p 3 with
        | true => rfl
        | false =>
          cases p 4 with
          | true => rfl
          | false =>
            cases p 5 with
            | true => rfl
            | false =>
              cases p 6 with
              | true => rfl
              | false =>
                cases p 7 with
                | true => rfl
                | false =>
                  cases p 8 with
                  | true => rfl
                  | false =>
                    cases p 9 with
                    | true => rfl
                    | false =>
                      cases p 10 with
                      | true => rfl
                      | false => rfl
end FIND
end
section
/-! the class finds a number, a token -/
section FIND2
variable {σ : XS} {J : Nat → Nat → Int32} {m : Nat}
theorem dg_n {x : Int32} (h : isDg x = true) : x = nI x.toInt.toNat := by
  have := isDg_b h
  rw [iI_n, Int.toNat_of_nonneg (by omega)]
  exact iI_of x
theorem int57_2 (hS : Shp σ) (hm : m ≤ 2000) (h4 : J 3 4 = nI m) {s e : Nat} (hse : s ≤ e) (he : e ≤ m) (h8 : J 3 8 = nI s) (h9 : J 3 9 = nI e) (hd : ∀ k, s ≤ k → k < e → isDg (J 4 k) = true) (h5 : e - s ≤ 4) : f_X8_findInt_j57 (xw σ J) 3 3 (2 : Int32) = some (xw σ (xup (xup J 3 6 2) 3 7 (nI (nuV (J 4) s (e - s))))) := by
  unfold f_X8_findInt_j57
  simp (disch := first | assumption | omega) only [Option.bind_some, Option.map_some, xw_gR, xw_gN, xw_al, xw_ck, xw_uI, xw_ur, xup_at, xur_at, if_true, if_false, reduceIte, and_true, true_and, and_false, false_and, not_true_eq_false, not_false_eq_true, Nat.reduceEqDiff, eq_self, Nat.reduceAdd, Nat.reduceMul, kC1, kG1, kP1, kR1_0, kR1_1, kR1_2, kR1_3, kR1_4, kR1_5, kR1_6, kR1_7, kR1_8, kR1_9, kR1_10, kR1_11, kR1_12, kR1_13, kC2, kG2, kP2, kR2_0, kR2_1, kC3, kG3, kP3, kR3_0, kR3_1, kR3_2, kR3_3, kL4, kA4, kS4, kL5, kA5, kS5, kL6, kA6, kS6, kL7, kA7, kS7, kC8, kG8, kP8, kR8_0, kR8_1, kL9, kA9, kS9, kL10, kA10, kS10, kC11, kG11, kP11, kR11_0, kR11_1, kR11_2, kR11_3, kL12, kA12, kS12, kL13, kA13, kS13, kL14, kA14, kS14, kL15, kA15, kS15, kC16, kG16, kP16, kR16_0, kR16_1, kL17, kA17, kS17, kL18, kA18, kS18, kC19, kG19, kP19, kR19_0, kL20, kL141, kL146, kA146, kS146, kL151, kA151, kS151, kL156, kA156, kS156, kC157, kG157, kP157, kR157_0, kR157_1, kL158, kA158, kS158, kL159, kA159, kS159, kC161, kG161, kP161, kR161_0, kR161_1, kL162, kA162, kS162, kL163, kA163, kS163, kC165, kG165, kP165, kR165_0, kR165_1, kR165_2, kR165_3, kL166, kA166, kS166, kL167, kA167, kS167, kL168, kA168, kS168, kL169, kA169, kS169, kC170, kG170, kP170, kR170_0, kR170_1, kR170_2, kL171, kA171, kS171, kL172, kA172, kS172, kL173, kA173, kS173, kC174, kG174, kP174, kR174_0, kR174_1, kR174_2, kR174_3, kR174_4, kL175, kA175, kS175, kL176, kA176, kS176, kL177, kA177, kS177, kL178, kA178, kS178, kL179, kC180, kG180, kP180, kL181, kL182, kA182, kS182, kC183, kG183, kP183, kR183_1, kR183_3, kR183_5, kR183_6, kR183_7, kR183_8, kR183_9, kR183_21, kR183_26, kR183_27, kR183_30, kR183_31, kR183_33, kR183_34, kR183_36, kR183_37, kR183_38, kR183_39, kR183_40, kR183_41, kR183_42, kR183_43, kR183_44, kL184, kA184, kS184, kL185, kA185, kS185, kL186, kA186, kS186, kL187, kA187, kS187, kL188, kA188, kS188, kL189, kL190, kL191, kA191, kS191, kL192, kA192, kS192, kL193, kA193, kS193, kL194, kA194, kS194, kL195, kA195, kS195, kL196, kA196, kS196, kL197, kA197, kS197, kL198, kA198, kS198, kL199, kA199, kS199, kL200, kA200, kS200, kL201, kL202, kA202, kS202, kL203, kA203, kS203, kL204, kA204, kS204, kL205, kL206, kA206, kS206, h8]
  refine xforE (fun i : Nat => (nI (s + i), xw σ (xup (xup J 3 6 2) 3 7 (nI (nuV (J 4) s i))))) (e - s) rfl (fun i hi => ?_) ?_
  · have hb := byte8_ok (σ := σ) (J := xup (xup J 3 6 2) 3 7 (nI (nuV (J 4) s i))) hS hm (by rw [xup_at, if_neg (by omega), xup_at, if_neg (by omega)]; exact h4) (show s + i < m by omega)
    have hr : xup (xup J 3 6 2) 3 7 (nI (nuV (J 4) s i)) 4 (s + i) = J 4 (s + i) := by rw [xup_at, if_neg (by omega), xup_at, if_neg (by omega)]
    have hdi := hd (s + i) (by omega) (by omega)
    have hdb := isDg_b hdi
    have hnu := nuV_b (b := J 4) (s := s) i (fun k hk => hd (s + k) (by omega) (by omega))
    have hp : 10 ^ i ≤ 10 ^ 4 := Nat.pow_le_pow_right (by decide) (by omega)
    rw [hr] at hb
    have q1 : (nI e ≤ nI (s + i)) = False := by rw [nn_le (by omega) (by omega)]; exact eq_false (by omega)
    have ar : nI (nuV (J 4) s i) * (10 : Int32) + J 4 (s + i) - (48 : Int32) = nI (nuV (J 4) s (i + 1)) := by
      rw [dg_n hdi, show (10 : Int32) = nI 10 from rfl, nn_mul, nn_add, show (48 : Int32) = nI 48 from rfl, nn_sub (by omega)]
      congr 1
      show _ = 10 * nuV (J 4) s i + ((J 4 (s + i)).toInt.toNat - 48)
      omega
    simp only [f_X8_findInt_b70]
    simp (disch := first | assumption | omega) only [Option.bind_some, Option.map_some, xw_gR, xw_gN, xw_al, xw_ck, xw_uI, xw_ur, xup_at, xur_at, if_true, if_false, reduceIte, and_true, true_and, and_false, false_and, not_true_eq_false, not_false_eq_true, Nat.reduceEqDiff, eq_self, Nat.reduceAdd, Nat.reduceMul, kC1, kG1, kP1, kR1_0, kR1_1, kR1_2, kR1_3, kR1_4, kR1_5, kR1_6, kR1_7, kR1_8, kR1_9, kR1_10, kR1_11, kR1_12, kR1_13, kC2, kG2, kP2, kR2_0, kR2_1, kC3, kG3, kP3, kR3_0, kR3_1, kR3_2, kR3_3, kL4, kA4, kS4, kL5, kA5, kS5, kL6, kA6, kS6, kL7, kA7, kS7, kC8, kG8, kP8, kR8_0, kR8_1, kL9, kA9, kS9, kL10, kA10, kS10, kC11, kG11, kP11, kR11_0, kR11_1, kR11_2, kR11_3, kL12, kA12, kS12, kL13, kA13, kS13, kL14, kA14, kS14, kL15, kA15, kS15, kC16, kG16, kP16, kR16_0, kR16_1, kL17, kA17, kS17, kL18, kA18, kS18, kC19, kG19, kP19, kR19_0, kL20, kL141, kL146, kA146, kS146, kL151, kA151, kS151, kL156, kA156, kS156, kC157, kG157, kP157, kR157_0, kR157_1, kL158, kA158, kS158, kL159, kA159, kS159, kC161, kG161, kP161, kR161_0, kR161_1, kL162, kA162, kS162, kL163, kA163, kS163, kC165, kG165, kP165, kR165_0, kR165_1, kR165_2, kR165_3, kL166, kA166, kS166, kL167, kA167, kS167, kL168, kA168, kS168, kL169, kA169, kS169, kC170, kG170, kP170, kR170_0, kR170_1, kR170_2, kL171, kA171, kS171, kL172, kA172, kS172, kL173, kA173, kS173, kC174, kG174, kP174, kR174_0, kR174_1, kR174_2, kR174_3, kR174_4, kL175, kA175, kS175, kL176, kA176, kS176, kL177, kA177, kS177, kL178, kA178, kS178, kL179, kC180, kG180, kP180, kL181, kL182, kA182, kS182, kC183, kG183, kP183, kR183_1, kR183_3, kR183_5, kR183_6, kR183_7, kR183_8, kR183_9, kR183_21, kR183_26, kR183_27, kR183_30, kR183_31, kR183_33, kR183_34, kR183_36, kR183_37, kR183_38, kR183_39, kR183_40, kR183_41, kR183_42, kR183_43, kR183_44, kL184, kA184, kS184, kL185, kA185, kS185, kL186, kA186, kS186, kL187, kA187, kS187, kL188, kA188, kS188, kL189, kL190, kL191, kA191, kS191, kL192, kA192, kS192, kL193, kA193, kS193, kL194, kA194, kS194, kL195, kA195, kS195, kL196, kA196, kS196, kL197, kA197, kS197, kL198, kA198, kS198, kL199, kA199, kS199, kL200, kA200, kS200, kL201, kL202, kA202, kS202, kL203, kA203, kS203, kL204, kA204, kS204, kL205, kL206, kA206, kS206, h9, q1, hb, ar]
    rw [xup2, ← nI_succ]
    rfl
  · have e1 : nI (s + (e - s)) = nI e := by congr 1; omega
    have q1 : (nI e ≤ nI e) = True := by rw [nn_le (by omega) (by omega)]; exact eq_true (Nat.le_refl _)
    simp only [f_X8_findInt_b70, e1]
    simp (disch := first | assumption | omega) only [Option.bind_some, Option.map_some, xw_gR, xw_gN, xw_al, xw_ck, xw_uI, xw_ur, xup_at, xur_at, if_true, if_false, reduceIte, and_true, true_and, and_false, false_and, not_true_eq_false, not_false_eq_true, Nat.reduceEqDiff, eq_self, Nat.reduceAdd, Nat.reduceMul, kC1, kG1, kP1, kR1_0, kR1_1, kR1_2, kR1_3, kR1_4, kR1_5, kR1_6, kR1_7, kR1_8, kR1_9, kR1_10, kR1_11, kR1_12, kR1_13, kC2, kG2, kP2, kR2_0, kR2_1, kC3, kG3, kP3, kR3_0, kR3_1, kR3_2, kR3_3, kL4, kA4, kS4, kL5, kA5, kS5, kL6, kA6, kS6, kL7, kA7, kS7, kC8, kG8, kP8, kR8_0, kR8_1, kL9, kA9, kS9, kL10, kA10, kS10, kC11, kG11, kP11, kR11_0, kR11_1, kR11_2, kR11_3, kL12, kA12, kS12, kL13, kA13, kS13, kL14, kA14, kS14, kL15, kA15, kS15, kC16, kG16, kP16, kR16_0, kR16_1, kL17, kA17, kS17, kL18, kA18, kS18, kC19, kG19, kP19, kR19_0, kL20, kL141, kL146, kA146, kS146, kL151, kA151, kS151, kL156, kA156, kS156, kC157, kG157, kP157, kR157_0, kR157_1, kL158, kA158, kS158, kL159, kA159, kS159, kC161, kG161, kP161, kR161_0, kR161_1, kL162, kA162, kS162, kL163, kA163, kS163, kC165, kG165, kP165, kR165_0, kR165_1, kR165_2, kR165_3, kL166, kA166, kS166, kL167, kA167, kS167, kL168, kA168, kS168, kL169, kA169, kS169, kC170, kG170, kP170, kR170_0, kR170_1, kR170_2, kL171, kA171, kS171, kL172, kA172, kS172, kL173, kA173, kS173, kC174, kG174, kP174, kR174_0, kR174_1, kR174_2, kR174_3, kR174_4, kL175, kA175, kS175, kL176, kA176, kS176, kL177, kA177, kS177, kL178, kA178, kS178, kL179, kC180, kG180, kP180, kL181, kL182, kA182, kS182, kC183, kG183, kP183, kR183_1, kR183_3, kR183_5, kR183_6, kR183_7, kR183_8, kR183_9, kR183_21, kR183_26, kR183_27, kR183_30, kR183_31, kR183_33, kR183_34, kR183_36, kR183_37, kR183_38, kR183_39, kR183_40, kR183_41, kR183_42, kR183_43, kR183_44, kL184, kA184, kS184, kL185, kA185, kS185, kL186, kA186, kS186, kL187, kA187, kS187, kL188, kA188, kS188, kL189, kL190, kL191, kA191, kS191, kL192, kA192, kS192, kL193, kA193, kS193, kL194, kA194, kS194, kL195, kA195, kS195, kL196, kA196, kS196, kL197, kA197, kS197, kL198, kA198, kS198, kL199, kA199, kS199, kL200, kA200, kS200, kL201, kL202, kA202, kS202, kL203, kA203, kS203, kL204, kA204, kS204, kL205, kL206, kA206, kS206, h9, q1]
theorem int57_1 (hS : Shp σ) {s : Nat} (h8 : J 3 8 = nI s) : f_X8_findInt_j57 (xw σ J) 3 3 (1 : Int32) = some (xw σ (xup (xup J 3 6 1) 3 7 0)) := by
  unfold f_X8_findInt_j57
  simp (disch := first | assumption | omega) only [Option.bind_some, Option.map_some, xw_gR, xw_gN, xw_al, xw_ck, xw_uI, xw_ur, xup_at, xur_at, if_true, if_false, reduceIte, and_true, true_and, and_false, false_and, not_true_eq_false, not_false_eq_true, Nat.reduceEqDiff, eq_self, Nat.reduceAdd, Nat.reduceMul, kC1, kG1, kP1, kR1_0, kR1_1, kR1_2, kR1_3, kR1_4, kR1_5, kR1_6, kR1_7, kR1_8, kR1_9, kR1_10, kR1_11, kR1_12, kR1_13, kC2, kG2, kP2, kR2_0, kR2_1, kC3, kG3, kP3, kR3_0, kR3_1, kR3_2, kR3_3, kL4, kA4, kS4, kL5, kA5, kS5, kL6, kA6, kS6, kL7, kA7, kS7, kC8, kG8, kP8, kR8_0, kR8_1, kL9, kA9, kS9, kL10, kA10, kS10, kC11, kG11, kP11, kR11_0, kR11_1, kR11_2, kR11_3, kL12, kA12, kS12, kL13, kA13, kS13, kL14, kA14, kS14, kL15, kA15, kS15, kC16, kG16, kP16, kR16_0, kR16_1, kL17, kA17, kS17, kL18, kA18, kS18, kC19, kG19, kP19, kR19_0, kL20, kL141, kL146, kA146, kS146, kL151, kA151, kS151, kL156, kA156, kS156, kC157, kG157, kP157, kR157_0, kR157_1, kL158, kA158, kS158, kL159, kA159, kS159, kC161, kG161, kP161, kR161_0, kR161_1, kL162, kA162, kS162, kL163, kA163, kS163, kC165, kG165, kP165, kR165_0, kR165_1, kR165_2, kR165_3, kL166, kA166, kS166, kL167, kA167, kS167, kL168, kA168, kS168, kL169, kA169, kS169, kC170, kG170, kP170, kR170_0, kR170_1, kR170_2, kL171, kA171, kS171, kL172, kA172, kS172, kL173, kA173, kS173, kC174, kG174, kP174, kR174_0, kR174_1, kR174_2, kR174_3, kR174_4, kL175, kA175, kS175, kL176, kA176, kS176, kL177, kA177, kS177, kL178, kA178, kS178, kL179, kC180, kG180, kP180, kL181, kL182, kA182, kS182, kC183, kG183, kP183, kR183_1, kR183_3, kR183_5, kR183_6, kR183_7, kR183_8, kR183_9, kR183_21, kR183_26, kR183_27, kR183_30, kR183_31, kR183_33, kR183_34, kR183_36, kR183_37, kR183_38, kR183_39, kR183_40, kR183_41, kR183_42, kR183_43, kR183_44, kL184, kA184, kS184, kL185, kA185, kS185, kL186, kA186, kS186, kL187, kA187, kS187, kL188, kA188, kS188, kL189, kL190, kL191, kA191, kS191, kL192, kA192, kS192, kL193, kA193, kS193, kL194, kA194, kS194, kL195, kA195, kS195, kL196, kA196, kS196, kL197, kA197, kS197, kL198, kA198, kS198, kL199, kA199, kS199, kL200, kA200, kS200, kL201, kL202, kA202, kS202, kL203, kA203, kS203, kL204, kA204, kS204, kL205, kL206, kA206, kS206, h8]
  refine xloop_end ?_
  simp only [f_X8_findInt_b70]
  have q : ((1 : Int32) = 2) = False := eq_false (by decide)
  simp (disch := first | assumption | omega) only [Option.bind_some, Option.map_some, xw_gR, xw_gN, xw_al, xw_ck, xw_uI, xw_ur, xup_at, xur_at, if_true, if_false, reduceIte, and_true, true_and, and_false, false_and, not_true_eq_false, not_false_eq_true, Nat.reduceEqDiff, eq_self, Nat.reduceAdd, Nat.reduceMul, kC1, kG1, kP1, kR1_0, kR1_1, kR1_2, kR1_3, kR1_4, kR1_5, kR1_6, kR1_7, kR1_8, kR1_9, kR1_10, kR1_11, kR1_12, kR1_13, kC2, kG2, kP2, kR2_0, kR2_1, kC3, kG3, kP3, kR3_0, kR3_1, kR3_2, kR3_3, kL4, kA4, kS4, kL5, kA5, kS5, kL6, kA6, kS6, kL7, kA7, kS7, kC8, kG8, kP8, kR8_0, kR8_1, kL9, kA9, kS9, kL10, kA10, kS10, kC11, kG11, kP11, kR11_0, kR11_1, kR11_2, kR11_3, kL12, kA12, kS12, kL13, kA13, kS13, kL14, kA14, kS14, kL15, kA15, kS15, kC16, kG16, kP16, kR16_0, kR16_1, kL17, kA17, kS17, kL18, kA18, kS18, kC19, kG19, kP19, kR19_0, kL20, kL141, kL146, kA146, kS146, kL151, kA151, kS151, kL156, kA156, kS156, kC157, kG157, kP157, kR157_0, kR157_1, kL158, kA158, kS158, kL159, kA159, kS159, kC161, kG161, kP161, kR161_0, kR161_1, kL162, kA162, kS162, kL163, kA163, kS163, kC165, kG165, kP165, kR165_0, kR165_1, kR165_2, kR165_3, kL166, kA166, kS166, kL167, kA167, kS167, kL168, kA168, kS168, kL169, kA169, kS169, kC170, kG170, kP170, kR170_0, kR170_1, kR170_2, kL171, kA171, kS171, kL172, kA172, kS172, kL173, kA173, kS173, kC174, kG174, kP174, kR174_0, kR174_1, kR174_2, kR174_3, kR174_4, kL175, kA175, kS175, kL176, kA176, kS176, kL177, kA177, kS177, kL178, kA178, kS178, kL179, kC180, kG180, kP180, kL181, kL182, kA182, kS182, kC183, kG183, kP183, kR183_1, kR183_3, kR183_5, kR183_6, kR183_7, kR183_8, kR183_9, kR183_21, kR183_26, kR183_27, kR183_30, kR183_31, kR183_33, kR183_34, kR183_36, kR183_37, kR183_38, kR183_39, kR183_40, kR183_41, kR183_42, kR183_43, kR183_44, kL184, kA184, kS184, kL185, kA185, kS185, kL186, kA186, kS186, kL187, kA187, kS187, kL188, kA188, kS188, kL189, kL190, kL191, kA191, kS191, kL192, kA192, kS192, kL193, kA193, kS193, kL194, kA194, kS194, kL195, kA195, kS195, kL196, kA196, kS196, kL197, kA197, kS197, kL198, kA198, kS198, kL199, kA199, kS199, kL200, kA200, kS200, kL201, kL202, kA202, kS202, kL203, kA203, kS203, kL204, kA204, kS204, kL205, kL206, kA206, kS206, q]
theorem findInt_ok (hS : Shp σ) (hm : m ≤ 2000) (h4 : J 3 4 = nI m) {s : Nat} (hs : s < m) (h8 : J 3 8 = nI s) (h9 : J 3 9 = nI (s + 1)) (hd : isDg (J 4 s) = true) : ∃ J', f_X8_findInt (xw σ J) 3 = some (xw σ J') ∧ J' 3 9 = nI (nxP isDg (J 4) m s) ∧ J' 3 6 = nI (if nxP isDg (J 4) m s - s ≤ 4 then 2 else 1) ∧ (nxP isDg (J 4) m s - s ≤ 4 → J' 3 7 = nI (nuV (J 4) s (nxP isDg (J 4) m s - s))) ∧ ∀ a q, ¬ (a = 3 ∧ (q = 6 ∨ q = 7 ∨ q = 9)) → J' a q = J a q := by
  have est := nxP_step (q := isDg) (b := J 4) hs hd
  have hge := nxP_ge (q := isDg) (b := J 4) (m := m) (p := s + 1)
  have hle := nxP_le (q := isDg) (b := J 4) (show s + 1 ≤ m by omega)
  obtain ⟨e, he⟩ : ∃ e, e = nxP isDg (J 4) m s := ⟨_, rfl⟩
  have hall : ∀ k, s ≤ k → k < e → isDg (J 4 k) = true := fun k h1 h2 => nxP_in (q := isDg) (b := J 4) (m := m) (p := s) h1 (by omega)
  rw [est] at hge hle
  rw [← he] at hge hle ⊢
  have fin : ∃ J', f_X8_findInt_j38 (xw σ (xup J 3 9 (nI e))) 3 = some (xw σ J') ∧ J' 3 9 = nI e ∧ J' 3 6 = nI (if e - s ≤ 4 then 2 else 1) ∧ (e - s ≤ 4 → J' 3 7 = nI (nuV (J 4) s (e - s))) ∧ ∀ a q, ¬ (a = 3 ∧ (q = 6 ∨ q = 7 ∨ q = 9)) → J' a q = J a q := by
    have q4 : ((4 : Int32) < nI e - nI s) = (4 < e - s) := by
      rw [nn_sub (by omega), show (4 : Int32) = nI 4 from rfl, nn_lt (by omega) (by omega)]
    have u8 : xup J 3 9 (nI e) 3 8 = nI s := by rw [xup_at, if_neg (by omega)]; exact h8
    have u9 : xup J 3 9 (nI e) 3 9 = nI e := by rw [xup_at, if_pos ⟨rfl, rfl⟩]
    have u4 : xup J 3 9 (nI e) 3 4 = nI m := by rw [xup_at, if_neg (by omega)]; exact h4
    have u3 : xup J 3 9 (nI e) 4 = J 4 := by funext k; rw [xup_at, if_neg (by omega)]
    by_cases h5 : e - s ≤ 4
    · have j := int57_2 (σ := σ) (J := xup J 3 9 (nI e)) hS hm u4 (by omega) hle u8 u9 (by rw [u3]; exact hall) h5
      rw [u3] at j
      refine ⟨xup (xup (xup J 3 9 (nI e)) 3 6 2) 3 7 (nI (nuV (J 4) s (e - s))), ?_, ?_, ?_, fun _ => ?_, fun a q hq => ?_⟩
      · unfold f_X8_findInt_j38
        have q5 : ¬ (4 < e - s) := by omega
        simp (disch := first | assumption | omega) only [Option.bind_some, Option.map_some, xw_gR, xw_gN, xw_al, xw_ck, xw_uI, xw_ur, xup_at, xur_at, if_true, if_false, reduceIte, and_true, true_and, and_false, false_and, not_true_eq_false, not_false_eq_true, Nat.reduceEqDiff, eq_self, Nat.reduceAdd, Nat.reduceMul, kC1, kG1, kP1, kR1_0, kR1_1, kR1_2, kR1_3, kR1_4, kR1_5, kR1_6, kR1_7, kR1_8, kR1_9, kR1_10, kR1_11, kR1_12, kR1_13, kC2, kG2, kP2, kR2_0, kR2_1, kC3, kG3, kP3, kR3_0, kR3_1, kR3_2, kR3_3, kL4, kA4, kS4, kL5, kA5, kS5, kL6, kA6, kS6, kL7, kA7, kS7, kC8, kG8, kP8, kR8_0, kR8_1, kL9, kA9, kS9, kL10, kA10, kS10, kC11, kG11, kP11, kR11_0, kR11_1, kR11_2, kR11_3, kL12, kA12, kS12, kL13, kA13, kS13, kL14, kA14, kS14, kL15, kA15, kS15, kC16, kG16, kP16, kR16_0, kR16_1, kL17, kA17, kS17, kL18, kA18, kS18, kC19, kG19, kP19, kR19_0, kL20, kL141, kL146, kA146, kS146, kL151, kA151, kS151, kL156, kA156, kS156, kC157, kG157, kP157, kR157_0, kR157_1, kL158, kA158, kS158, kL159, kA159, kS159, kC161, kG161, kP161, kR161_0, kR161_1, kL162, kA162, kS162, kL163, kA163, kS163, kC165, kG165, kP165, kR165_0, kR165_1, kR165_2, kR165_3, kL166, kA166, kS166, kL167, kA167, kS167, kL168, kA168, kS168, kL169, kA169, kS169, kC170, kG170, kP170, kR170_0, kR170_1, kR170_2, kL171, kA171, kS171, kL172, kA172, kS172, kL173, kA173, kS173, kC174, kG174, kP174, kR174_0, kR174_1, kR174_2, kR174_3, kR174_4, kL175, kA175, kS175, kL176, kA176, kS176, kL177, kA177, kS177, kL178, kA178, kS178, kL179, kC180, kG180, kP180, kL181, kL182, kA182, kS182, kC183, kG183, kP183, kR183_1, kR183_3, kR183_5, kR183_6, kR183_7, kR183_8, kR183_9, kR183_21, kR183_26, kR183_27, kR183_30, kR183_31, kR183_33, kR183_34, kR183_36, kR183_37, kR183_38, kR183_39, kR183_40, kR183_41, kR183_42, kR183_43, kR183_44, kL184, kA184, kS184, kL185, kA185, kS185, kL186, kA186, kS186, kL187, kA187, kS187, kL188, kA188, kS188, kL189, kL190, kL191, kA191, kS191, kL192, kA192, kS192, kL193, kA193, kS193, kL194, kA194, kS194, kL195, kA195, kS195, kL196, kA196, kS196, kL197, kA197, kS197, kL198, kA198, kS198, kL199, kA199, kS199, kL200, kA200, kS200, kL201, kL202, kA202, kS202, kL203, kA203, kS203, kL204, kA204, kS204, kL205, kL206, kA206, kS206, h8, q4, q5]
        exact j
      · rw [xup_at, if_neg (by omega), xup_at, if_neg (by omega)]; exact u9
      · rw [xup_at, if_neg (by omega), xup_at, if_pos ⟨rfl, rfl⟩, if_pos h5]; rfl
      · rw [xup_at, if_pos ⟨rfl, rfl⟩]
      · rw [xup_at, if_neg (by omega), xup_at, if_neg (by omega), xup_at, if_neg (by omega)]
    · have j := int57_1 (σ := σ) (J := xup J 3 9 (nI e)) hS u8
      refine ⟨xup (xup (xup J 3 9 (nI e)) 3 6 1) 3 7 0, ?_, ?_, ?_, fun z => absurd z h5, fun a q hq => ?_⟩
      · unfold f_X8_findInt_j38
        have q5 : 4 < e - s := by omega
        simp (disch := first | assumption | omega) only [Option.bind_some, Option.map_some, xw_gR, xw_gN, xw_al, xw_ck, xw_uI, xw_ur, xup_at, xur_at, if_true, if_false, reduceIte, and_true, true_and, and_false, false_and, not_true_eq_false, not_false_eq_true, Nat.reduceEqDiff, eq_self, Nat.reduceAdd, Nat.reduceMul, kC1, kG1, kP1, kR1_0, kR1_1, kR1_2, kR1_3, kR1_4, kR1_5, kR1_6, kR1_7, kR1_8, kR1_9, kR1_10, kR1_11, kR1_12, kR1_13, kC2, kG2, kP2, kR2_0, kR2_1, kC3, kG3, kP3, kR3_0, kR3_1, kR3_2, kR3_3, kL4, kA4, kS4, kL5, kA5, kS5, kL6, kA6, kS6, kL7, kA7, kS7, kC8, kG8, kP8, kR8_0, kR8_1, kL9, kA9, kS9, kL10, kA10, kS10, kC11, kG11, kP11, kR11_0, kR11_1, kR11_2, kR11_3, kL12, kA12, kS12, kL13, kA13, kS13, kL14, kA14, kS14, kL15, kA15, kS15, kC16, kG16, kP16, kR16_0, kR16_1, kL17, kA17, kS17, kL18, kA18, kS18, kC19, kG19, kP19, kR19_0, kL20, kL141, kL146, kA146, kS146, kL151, kA151, kS151, kL156, kA156, kS156, kC157, kG157, kP157, kR157_0, kR157_1, kL158, kA158, kS158, kL159, kA159, kS159, kC161, kG161, kP161, kR161_0, kR161_1, kL162, kA162, kS162, kL163, kA163, kS163, kC165, kG165, kP165, kR165_0, kR165_1, kR165_2, kR165_3, kL166, kA166, kS166, kL167, kA167, kS167, kL168, kA168, kS168, kL169, kA169, kS169, kC170, kG170, kP170, kR170_0, kR170_1, kR170_2, kL171, kA171, kS171, kL172, kA172, kS172, kL173, kA173, kS173, kC174, kG174, kP174, kR174_0, kR174_1, kR174_2, kR174_3, kR174_4, kL175, kA175, kS175, kL176, kA176, kS176, kL177, kA177, kS177, kL178, kA178, kS178, kL179, kC180, kG180, kP180, kL181, kL182, kA182, kS182, kC183, kG183, kP183, kR183_1, kR183_3, kR183_5, kR183_6, kR183_7, kR183_8, kR183_9, kR183_21, kR183_26, kR183_27, kR183_30, kR183_31, kR183_33, kR183_34, kR183_36, kR183_37, kR183_38, kR183_39, kR183_40, kR183_41, kR183_42, kR183_43, kR183_44, kL184, kA184, kS184, kL185, kA185, kS185, kL186, kA186, kS186, kL187, kA187, kS187, kL188, kA188, kS188, kL189, kL190, kL191, kA191, kS191, kL192, kA192, kS192, kL193, kA193, kS193, kL194, kA194, kS194, kL195, kA195, kS195, kL196, kA196, kS196, kL197, kA197, kS197, kL198, kA198, kS198, kL199, kA199, kS199, kL200, kA200, kS200, kL201, kL202, kA202, kS202, kL203, kA203, kS203, kL204, kA204, kS204, kL205, kL206, kA206, kS206, h8, q4, q5]
        exact j
      · rw [xup_at, if_neg (by omega), xup_at, if_neg (by omega)]; exact u9
      · rw [xup_at, if_neg (by omega), xup_at, if_pos ⟨rfl, rfl⟩, if_neg h5]; rfl
      · rw [xup_at, if_neg (by omega), xup_at, if_neg (by omega), xup_at, if_neg (by omega)]
  obtain ⟨J', j1, rest⟩ := fin
  refine ⟨J', ?_, rest⟩
  unfold f_X8_findInt
  have e0 : xup J 3 9 (nI (s + 1)) = J := by
    funext c k
    rw [xup_at]
    by_cases z : c = 3 ∧ k = 9
    · rw [if_pos z, z.1, z.2]; exact h9.symm
    · rw [if_neg z]
  have ends : nI (s + 1 + (e - (s + 1))) = nI e := by congr 1; omega
  refine xforE (fun i : Nat => xw σ (xup J 3 9 (nI (s + 1 + i)))) (e - (s + 1)) ?_ (fun i hi => ?_) ?_
  · show xw σ J = xw σ (xup J 3 9 (nI (s + 1 + 0)))
    rw [Nat.add_zero, e0]
  · have hb := byte8_ok (σ := σ) (J := xup J 3 9 (nI (s + 1 + i))) hS hm (by rw [xup_at, if_neg (by omega)]; exact h4) (show s + 1 + i < m by omega)
    have hr : xup J 3 9 (nI (s + 1 + i)) 4 (s + 1 + i) = J 4 (s + 1 + i) := by rw [xup_at, if_neg (by omega)]
    have hl := hall (s + 1 + i) (by omega) (by omega)
    rw [hr] at hb
    have q1 : (nI m ≤ nI (s + 1 + i)) = False := by rw [nn_le (by omega) (by omega)]; exact eq_false (by omega)
    simp only [f_X8_findInt_b0]
    simp (disch := first | assumption | omega) only [Option.bind_some, Option.map_some, xw_gR, xw_gN, xw_al, xw_ck, xw_uI, xw_ur, xup_at, xur_at, if_true, if_false, reduceIte, and_true, true_and, and_false, false_and, not_true_eq_false, not_false_eq_true, Nat.reduceEqDiff, eq_self, Nat.reduceAdd, Nat.reduceMul, kC1, kG1, kP1, kR1_0, kR1_1, kR1_2, kR1_3, kR1_4, kR1_5, kR1_6, kR1_7, kR1_8, kR1_9, kR1_10, kR1_11, kR1_12, kR1_13, kC2, kG2, kP2, kR2_0, kR2_1, kC3, kG3, kP3, kR3_0, kR3_1, kR3_2, kR3_3, kL4, kA4, kS4, kL5, kA5, kS5, kL6, kA6, kS6, kL7, kA7, kS7, kC8, kG8, kP8, kR8_0, kR8_1, kL9, kA9, kS9, kL10, kA10, kS10, kC11, kG11, kP11, kR11_0, kR11_1, kR11_2, kR11_3, kL12, kA12, kS12, kL13, kA13, kS13, kL14, kA14, kS14, kL15, kA15, kS15, kC16, kG16, kP16, kR16_0, kR16_1, kL17, kA17, kS17, kL18, kA18, kS18, kC19, kG19, kP19, kR19_0, kL20, kL141, kL146, kA146, kS146, kL151, kA151, kS151, kL156, kA156, kS156, kC157, kG157, kP157, kR157_0, kR157_1, kL158, kA158, kS158, kL159, kA159, kS159, kC161, kG161, kP161, kR161_0, kR161_1, kL162, kA162, kS162, kL163, kA163, kS163, kC165, kG165, kP165, kR165_0, kR165_1, kR165_2, kR165_3, kL166, kA166, kS166, kL167, kA167, kS167, kL168, kA168, kS168, kL169, kA169, kS169, kC170, kG170, kP170, kR170_0, kR170_1, kR170_2, kL171, kA171, kS171, kL172, kA172, kS172, kL173, kA173, kS173, kC174, kG174, kP174, kR174_0, kR174_1, kR174_2, kR174_3, kR174_4, kL175, kA175, kS175, kL176, kA176, kS176, kL177, kA177, kS177, kL178, kA178, kS178, kL179, kC180, kG180, kP180, kL181, kL182, kA182, kS182, kC183, kG183, kP183, kR183_1, kR183_3, kR183_5, kR183_6, kR183_7, kR183_8, kR183_9, kR183_21, kR183_26, kR183_27, kR183_30, kR183_31, kR183_33, kR183_34, kR183_36, kR183_37, kR183_38, kR183_39, kR183_40, kR183_41, kR183_42, kR183_43, kR183_44, kL184, kA184, kS184, kL185, kA185, kS185, kL186, kA186, kS186, kL187, kA187, kS187, kL188, kA188, kS188, kL189, kL190, kL191, kA191, kS191, kL192, kA192, kS192, kL193, kA193, kS193, kL194, kA194, kS194, kL195, kA195, kS195, kL196, kA196, kS196, kL197, kA197, kS197, kL198, kA198, kS198, kL199, kA199, kS199, kL200, kA200, kS200, kL201, kL202, kA202, kS202, kL203, kA203, kS203, kL204, kA204, kS204, kL205, kL206, kA206, kS206, h4, q1, hb, dg8_ok, hl, one0]
    rw [← nI_succ, xup2]
    rfl
  · rw [ends]
    by_cases z : e = m
    · have q1 : (nI m ≤ nI e) = True := by rw [nn_le (by omega) (by omega)]; exact eq_true (by omega)
      simp only [f_X8_findInt_b0]
      simp (disch := first | assumption | omega) only [Option.bind_some, Option.map_some, xw_gR, xw_gN, xw_al, xw_ck, xw_uI, xw_ur, xup_at, xur_at, if_true, if_false, reduceIte, and_true, true_and, and_false, false_and, not_true_eq_false, not_false_eq_true, Nat.reduceEqDiff, eq_self, Nat.reduceAdd, Nat.reduceMul, kC1, kG1, kP1, kR1_0, kR1_1, kR1_2, kR1_3, kR1_4, kR1_5, kR1_6, kR1_7, kR1_8, kR1_9, kR1_10, kR1_11, kR1_12, kR1_13, kC2, kG2, kP2, kR2_0, kR2_1, kC3, kG3, kP3, kR3_0, kR3_1, kR3_2, kR3_3, kL4, kA4, kS4, kL5, kA5, kS5, kL6, kA6, kS6, kL7, kA7, kS7, kC8, kG8, kP8, kR8_0, kR8_1, kL9, kA9, kS9, kL10, kA10, kS10, kC11, kG11, kP11, kR11_0, kR11_1, kR11_2, kR11_3, kL12, kA12, kS12, kL13, kA13, kS13, kL14, kA14, kS14, kL15, kA15, kS15, kC16, kG16, kP16, kR16_0, kR16_1, kL17, kA17, kS17, kL18, kA18, kS18, kC19, kG19, kP19, kR19_0, kL20, kL141, kL146, kA146, kS146, kL151, kA151, kS151, kL156, kA156, kS156, kC157, kG157, kP157, kR157_0, kR157_1, kL158, kA158, kS158, kL159, kA159, kS159, kC161, kG161, kP161, kR161_0, kR161_1, kL162, kA162, kS162, kL163, kA163, kS163, kC165, kG165, kP165, kR165_0, kR165_1, kR165_2, kR165_3, kL166, kA166, kS166, kL167, kA167, kS167, kL168, kA168, kS168, kL169, kA169, kS169, kC170, kG170, kP170, kR170_0, kR170_1, kR170_2, kL171, kA171, kS171, kL172, kA172, kS172, kL173, kA173, kS173, kC174, kG174, kP174, kR174_0, kR174_1, kR174_2, kR174_3, kR174_4, kL175, kA175, kS175, kL176, kA176, kS176, kL177, kA177, kS177, kL178, kA178, kS178, kL179, kC180, kG180, kP180, kL181, kL182, kA182, kS182, kC183, kG183, kP183, kR183_1, kR183_3, kR183_5, kR183_6, kR183_7, kR183_8, kR183_9, kR183_21, kR183_26, kR183_27, kR183_30, kR183_31, kR183_33, kR183_34, kR183_36, kR183_37, kR183_38, kR183_39, kR183_40, kR183_41, kR183_42, kR183_43, kR183_44, kL184, kA184, kS184, kL185, kA185, kS185, kL186, kA186, kS186, kL187, kA187, kS187, kL188, kA188, kS188, kL189, kL190, kL191, kA191, kS191, kL192, kA192, kS192, kL193, kA193, kS193, kL194, kA194, kS194, kL195, kA195, kS195, kL196, kA196, kS196, kL197, kA197, kS197, kL198, kA198, kS198, kL199, kA199, kS199, kL200, kA200, kS200, kL201, kL202, kA202, kS202, kL203, kA203, kS203, kL204, kA204, kS204, kL205, kL206, kA206, kS206, h4, q1, j1]
    · have hb := byte8_ok (σ := σ) (J := xup J 3 9 (nI e)) hS hm (by rw [xup_at, if_neg (by omega)]; exact h4) (show e < m by omega)
      have hr : xup J 3 9 (nI e) 4 e = J 4 e := by rw [xup_at, if_neg (by omega)]
      have hl : isDg (J 4 e) = false := by rw [he]; exact nxP_out (by omega)
      rw [hr] at hb
      have q1 : (nI m ≤ nI e) = False := by rw [nn_le (by omega) (by omega)]; exact eq_false (by omega)
      simp only [f_X8_findInt_b0]
      simp (disch := first | assumption | omega) only [Option.bind_some, Option.map_some, xw_gR, xw_gN, xw_al, xw_ck, xw_uI, xw_ur, xup_at, xur_at, if_true, if_false, reduceIte, and_true, true_and, and_false, false_and, not_true_eq_false, not_false_eq_true, Nat.reduceEqDiff, eq_self, Nat.reduceAdd, Nat.reduceMul, kC1, kG1, kP1, kR1_0, kR1_1, kR1_2, kR1_3, kR1_4, kR1_5, kR1_6, kR1_7, kR1_8, kR1_9, kR1_10, kR1_11, kR1_12, kR1_13, kC2, kG2, kP2, kR2_0, kR2_1, kC3, kG3, kP3, kR3_0, kR3_1, kR3_2, kR3_3, kL4, kA4, kS4, kL5, kA5, kS5, kL6, kA6, kS6, kL7, kA7, kS7, kC8, kG8, kP8, kR8_0, kR8_1, kL9, kA9, kS9, kL10, kA10, kS10, kC11, kG11, kP11, kR11_0, kR11_1, kR11_2, kR11_3, kL12, kA12, kS12, kL13, kA13, kS13, kL14, kA14, kS14, kL15, kA15, kS15, kC16, kG16, kP16, kR16_0, kR16_1, kL17, kA17, kS17, kL18, kA18, kS18, kC19, kG19, kP19, kR19_0, kL20, kL141, kL146, kA146, kS146, kL151, kA151, kS151, kL156, kA156, kS156, kC157, kG157, kP157, kR157_0, kR157_1, kL158, kA158, kS158, kL159, kA159, kS159, kC161, kG161, kP161, kR161_0, kR161_1, kL162, kA162, kS162, kL163, kA163, kS163, kC165, kG165, kP165, kR165_0, kR165_1, kR165_2, kR165_3, kL166, kA166, kS166, kL167, kA167, kS167, kL168, kA168, kS168, kL169, kA169, kS169, kC170, kG170, kP170, kR170_0, kR170_1, kR170_2, kL171, kA171, kS171, kL172, kA172, kS172, kL173, kA173, kS173, kC174, kG174, kP174, kR174_0, kR174_1, kR174_2, kR174_3, kR174_4, kL175, kA175, kS175, kL176, kA176, kS176, kL177, kA177, kS177, kL178, kA178, kS178, kL179, kC180, kG180, kP180, kL181, kL182, kA182, kS182, kC183, kG183, kP183, kR183_1, kR183_3, kR183_5, kR183_6, kR183_7, kR183_8, kR183_9, kR183_21, kR183_26, kR183_27, kR183_30, kR183_31, kR183_33, kR183_34, kR183_36, kR183_37, kR183_38, kR183_39, kR183_40, kR183_41, kR183_42, kR183_43, kR183_44, kL184, kA184, kS184, kL185, kA185, kS185, kL186, kA186, kS186, kL187, kA187, kS187, kL188, kA188, kS188, kL189, kL190, kL191, kA191, kS191, kL192, kA192, kS192, kL193, kA193, kS193, kL194, kA194, kS194, kL195, kA195, kS195, kL196, kA196, kS196, kL197, kA197, kS197, kL198, kA198, kS198, kL199, kA199, kS199, kL200, kA200, kS200, kL201, kL202, kA202, kS202, kL203, kA203, kS203, kL204, kA204, kS204, kL205, kL206, kA206, kS206, h4, q1, hb, dg8_ok, hl, Bool.false_eq_true, j1]
/-- the token at a place where no blank is -/
theorem tok43_ok (hS : Shp σ) (hm : m ≤ 2000) (h4 : J 3 4 = nI m) {s : Nat} (hs : s ≤ m) (h8 : J 3 8 = nI s) : ∃ J', f_X8_findToken_j43 (xw σ J) 3 = some (xw σ J') ∧ J' 3 8 = nI s ∧ J' 3 9 = nI (tE0 (J 4) m s) ∧ J' 3 6 = nI (tK0 (J 4) m s) ∧ (tK0 (J 4) m s = 2 → J' 3 7 = nI (tN0 (J 4) m s)) ∧ ∀ a q, ¬ (a = 3 ∧ 6 ≤ q ∧ q ≤ 9) → J' a q = J a q := by
  have q0 : (nI s < nI m) = (s < m) := nn_lt (by omega) (by omega)
  by_cases hsm : s < m
  · have hb := byte8_ok (σ := σ) (J := J) hS hm h4 hsm
    have nm : ¬ m ≤ s := by omega
    have u8 : xup J 3 9 (nI (s + 1)) 3 8 = nI s := by rw [xup_at, if_neg (by omega)]; exact h8
    have u9 : xup J 3 9 (nI (s + 1)) 3 9 = nI (s + 1) := by rw [xup_at, if_pos ⟨rfl, rfl⟩]
    have u4 : xup J 3 9 (nI (s + 1)) 3 4 = nI m := by rw [xup_at, if_neg (by omega)]; exact h4
    have u3 : xup J 3 9 (nI (s + 1)) 4 = J 4 := by funext k; rw [xup_at, if_neg (by omega)]
    cases hl : isLt (J 4 s) with
    | true =>
      have est := nxP_step (q := isLt) (b := J 4) hsm hl
      have hge := nxP_ge (q := isLt) (b := J 4) (m := m) (p := s)
      have hle := nxP_le (q := isLt) (b := J 4) hs
      have sk := skipL_ok (σ := σ) (J := xup J 3 9 (nI (s + 1))) hS hm u4 (show s + 1 ≤ m by omega) u9
      rw [u3, est, xup2] at sk
      have v8 : xup J 3 9 (nI (nxP isLt (J 4) m s)) 3 8 = nI s := by rw [xup_at, if_neg (by omega)]; exact h8
      have v9 : xup J 3 9 (nI (nxP isLt (J 4) m s)) 3 9 = nI (nxP isLt (J 4) m s) := by rw [xup_at, if_pos ⟨rfl, rfl⟩]
      have v4 : xup J 3 9 (nI (nxP isLt (J 4) m s)) 3 4 = nI m := by rw [xup_at, if_neg (by omega)]; exact h4
      have v3 : xup J 3 9 (nI (nxP isLt (J 4) m s)) 4 = J 4 := by funext k; rw [xup_at, if_neg (by omega)]
      have wk := wordKind_ok (σ := σ) (J := xup J 3 9 (nI (nxP isLt (J 4) m s))) hS hm v4 hge hle v8 v9 (fun k h1 h2 => by rw [v3]; exact nxP_in (q := isLt) (b := J 4) (m := m) (p := s) h1 h2)
      rw [v3] at wk
      have tk : tK0 (J 4) m s = wdK (J 4) s (nxP isLt (J 4) m s - s) := by unfold tK0; rw [if_neg nm, if_pos hl]
      have te : tE0 (J 4) m s = nxP isLt (J 4) m s := by unfold tE0; rw [if_neg nm, if_pos hl]
      rw [tk, te]
      refine ⟨xup (xup J 3 9 (nI (nxP isLt (J 4) m s))) 3 6 (nI (wdK (J 4) s (nxP isLt (J 4) m s - s))), ?_, ?_, ?_, ?_, fun z => ?_, fun a q hq => ?_⟩
      · unfold f_X8_findToken_j43
        simp (disch := first | assumption | omega) only [Option.bind_some, Option.map_some, xw_gR, xw_gN, xw_al, xw_ck, xw_uI, xw_ur, xup_at, xur_at, if_true, if_false, reduceIte, and_true, true_and, and_false, false_and, not_true_eq_false, not_false_eq_true, Nat.reduceEqDiff, eq_self, Nat.reduceAdd, Nat.reduceMul, kC1, kG1, kP1, kR1_0, kR1_1, kR1_2, kR1_3, kR1_4, kR1_5, kR1_6, kR1_7, kR1_8, kR1_9, kR1_10, kR1_11, kR1_12, kR1_13, kC2, kG2, kP2, kR2_0, kR2_1, kC3, kG3, kP3, kR3_0, kR3_1, kR3_2, kR3_3, kL4, kA4, kS4, kL5, kA5, kS5, kL6, kA6, kS6, kL7, kA7, kS7, kC8, kG8, kP8, kR8_0, kR8_1, kL9, kA9, kS9, kL10, kA10, kS10, kC11, kG11, kP11, kR11_0, kR11_1, kR11_2, kR11_3, kL12, kA12, kS12, kL13, kA13, kS13, kL14, kA14, kS14, kL15, kA15, kS15, kC16, kG16, kP16, kR16_0, kR16_1, kL17, kA17, kS17, kL18, kA18, kS18, kC19, kG19, kP19, kR19_0, kL20, kL141, kL146, kA146, kS146, kL151, kA151, kS151, kL156, kA156, kS156, kC157, kG157, kP157, kR157_0, kR157_1, kL158, kA158, kS158, kL159, kA159, kS159, kC161, kG161, kP161, kR161_0, kR161_1, kL162, kA162, kS162, kL163, kA163, kS163, kC165, kG165, kP165, kR165_0, kR165_1, kR165_2, kR165_3, kL166, kA166, kS166, kL167, kA167, kS167, kL168, kA168, kS168, kL169, kA169, kS169, kC170, kG170, kP170, kR170_0, kR170_1, kR170_2, kL171, kA171, kS171, kL172, kA172, kS172, kL173, kA173, kS173, kC174, kG174, kP174, kR174_0, kR174_1, kR174_2, kR174_3, kR174_4, kL175, kA175, kS175, kL176, kA176, kS176, kL177, kA177, kS177, kL178, kA178, kS178, kL179, kC180, kG180, kP180, kL181, kL182, kA182, kS182, kC183, kG183, kP183, kR183_1, kR183_3, kR183_5, kR183_6, kR183_7, kR183_8, kR183_9, kR183_21, kR183_26, kR183_27, kR183_30, kR183_31, kR183_33, kR183_34, kR183_36, kR183_37, kR183_38, kR183_39, kR183_40, kR183_41, kR183_42, kR183_43, kR183_44, kL184, kA184, kS184, kL185, kA185, kS185, kL186, kA186, kS186, kL187, kA187, kS187, kL188, kA188, kS188, kL189, kL190, kL191, kA191, kS191, kL192, kA192, kS192, kL193, kA193, kS193, kL194, kA194, kS194, kL195, kA195, kS195, kL196, kA196, kS196, kL197, kA197, kS197, kL198, kA198, kS198, kL199, kA199, kS199, kL200, kA200, kS200, kL201, kL202, kA202, kS202, kL203, kA203, kS203, kL204, kA204, kS204, kL205, kL206, kA206, kS206, h8, hb, h4, lt8_ok, hl, one0, ← nI_succ, q0, hsm, sk, wk]
      · rw [xup_at, if_neg (by omega)]; exact v8
      · rw [xup_at, if_neg (by omega)]; exact v9
      · rw [xup_at, if_pos ⟨rfl, rfl⟩]
      · exfalso
        have h2 : ∀ p k, k ≤ 11 → wkF p k ≠ 2 := by
          intro p k
          induction k with
          | zero => intro _ q; cases q
          | succ k ih =>
            intro hk q
            rw [wkF] at q
            split at q
            · omega
            · exact ih (by omega) q
        exact h2 _ 11 (by omega) z
      · rw [xup_at, if_neg (by omega), xup_at, if_neg (by omega)]
    | false =>
      cases hd : isDg (J 4 s) with
      | true =>
        obtain ⟨J', j1, j2, j3, j4, j5⟩ := findInt_ok (σ := σ) (J := xup J 3 9 (nI (s + 1))) hS hm u4 hsm u8 u9 (by rw [u3]; exact hd)
        rw [u3] at j2 j3 j4
        have tk : tK0 (J 4) m s = if nxP isDg (J 4) m s - s ≤ 4 then 2 else 1 := by unfold tK0; rw [if_neg nm, hl, if_neg (by decide), if_pos hd]
        have te : tE0 (J 4) m s = nxP isDg (J 4) m s := by unfold tE0; rw [if_neg nm, hl, if_neg (by decide), if_pos hd]
        rw [tk, te]
        refine ⟨J', ?_, ?_, j2, j3, fun z => ?_, fun a q hq => ?_⟩
        · unfold f_X8_findToken_j43
          simp (disch := first | assumption | omega) only [Option.bind_some, Option.map_some, xw_gR, xw_gN, xw_al, xw_ck, xw_uI, xw_ur, xup_at, xur_at, if_true, if_false, reduceIte, and_true, true_and, and_false, false_and, not_true_eq_false, not_false_eq_true, Nat.reduceEqDiff, eq_self, Nat.reduceAdd, Nat.reduceMul, kC1, kG1, kP1, kR1_0, kR1_1, kR1_2, kR1_3, kR1_4, kR1_5, kR1_6, kR1_7, kR1_8, kR1_9, kR1_10, kR1_11, kR1_12, kR1_13, kC2, kG2, kP2, kR2_0, kR2_1, kC3, kG3, kP3, kR3_0, kR3_1, kR3_2, kR3_3, kL4, kA4, kS4, kL5, kA5, kS5, kL6, kA6, kS6, kL7, kA7, kS7, kC8, kG8, kP8, kR8_0, kR8_1, kL9, kA9, kS9, kL10, kA10, kS10, kC11, kG11, kP11, kR11_0, kR11_1, kR11_2, kR11_3, kL12, kA12, kS12, kL13, kA13, kS13, kL14, kA14, kS14, kL15, kA15, kS15, kC16, kG16, kP16, kR16_0, kR16_1, kL17, kA17, kS17, kL18, kA18, kS18, kC19, kG19, kP19, kR19_0, kL20, kL141, kL146, kA146, kS146, kL151, kA151, kS151, kL156, kA156, kS156, kC157, kG157, kP157, kR157_0, kR157_1, kL158, kA158, kS158, kL159, kA159, kS159, kC161, kG161, kP161, kR161_0, kR161_1, kL162, kA162, kS162, kL163, kA163, kS163, kC165, kG165, kP165, kR165_0, kR165_1, kR165_2, kR165_3, kL166, kA166, kS166, kL167, kA167, kS167, kL168, kA168, kS168, kL169, kA169, kS169, kC170, kG170, kP170, kR170_0, kR170_1, kR170_2, kL171, kA171, kS171, kL172, kA172, kS172, kL173, kA173, kS173, kC174, kG174, kP174, kR174_0, kR174_1, kR174_2, kR174_3, kR174_4, kL175, kA175, kS175, kL176, kA176, kS176, kL177, kA177, kS177, kL178, kA178, kS178, kL179, kC180, kG180, kP180, kL181, kL182, kA182, kS182, kC183, kG183, kP183, kR183_1, kR183_3, kR183_5, kR183_6, kR183_7, kR183_8, kR183_9, kR183_21, kR183_26, kR183_27, kR183_30, kR183_31, kR183_33, kR183_34, kR183_36, kR183_37, kR183_38, kR183_39, kR183_40, kR183_41, kR183_42, kR183_43, kR183_44, kL184, kA184, kS184, kL185, kA185, kS185, kL186, kA186, kS186, kL187, kA187, kS187, kL188, kA188, kS188, kL189, kL190, kL191, kA191, kS191, kL192, kA192, kS192, kL193, kA193, kS193, kL194, kA194, kS194, kL195, kA195, kS195, kL196, kA196, kS196, kL197, kA197, kS197, kL198, kA198, kS198, kL199, kA199, kS199, kL200, kA200, kS200, kL201, kL202, kA202, kS202, kL203, kA203, kS203, kL204, kA204, kS204, kL205, kL206, kA206, kS206, h8, hb, h4, lt8_ok, hl, Bool.false_eq_true, dg8_ok, hd, one0, ← nI_succ, q0, hsm, j1]
        · rw [j5 3 8 (by omega)]; exact u8
        · have h5 : nxP isDg (J 4) m s - s ≤ 4 := by
            apply Classical.byContradiction
            intro w
            rw [if_neg w] at z
            cases z
          exact j4 h5
        · rw [j5 a q (by omega), xup_at, if_neg (by omega)]
      | false =>
        have te : tE0 (J 4) m s = s + 1 := by unfold tE0; rw [if_neg nm, hl, if_neg (by decide), hd, if_neg (by decide)]
        have tk : tK0 (J 4) m s = if J 4 s = 45 then 3 else if J 4 s = 59 then 4 else 1 := by unfold tK0; rw [if_neg nm, hl, if_neg (by decide), hd, if_neg (by decide)]
        rw [te, tk]
        refine ⟨xup (xup J 3 9 (nI (s + 1))) 3 6 (nI (if J 4 s = 45 then 3 else if J 4 s = 59 then 4 else 1)), ?_, ?_, ?_, ?_, fun z => ?_, fun a q hq => ?_⟩
        · unfold f_X8_findToken_j43
          simp (disch := first | assumption | omega) only [Option.bind_some, Option.map_some, xw_gR, xw_gN, xw_al, xw_ck, xw_uI, xw_ur, xup_at, xur_at, if_true, if_false, reduceIte, and_true, true_and, and_false, false_and, not_true_eq_false, not_false_eq_true, Nat.reduceEqDiff, eq_self, Nat.reduceAdd, Nat.reduceMul, kC1, kG1, kP1, kR1_0, kR1_1, kR1_2, kR1_3, kR1_4, kR1_5, kR1_6, kR1_7, kR1_8, kR1_9, kR1_10, kR1_11, kR1_12, kR1_13, kC2, kG2, kP2, kR2_0, kR2_1, kC3, kG3, kP3, kR3_0, kR3_1, kR3_2, kR3_3, kL4, kA4, kS4, kL5, kA5, kS5, kL6, kA6, kS6, kL7, kA7, kS7, kC8, kG8, kP8, kR8_0, kR8_1, kL9, kA9, kS9, kL10, kA10, kS10, kC11, kG11, kP11, kR11_0, kR11_1, kR11_2, kR11_3, kL12, kA12, kS12, kL13, kA13, kS13, kL14, kA14, kS14, kL15, kA15, kS15, kC16, kG16, kP16, kR16_0, kR16_1, kL17, kA17, kS17, kL18, kA18, kS18, kC19, kG19, kP19, kR19_0, kL20, kL141, kL146, kA146, kS146, kL151, kA151, kS151, kL156, kA156, kS156, kC157, kG157, kP157, kR157_0, kR157_1, kL158, kA158, kS158, kL159, kA159, kS159, kC161, kG161, kP161, kR161_0, kR161_1, kL162, kA162, kS162, kL163, kA163, kS163, kC165, kG165, kP165, kR165_0, kR165_1, kR165_2, kR165_3, kL166, kA166, kS166, kL167, kA167, kS167, kL168, kA168, kS168, kL169, kA169, kS169, kC170, kG170, kP170, kR170_0, kR170_1, kR170_2, kL171, kA171, kS171, kL172, kA172, kS172, kL173, kA173, kS173, kC174, kG174, kP174, kR174_0, kR174_1, kR174_2, kR174_3, kR174_4, kL175, kA175, kS175, kL176, kA176, kS176, kL177, kA177, kS177, kL178, kA178, kS178, kL179, kC180, kG180, kP180, kL181, kL182, kA182, kS182, kC183, kG183, kP183, kR183_1, kR183_3, kR183_5, kR183_6, kR183_7, kR183_8, kR183_9, kR183_21, kR183_26, kR183_27, kR183_30, kR183_31, kR183_33, kR183_34, kR183_36, kR183_37, kR183_38, kR183_39, kR183_40, kR183_41, kR183_42, kR183_43, kR183_44, kL184, kA184, kS184, kL185, kA185, kS185, kL186, kA186, kS186, kL187, kA187, kS187, kL188, kA188, kS188, kL189, kL190, kL191, kA191, kS191, kL192, kA192, kS192, kL193, kA193, kS193, kL194, kA194, kS194, kL195, kA195, kS195, kL196, kA196, kS196, kL197, kA197, kS197, kL198, kA198, kS198, kL199, kA199, kS199, kL200, kA200, kS200, kL201, kL202, kA202, kS202, kL203, kA203, kS203, kL204, kA204, kS204, kL205, kL206, kA206, kS206, h8, hb, h4, lt8_ok, hl, Bool.false_eq_true, dg8_ok, hd, ← nI_succ, q0, hsm]
          by_cases z1 : J 4 s = 45
          · rw [if_pos z1, if_pos z1]; rfl
          · rw [if_neg z1, if_neg z1]
            by_cases z2 : J 4 s = 59
            · rw [if_pos z2, if_pos z2]; rfl
            · rw [if_neg z2, if_neg z2]; rfl
        · rw [xup_at, if_neg (by omega)]; exact u8
        · rw [xup_at, if_neg (by omega)]; exact u9
        · rw [xup_at, if_pos ⟨rfl, rfl⟩]
        · exfalso
          split at z
          · cases z
          · split at z <;> cases z
        · rw [xup_at, if_neg (by omega), xup_at, if_neg (by omega)]
  · have esm : s = m := by omega
    have tk : tK0 (J 4) m s = 0 := by unfold tK0; rw [if_pos (by omega)]
    have te : tE0 (J 4) m s = m := by unfold tE0; rw [if_pos (by omega)]
    have hb : f_X8_byteAt (xw σ J) 3 (nI s) = some 0 := by
      unfold f_X8_byteAt
      have q1 : (nI m ≤ nI s) = True := by rw [nn_le (by omega) (by omega)]; exact eq_true (by omega)
      rw [if_neg (nI_pos (by omega))]
      simp (disch := first | assumption | omega) only [Option.bind_some, Option.map_some, xw_gR, xw_gN, xw_al, xw_ck, xw_uI, xw_ur, xup_at, xur_at, if_true, if_false, reduceIte, and_true, true_and, and_false, false_and, not_true_eq_false, not_false_eq_true, Nat.reduceEqDiff, eq_self, Nat.reduceAdd, Nat.reduceMul, kC1, kG1, kP1, kR1_0, kR1_1, kR1_2, kR1_3, kR1_4, kR1_5, kR1_6, kR1_7, kR1_8, kR1_9, kR1_10, kR1_11, kR1_12, kR1_13, kC2, kG2, kP2, kR2_0, kR2_1, kC3, kG3, kP3, kR3_0, kR3_1, kR3_2, kR3_3, kL4, kA4, kS4, kL5, kA5, kS5, kL6, kA6, kS6, kL7, kA7, kS7, kC8, kG8, kP8, kR8_0, kR8_1, kL9, kA9, kS9, kL10, kA10, kS10, kC11, kG11, kP11, kR11_0, kR11_1, kR11_2, kR11_3, kL12, kA12, kS12, kL13, kA13, kS13, kL14, kA14, kS14, kL15, kA15, kS15, kC16, kG16, kP16, kR16_0, kR16_1, kL17, kA17, kS17, kL18, kA18, kS18, kC19, kG19, kP19, kR19_0, kL20, kL141, kL146, kA146, kS146, kL151, kA151, kS151, kL156, kA156, kS156, kC157, kG157, kP157, kR157_0, kR157_1, kL158, kA158, kS158, kL159, kA159, kS159, kC161, kG161, kP161, kR161_0, kR161_1, kL162, kA162, kS162, kL163, kA163, kS163, kC165, kG165, kP165, kR165_0, kR165_1, kR165_2, kR165_3, kL166, kA166, kS166, kL167, kA167, kS167, kL168, kA168, kS168, kL169, kA169, kS169, kC170, kG170, kP170, kR170_0, kR170_1, kR170_2, kL171, kA171, kS171, kL172, kA172, kS172, kL173, kA173, kS173, kC174, kG174, kP174, kR174_0, kR174_1, kR174_2, kR174_3, kR174_4, kL175, kA175, kS175, kL176, kA176, kS176, kL177, kA177, kS177, kL178, kA178, kS178, kL179, kC180, kG180, kP180, kL181, kL182, kA182, kS182, kC183, kG183, kP183, kR183_1, kR183_3, kR183_5, kR183_6, kR183_7, kR183_8, kR183_9, kR183_21, kR183_26, kR183_27, kR183_30, kR183_31, kR183_33, kR183_34, kR183_36, kR183_37, kR183_38, kR183_39, kR183_40, kR183_41, kR183_42, kR183_43, kR183_44, kL184, kA184, kS184, kL185, kA185, kS185, kL186, kA186, kS186, kL187, kA187, kS187, kL188, kA188, kS188, kL189, kL190, kL191, kA191, kS191, kL192, kA192, kS192, kL193, kA193, kS193, kL194, kA194, kS194, kL195, kA195, kS195, kL196, kA196, kS196, kL197, kA197, kS197, kL198, kA198, kS198, kL199, kA199, kS199, kL200, kA200, kS200, kL201, kL202, kA202, kS202, kL203, kA203, kS203, kL204, kA204, kS204, kL205, kL206, kA206, kS206, h4, q1]
    rw [tk, te]
    refine ⟨xup (xup (xup J 3 9 (nI (s + 1))) 3 9 (nI m)) 3 6 0, ?_, ?_, ?_, ?_, (fun z => by cases z), fun a q hq => ?_⟩
    · unfold f_X8_findToken_j43
      simp (disch := first | assumption | omega) only [Option.bind_some, Option.map_some, xw_gR, xw_gN, xw_al, xw_ck, xw_uI, xw_ur, xup_at, xur_at, if_true, if_false, reduceIte, and_true, true_and, and_false, false_and, not_true_eq_false, not_false_eq_true, Nat.reduceEqDiff, eq_self, Nat.reduceAdd, Nat.reduceMul, kC1, kG1, kP1, kR1_0, kR1_1, kR1_2, kR1_3, kR1_4, kR1_5, kR1_6, kR1_7, kR1_8, kR1_9, kR1_10, kR1_11, kR1_12, kR1_13, kC2, kG2, kP2, kR2_0, kR2_1, kC3, kG3, kP3, kR3_0, kR3_1, kR3_2, kR3_3, kL4, kA4, kS4, kL5, kA5, kS5, kL6, kA6, kS6, kL7, kA7, kS7, kC8, kG8, kP8, kR8_0, kR8_1, kL9, kA9, kS9, kL10, kA10, kS10, kC11, kG11, kP11, kR11_0, kR11_1, kR11_2, kR11_3, kL12, kA12, kS12, kL13, kA13, kS13, kL14, kA14, kS14, kL15, kA15, kS15, kC16, kG16, kP16, kR16_0, kR16_1, kL17, kA17, kS17, kL18, kA18, kS18, kC19, kG19, kP19, kR19_0, kL20, kL141, kL146, kA146, kS146, kL151, kA151, kS151, kL156, kA156, kS156, kC157, kG157, kP157, kR157_0, kR157_1, kL158, kA158, kS158, kL159, kA159, kS159, kC161, kG161, kP161, kR161_0, kR161_1, kL162, kA162, kS162, kL163, kA163, kS163, kC165, kG165, kP165, kR165_0, kR165_1, kR165_2, kR165_3, kL166, kA166, kS166, kL167, kA167, kS167, kL168, kA168, kS168, kL169, kA169, kS169, kC170, kG170, kP170, kR170_0, kR170_1, kR170_2, kL171, kA171, kS171, kL172, kA172, kS172, kL173, kA173, kS173, kC174, kG174, kP174, kR174_0, kR174_1, kR174_2, kR174_3, kR174_4, kL175, kA175, kS175, kL176, kA176, kS176, kL177, kA177, kS177, kL178, kA178, kS178, kL179, kC180, kG180, kP180, kL181, kL182, kA182, kS182, kC183, kG183, kP183, kR183_1, kR183_3, kR183_5, kR183_6, kR183_7, kR183_8, kR183_9, kR183_21, kR183_26, kR183_27, kR183_30, kR183_31, kR183_33, kR183_34, kR183_36, kR183_37, kR183_38, kR183_39, kR183_40, kR183_41, kR183_42, kR183_43, kR183_44, kL184, kA184, kS184, kL185, kA185, kS185, kL186, kA186, kS186, kL187, kA187, kS187, kL188, kA188, kS188, kL189, kL190, kL191, kA191, kS191, kL192, kA192, kS192, kL193, kA193, kS193, kL194, kA194, kS194, kL195, kA195, kS195, kL196, kA196, kS196, kL197, kA197, kS197, kL198, kA198, kS198, kL199, kA199, kS199, kL200, kA200, kS200, kL201, kL202, kA202, kS202, kL203, kA203, kS203, kL204, kA204, kS204, kL205, kL206, kA206, kS206, h8, hb, h4, ← nI_succ, q0, hsm]
    · rw [xup_at, if_neg (by omega), xup_at, if_neg (by omega), xup_at, if_neg (by omega)]; exact h8
    · rw [xup_at, if_neg (by omega), xup_at, if_pos ⟨rfl, rfl⟩]
    · rw [xup_at, if_pos ⟨rfl, rfl⟩]; rfl
    · rw [xup_at, if_neg (by omega), xup_at, if_neg (by omega), xup_at, if_neg (by omega)]
theorem findTok_ok (hS : Shp σ) (hm : m ≤ 2000) (h4 : J 3 4 = nI m) {p : Nat} (hp : p ≤ m) : ∃ J', f_X8_findToken (xw σ J) 3 (nI p) = some (xw σ J') ∧ J' 3 8 = nI (tS0 (J 4) m p) ∧ J' 3 9 = nI (tE0 (J 4) m (tS0 (J 4) m p)) ∧ J' 3 6 = nI (tK0 (J 4) m (tS0 (J 4) m p)) ∧ (tK0 (J 4) m (tS0 (J 4) m p) = 2 → J' 3 7 = nI (tN0 (J 4) m (tS0 (J 4) m p))) ∧ ∀ a q, ¬ (a = 3 ∧ 6 ≤ q ∧ q ≤ 9) → J' a q = J a q := by
  obtain ⟨s, hs⟩ : ∃ s, s = tS0 (J 4) m p := ⟨_, rfl⟩
  have hge : p ≤ s := by rw [hs]; exact nxP_ge
  have hle : s ≤ m := by rw [hs]; exact nxP_le hp
  have hbl : ∀ k, p ≤ k → k < s → isBl (J 4 k) = true := fun k h1 h2 => nxP_in (q := isBl) (b := J 4) (m := m) (p := p) h1 (by rw [hs] at h2; exact h2)
  have hno : s < m → isBl (J 4 s) = false := fun h => by rw [hs] at h ⊢; exact nxP_out h
  rw [← hs]
  have u4 : ∀ v, xup J 3 8 v 3 4 = nI m := fun v => by rw [xup_at, if_neg (by omega)]; exact h4
  have u3 : ∀ v, xup J 3 8 v 4 = J 4 := fun v => by funext k; rw [xup_at, if_neg (by omega)]
  have u8 : ∀ v, xup J 3 8 v 3 8 = v := fun v => by rw [xup_at, if_pos ⟨rfl, rfl⟩]
  obtain ⟨J', j1, j2, j3, j4, j5, j6⟩ := tok43_ok (σ := σ) (J := xup J 3 8 (nI s)) hS hm (u4 _) hle (u8 _)
  rw [u3] at j3 j4 j5
  refine ⟨J', ?_, j2, j3, j4, j5, fun a q hq => by rw [j6 a q hq, xup_at, if_neg (by omega)]⟩
  unfold f_X8_findToken
  simp (disch := first | assumption | omega) only [Option.bind_some, Option.map_some, xw_gR, xw_gN, xw_al, xw_ck, xw_uI, xw_ur, xup_at, xur_at, if_true, if_false, reduceIte, and_true, true_and, and_false, false_and, not_true_eq_false, not_false_eq_true, Nat.reduceEqDiff, eq_self, Nat.reduceAdd, Nat.reduceMul, kC1, kG1, kP1, kR1_0, kR1_1, kR1_2, kR1_3, kR1_4, kR1_5, kR1_6, kR1_7, kR1_8, kR1_9, kR1_10, kR1_11, kR1_12, kR1_13, kC2, kG2, kP2, kR2_0, kR2_1, kC3, kG3, kP3, kR3_0, kR3_1, kR3_2, kR3_3, kL4, kA4, kS4, kL5, kA5, kS5, kL6, kA6, kS6, kL7, kA7, kS7, kC8, kG8, kP8, kR8_0, kR8_1, kL9, kA9, kS9, kL10, kA10, kS10, kC11, kG11, kP11, kR11_0, kR11_1, kR11_2, kR11_3, kL12, kA12, kS12, kL13, kA13, kS13, kL14, kA14, kS14, kL15, kA15, kS15, kC16, kG16, kP16, kR16_0, kR16_1, kL17, kA17, kS17, kL18, kA18, kS18, kC19, kG19, kP19, kR19_0, kL20, kL141, kL146, kA146, kS146, kL151, kA151, kS151, kL156, kA156, kS156, kC157, kG157, kP157, kR157_0, kR157_1, kL158, kA158, kS158, kL159, kA159, kS159, kC161, kG161, kP161, kR161_0, kR161_1, kL162, kA162, kS162, kL163, kA163, kS163, kC165, kG165, kP165, kR165_0, kR165_1, kR165_2, kR165_3, kL166, kA166, kS166, kL167, kA167, kS167, kL168, kA168, kS168, kL169, kA169, kS169, kC170, kG170, kP170, kR170_0, kR170_1, kR170_2, kL171, kA171, kS171, kL172, kA172, kS172, kL173, kA173, kS173, kC174, kG174, kP174, kR174_0, kR174_1, kR174_2, kR174_3, kR174_4, kL175, kA175, kS175, kL176, kA176, kS176, kL177, kA177, kS177, kL178, kA178, kS178, kL179, kC180, kG180, kP180, kL181, kL182, kA182, kS182, kC183, kG183, kP183, kR183_1, kR183_3, kR183_5, kR183_6, kR183_7, kR183_8, kR183_9, kR183_21, kR183_26, kR183_27, kR183_30, kR183_31, kR183_33, kR183_34, kR183_36, kR183_37, kR183_38, kR183_39, kR183_40, kR183_41, kR183_42, kR183_43, kR183_44, kL184, kA184, kS184, kL185, kA185, kS185, kL186, kA186, kS186, kL187, kA187, kS187, kL188, kA188, kS188, kL189, kL190, kL191, kA191, kS191, kL192, kA192, kS192, kL193, kA193, kS193, kL194, kA194, kS194, kL195, kA195, kS195, kL196, kA196, kS196, kL197, kA197, kS197, kL198, kA198, kS198, kL199, kA199, kS199, kL200, kA200, kS200, kL201, kL202, kA202, kS202, kL203, kA203, kS203, kL204, kA204, kS204, kL205, kL206, kA206, kS206]
  have ends : nI (p + (s - p)) = nI s := by congr 1; omega
  refine xforE (fun i : Nat => xw σ (xup J 3 8 (nI (p + i)))) (s - p) ?_ (fun i hi => ?_) ?_
  · show xw σ (xup J 3 8 (nI p)) = xw σ (xup J 3 8 (nI (p + 0)))
    rw [Nat.add_zero]
  · have hb := byte8_ok (σ := σ) (J := xup J 3 8 (nI (p + i))) hS hm (u4 _) (show p + i < m by omega)
    rw [u3] at hb
    have hl := hbl (p + i) (by omega) (by omega)
    have q1 : (nI m ≤ nI (p + i)) = False := by rw [nn_le (by omega) (by omega)]; exact eq_false (by omega)
    simp only [f_X8_findToken_b5]
    simp (disch := first | assumption | omega) only [Option.bind_some, Option.map_some, xw_gR, xw_gN, xw_al, xw_ck, xw_uI, xw_ur, xup_at, xur_at, if_true, if_false, reduceIte, and_true, true_and, and_false, false_and, not_true_eq_false, not_false_eq_true, Nat.reduceEqDiff, eq_self, Nat.reduceAdd, Nat.reduceMul, kC1, kG1, kP1, kR1_0, kR1_1, kR1_2, kR1_3, kR1_4, kR1_5, kR1_6, kR1_7, kR1_8, kR1_9, kR1_10, kR1_11, kR1_12, kR1_13, kC2, kG2, kP2, kR2_0, kR2_1, kC3, kG3, kP3, kR3_0, kR3_1, kR3_2, kR3_3, kL4, kA4, kS4, kL5, kA5, kS5, kL6, kA6, kS6, kL7, kA7, kS7, kC8, kG8, kP8, kR8_0, kR8_1, kL9, kA9, kS9, kL10, kA10, kS10, kC11, kG11, kP11, kR11_0, kR11_1, kR11_2, kR11_3, kL12, kA12, kS12, kL13, kA13, kS13, kL14, kA14, kS14, kL15, kA15, kS15, kC16, kG16, kP16, kR16_0, kR16_1, kL17, kA17, kS17, kL18, kA18, kS18, kC19, kG19, kP19, kR19_0, kL20, kL141, kL146, kA146, kS146, kL151, kA151, kS151, kL156, kA156, kS156, kC157, kG157, kP157, kR157_0, kR157_1, kL158, kA158, kS158, kL159, kA159, kS159, kC161, kG161, kP161, kR161_0, kR161_1, kL162, kA162, kS162, kL163, kA163, kS163, kC165, kG165, kP165, kR165_0, kR165_1, kR165_2, kR165_3, kL166, kA166, kS166, kL167, kA167, kS167, kL168, kA168, kS168, kL169, kA169, kS169, kC170, kG170, kP170, kR170_0, kR170_1, kR170_2, kL171, kA171, kS171, kL172, kA172, kS172, kL173, kA173, kS173, kC174, kG174, kP174, kR174_0, kR174_1, kR174_2, kR174_3, kR174_4, kL175, kA175, kS175, kL176, kA176, kS176, kL177, kA177, kS177, kL178, kA178, kS178, kL179, kC180, kG180, kP180, kL181, kL182, kA182, kS182, kC183, kG183, kP183, kR183_1, kR183_3, kR183_5, kR183_6, kR183_7, kR183_8, kR183_9, kR183_21, kR183_26, kR183_27, kR183_30, kR183_31, kR183_33, kR183_34, kR183_36, kR183_37, kR183_38, kR183_39, kR183_40, kR183_41, kR183_42, kR183_43, kR183_44, kL184, kA184, kS184, kL185, kA185, kS185, kL186, kA186, kS186, kL187, kA187, kS187, kL188, kA188, kS188, kL189, kL190, kL191, kA191, kS191, kL192, kA192, kS192, kL193, kA193, kS193, kL194, kA194, kS194, kL195, kA195, kS195, kL196, kA196, kS196, kL197, kA197, kS197, kL198, kA198, kS198, kL199, kA199, kS199, kL200, kA200, kS200, kL201, kL202, kA202, kS202, kL203, kA203, kS203, kL204, kA204, kS204, kL205, kL206, kA206, kS206, h4, q1, hb, bl8_ok, hl, one0]
    rw [← nI_succ, xup2]
    rfl
  · rw [ends]
    by_cases z : s = m
    · have q1 : (nI m ≤ nI s) = True := by rw [nn_le (by omega) (by omega)]; exact eq_true (by omega)
      simp only [f_X8_findToken_b5]
      simp (disch := first | assumption | omega) only [Option.bind_some, Option.map_some, xw_gR, xw_gN, xw_al, xw_ck, xw_uI, xw_ur, xup_at, xur_at, if_true, if_false, reduceIte, and_true, true_and, and_false, false_and, not_true_eq_false, not_false_eq_true, Nat.reduceEqDiff, eq_self, Nat.reduceAdd, Nat.reduceMul, kC1, kG1, kP1, kR1_0, kR1_1, kR1_2, kR1_3, kR1_4, kR1_5, kR1_6, kR1_7, kR1_8, kR1_9, kR1_10, kR1_11, kR1_12, kR1_13, kC2, kG2, kP2, kR2_0, kR2_1, kC3, kG3, kP3, kR3_0, kR3_1, kR3_2, kR3_3, kL4, kA4, kS4, kL5, kA5, kS5, kL6, kA6, kS6, kL7, kA7, kS7, kC8, kG8, kP8, kR8_0, kR8_1, kL9, kA9, kS9, kL10, kA10, kS10, kC11, kG11, kP11, kR11_0, kR11_1, kR11_2, kR11_3, kL12, kA12, kS12, kL13, kA13, kS13, kL14, kA14, kS14, kL15, kA15, kS15, kC16, kG16, kP16, kR16_0, kR16_1, kL17, kA17, kS17, kL18, kA18, kS18, kC19, kG19, kP19, kR19_0, kL20, kL141, kL146, kA146, kS146, kL151, kA151, kS151, kL156, kA156, kS156, kC157, kG157, kP157, kR157_0, kR157_1, kL158, kA158, kS158, kL159, kA159, kS159, kC161, kG161, kP161, kR161_0, kR161_1, kL162, kA162, kS162, kL163, kA163, kS163, kC165, kG165, kP165, kR165_0, kR165_1, kR165_2, kR165_3, kL166, kA166, kS166, kL167, kA167, kS167, kL168, kA168, kS168, kL169, kA169, kS169, kC170, kG170, kP170, kR170_0, kR170_1, kR170_2, kL171, kA171, kS171, kL172, kA172, kS172, kL173, kA173, kS173, kC174, kG174, kP174, kR174_0, kR174_1, kR174_2, kR174_3, kR174_4, kL175, kA175, kS175, kL176, kA176, kS176, kL177, kA177, kS177, kL178, kA178, kS178, kL179, kC180, kG180, kP180, kL181, kL182, kA182, kS182, kC183, kG183, kP183, kR183_1, kR183_3, kR183_5, kR183_6, kR183_7, kR183_8, kR183_9, kR183_21, kR183_26, kR183_27, kR183_30, kR183_31, kR183_33, kR183_34, kR183_36, kR183_37, kR183_38, kR183_39, kR183_40, kR183_41, kR183_42, kR183_43, kR183_44, kL184, kA184, kS184, kL185, kA185, kS185, kL186, kA186, kS186, kL187, kA187, kS187, kL188, kA188, kS188, kL189, kL190, kL191, kA191, kS191, kL192, kA192, kS192, kL193, kA193, kS193, kL194, kA194, kS194, kL195, kA195, kS195, kL196, kA196, kS196, kL197, kA197, kS197, kL198, kA198, kS198, kL199, kA199, kS199, kL200, kA200, kS200, kL201, kL202, kA202, kS202, kL203, kA203, kS203, kL204, kA204, kS204, kL205, kL206, kA206, kS206, h4, q1, j1]
    · have hb := byte8_ok (σ := σ) (J := xup J 3 8 (nI s)) hS hm (u4 _) (show s < m by omega)
      rw [u3] at hb
      have hl := hno (by omega)
      have q1 : (nI m ≤ nI s) = False := by rw [nn_le (by omega) (by omega)]; exact eq_false (by omega)
      simp only [f_X8_findToken_b5]
      simp (disch := first | assumption | omega) only [Option.bind_some, Option.map_some, xw_gR, xw_gN, xw_al, xw_ck, xw_uI, xw_ur, xup_at, xur_at, if_true, if_false, reduceIte, and_true, true_and, and_false, false_and, not_true_eq_false, not_false_eq_true, Nat.reduceEqDiff, eq_self, Nat.reduceAdd, Nat.reduceMul, kC1, kG1, kP1, kR1_0, kR1_1, kR1_2, kR1_3, kR1_4, kR1_5, kR1_6, kR1_7, kR1_8, kR1_9, kR1_10, kR1_11, kR1_12, kR1_13, kC2, kG2, kP2, kR2_0, kR2_1, kC3, kG3, kP3, kR3_0, kR3_1, kR3_2, kR3_3, kL4, kA4, kS4, kL5, kA5, kS5, kL6, kA6, kS6, kL7, kA7, kS7, kC8, kG8, kP8, kR8_0, kR8_1, kL9, kA9, kS9, kL10, kA10, kS10, kC11, kG11, kP11, kR11_0, kR11_1, kR11_2, kR11_3, kL12, kA12, kS12, kL13, kA13, kS13, kL14, kA14, kS14, kL15, kA15, kS15, kC16, kG16, kP16, kR16_0, kR16_1, kL17, kA17, kS17, kL18, kA18, kS18, kC19, kG19, kP19, kR19_0, kL20, kL141, kL146, kA146, kS146, kL151, kA151, kS151, kL156, kA156, kS156, kC157, kG157, kP157, kR157_0, kR157_1, kL158, kA158, kS158, kL159, kA159, kS159, kC161, kG161, kP161, kR161_0, kR161_1, kL162, kA162, kS162, kL163, kA163, kS163, kC165, kG165, kP165, kR165_0, kR165_1, kR165_2, kR165_3, kL166, kA166, kS166, kL167, kA167, kS167, kL168, kA168, kS168, kL169, kA169, kS169, kC170, kG170, kP170, kR170_0, kR170_1, kR170_2, kL171, kA171, kS171, kL172, kA172, kS172, kL173, kA173, kS173, kC174, kG174, kP174, kR174_0, kR174_1, kR174_2, kR174_3, kR174_4, kL175, kA175, kS175, kL176, kA176, kS176, kL177, kA177, kS177, kL178, kA178, kS178, kL179, kC180, kG180, kP180, kL181, kL182, kA182, kS182, kC183, kG183, kP183, kR183_1, kR183_3, kR183_5, kR183_6, kR183_7, kR183_8, kR183_9, kR183_21, kR183_26, kR183_27, kR183_30, kR183_31, kR183_33, kR183_34, kR183_36, kR183_37, kR183_38, kR183_39, kR183_40, kR183_41, kR183_42, kR183_43, kR183_44, kL184, kA184, kS184, kL185, kA185, kS185, kL186, kA186, kS186, kL187, kA187, kS187, kL188, kA188, kS188, kL189, kL190, kL191, kA191, kS191, kL192, kA192, kS192, kL193, kA193, kS193, kL194, kA194, kS194, kL195, kA195, kS195, kL196, kA196, kS196, kL197, kA197, kS197, kL198, kA198, kS198, kL199, kA199, kS199, kL200, kA200, kS200, kL201, kL202, kA202, kS202, kL203, kA203, kS203, kL204, kA204, kS204, kL205, kL206, kA206, kS206, h4, q1, hb, bl8_ok, hl, Bool.false_eq_true, j1]
end FIND2
end
section
/-! the grammar: what is wanted behind what -/
def dlT (k : Nat) : Option Nat := if k = 6 ∨ k = 7 ∨ k = 8 then some 5 else if k = 9 then some 7 else if k = 10 then some 8 else if k = 11 then some 10 else if k = 12 then some 11 else if k = 15 then some 13 else none
def dl (w k : Nat) : Option Nat := if w = 0 then (if k = 5 then some 1 else none) else if w = 1 then (if k = 2 then some 2 else none) else if w = 2 then (if k = 2 then some 3 else none) else if w = 3 then (if k = 4 then some 4 else none) else if w = 4 then dlT k else if w = 5 then (if k = 3 then some 6 else if k = 2 then some 3 else none) else if w = 6 then (if k = 2 then some 3 else none) else if w = 7 then (if k = 6 ∨ k = 7 then some 3 else none) else if w = 8 then (if k = 2 then some 9 else none) else if w = 9 then (if k = 6 ∨ k = 7 then some 5 else none) else if w = 10 then (if k = 2 then some 5 else none) else if w = 11 then (if k = 2 then some 12 else none) else if w = 12 then (if k = 13 ∨ k = 14 then some 3 else none) else if w = 13 then (if k = 2 then some 3 else none) else none
theorem dl_ok : ∀ w, w < 14 → ∀ k, k < 16 → f_X8_wantBehind (nI w) (nI k) = some (oI (dl w k)) := by decide +kernel
theorem dl_b : ∀ w, w < 14 → ∀ k, k < 16 → (dl w k).all (fun e => decide (e < 14)) = true := by decide +kernel
def ws (b : Nat → Int32) (m : Nat) : Nat → Option Nat
  | 0 => some 0
  | n + 1 => match ws b m n with
    | none => none
    | some w => if tKd b m n = 0 then none else dl w (tKd b m n)
section WANT
variable {b : Nat → Int32} {m : Nat}
theorem ws_s {n w : Nat} (h : ws b m n = some w) : ws b m (n + 1) = if tKd b m n = 0 then none else dl w (tKd b m n) := by
  rw [ws, h]
theorem ws_b : ∀ n w, ws b m n = some w → w < 14
  | 0, w => fun h => by cases h; decide
  | n + 1, w => fun h => by
    cases hn : ws b m n with
    | none =>
      rw [ws, hn] at h; cases h
    | some v =>
      rw [ws_s hn] at h
      have hv := ws_b n v hn
      split at h
      · cases h
      · have := dl_b v hv (tKd b m n) (by have := tKd_b (b := b) (m := m) n; omega)
        rw [h] at this
        exact of_decide_eq_true this
theorem ws_pre : ∀ i w, ws b m i = some w → ∀ j, j < i → ∃ v, ws b m j = some v ∧ tKd b m j ≠ 0 ∧ ∃ u, dl v (tKd b m j) = some u ∧ ws b m (j + 1) = some u
  | 0, w => fun _ j hj => by omega
  | i + 1, w => fun h j hj => by
    cases hi : ws b m i with
    | none =>
      rw [ws, hi] at h; cases h
    | some v =>
      have h' := h
      rw [ws_s hi] at h
      by_cases z : j = i
      · subst z
        by_cases k0 : tKd b m j = 0
        · rw [if_pos k0] at h; cases h
        · rw [if_neg k0] at h
          exact ⟨v, hi, k0, w, h, h'⟩
      · exact ws_pre i v hi j (by omega)
/-- how the reading of the tokens ends -/
def cutR (b : Nat → Int32) (m n r pl : Nat) : Prop := ∃ w, ws b m n = some w ∧ ((r = 0 ∧ pl = 0 ∧ n ≤ 400 ∧ tKd b m n = 0 ∧ w = 4) ∨ (r = 1 ∧ pl = tSt b m n ∧ n ≤ 400 ∧ (tKd b m n = 0 ∧ w ≠ 4 ∨ tKd b m n ≠ 0 ∧ dl w (tKd b m n) = none)) ∨ (r = 2 ∧ pl = tSt b m 400 ∧ n = 401))
theorem cutR_no {n r pl i w : Nat} (h : cutR b m n r pl) (hi : n < i) (h2 : n ≤ 400) (hw : ws b m i = some w) : False := by
  obtain ⟨v, v1, v2, u, v3, v4⟩ := ws_pre i w hw n hi
  obtain ⟨w', w1, h⟩ := h
  rw [w1] at v1
  cases v1
  rcases h with ⟨-, -, -, k0, -⟩ | ⟨-, -, -, ⟨k0, -⟩ | ⟨-, d0⟩⟩ | ⟨-, -, n4⟩
  · exact v2 k0
  · exact v2 k0
  · rw [d0] at v3; cases v3
  · omega
theorem cutR_one {n r pl n' r' pl' : Nat} (h : cutR b m n r pl) (h' : cutR b m n' r' pl') : n = n' ∧ r = r' ∧ pl = pl' := by
  have hn : n ≤ 401 := by
    obtain ⟨w, -, h⟩ := h
    rcases h with h | h | h <;> omega
  have hn' : n' ≤ 401 := by
    obtain ⟨w, -, h⟩ := h'
    rcases h with h | h | h <;> omega
  have e : n = n' := by
    rcases Nat.lt_trichotomy n n' with z | z | z
    · obtain ⟨w, w1, -⟩ := id h'
      exact (cutR_no h z (by omega) w1).elim
    · exact z
    · obtain ⟨w, w1, -⟩ := id h
      exact (cutR_no h' z (by omega) w1).elim
  subst e
  obtain ⟨w, w1, h⟩ := h
  obtain ⟨w', w1', h'⟩ := h'
  rw [w1] at w1'
  cases w1'
  refine ⟨rfl, ?_⟩
  rcases h with ⟨a1, a2, a3, a4, a5⟩ | ⟨a1, a2, a3, ⟨a4, a5⟩ | ⟨a4, a5⟩⟩ | ⟨a1, a2, a3⟩ <;> rcases h' with ⟨b1, b2, b3, b4, b5⟩ | ⟨b1, b2, b3, ⟨b4, b5⟩ | ⟨b4, b5⟩⟩ | ⟨b1, b2, b3⟩ <;> first
    | omega
    | (exfalso; omega)
    | (exfalso; subst a5; subst b5; omega)
    | (exfalso; exact absurd a5 b5)
    | (exfalso; exact absurd b5 a5)
end WANT
/-- the class's tokens as they lie -/
def TKC (J : Nat → Nat → Int32) (b : Nat → Int32) (m n : Nat) : Prop := ∀ i, i < n → J 5 i = nI (tKd b m i) ∧ J 7 i = nI (tSt b m i) ∧ (tKd b m i = 2 → J 6 i = nI (tNu b m i))
section CUT
variable {σ : XS} {J : Nat → Nat → Int32} {m : Nat}
theorem keep8_ok (hS : Shp σ) {n : Nat} {k v p : Int32} (hn : n < 400) (h5 : J 3 5 = nI n) (h6 : J 3 6 = k) (h7 : J 3 7 = v) (h8 : J 3 8 = p) : f_X8_keepToken (xw σ J) 3 = some (xw σ (xup (xup (xup (xup J 5 n k) 6 n v) 7 n p) 3 5 (nI (n + 1)))) := by
  unfold f_X8_keepToken
  have q : ((400 : Int32) ≤ nI n) = False := by rw [show (400 : Int32) = nI 400 from rfl, nn_le (by omega) (by omega)]; exact eq_false (by omega)
  simp (disch := first | assumption | omega) only [Option.bind_some, Option.map_some, xw_gR, xw_gN, xw_al, xw_ck, xw_uI, xw_ur, xup_at, xur_at, if_true, if_false, reduceIte, and_true, true_and, and_false, false_and, not_true_eq_false, not_false_eq_true, Nat.reduceEqDiff, eq_self, Nat.reduceAdd, Nat.reduceMul, kC1, kG1, kP1, kR1_0, kR1_1, kR1_2, kR1_3, kR1_4, kR1_5, kR1_6, kR1_7, kR1_8, kR1_9, kR1_10, kR1_11, kR1_12, kR1_13, kC2, kG2, kP2, kR2_0, kR2_1, kC3, kG3, kP3, kR3_0, kR3_1, kR3_2, kR3_3, kL4, kA4, kS4, kL5, kA5, kS5, kL6, kA6, kS6, kL7, kA7, kS7, kC8, kG8, kP8, kR8_0, kR8_1, kL9, kA9, kS9, kL10, kA10, kS10, kC11, kG11, kP11, kR11_0, kR11_1, kR11_2, kR11_3, kL12, kA12, kS12, kL13, kA13, kS13, kL14, kA14, kS14, kL15, kA15, kS15, kC16, kG16, kP16, kR16_0, kR16_1, kL17, kA17, kS17, kL18, kA18, kS18, kC19, kG19, kP19, kR19_0, kL20, kL141, kL146, kA146, kS146, kL151, kA151, kS151, kL156, kA156, kS156, kC157, kG157, kP157, kR157_0, kR157_1, kL158, kA158, kS158, kL159, kA159, kS159, kC161, kG161, kP161, kR161_0, kR161_1, kL162, kA162, kS162, kL163, kA163, kS163, kC165, kG165, kP165, kR165_0, kR165_1, kR165_2, kR165_3, kL166, kA166, kS166, kL167, kA167, kS167, kL168, kA168, kS168, kL169, kA169, kS169, kC170, kG170, kP170, kR170_0, kR170_1, kR170_2, kL171, kA171, kS171, kL172, kA172, kS172, kL173, kA173, kS173, kC174, kG174, kP174, kR174_0, kR174_1, kR174_2, kR174_3, kR174_4, kL175, kA175, kS175, kL176, kA176, kS176, kL177, kA177, kS177, kL178, kA178, kS178, kL179, kC180, kG180, kP180, kL181, kL182, kA182, kS182, kC183, kG183, kP183, kR183_1, kR183_3, kR183_5, kR183_6, kR183_7, kR183_8, kR183_9, kR183_21, kR183_26, kR183_27, kR183_30, kR183_31, kR183_33, kR183_34, kR183_36, kR183_37, kR183_38, kR183_39, kR183_40, kR183_41, kR183_42, kR183_43, kR183_44, kL184, kA184, kS184, kL185, kA185, kS185, kL186, kA186, kS186, kL187, kA187, kS187, kL188, kA188, kS188, kL189, kL190, kL191, kA191, kS191, kL192, kA192, kS192, kL193, kA193, kS193, kL194, kA194, kS194, kL195, kA195, kS195, kL196, kA196, kS196, kL197, kA197, kS197, kL198, kA198, kS198, kL199, kA199, kS199, kL200, kA200, kS200, kL201, kL202, kA202, kS202, kL203, kA203, kS203, kL204, kA204, kS204, kL205, kL206, kA206, kS206, h5, nn_nneg, q, h6, h7, h8]
  rw [← nI_succ]
theorem keep8_full (hS : Shp σ) (h5 : J 3 5 = nI 400) : f_X8_keepToken (xw σ J) 3 = some (xw σ J) := by
  unfold f_X8_keepToken
  have q : ((400 : Int32) ≤ nI 400) = True := eq_true (by decide)
  simp (disch := first | assumption | omega) only [Option.bind_some, Option.map_some, xw_gR, xw_gN, xw_al, xw_ck, xw_uI, xw_ur, xup_at, xur_at, if_true, if_false, reduceIte, and_true, true_and, and_false, false_and, not_true_eq_false, not_false_eq_true, Nat.reduceEqDiff, eq_self, Nat.reduceAdd, Nat.reduceMul, kC1, kG1, kP1, kR1_0, kR1_1, kR1_2, kR1_3, kR1_4, kR1_5, kR1_6, kR1_7, kR1_8, kR1_9, kR1_10, kR1_11, kR1_12, kR1_13, kC2, kG2, kP2, kR2_0, kR2_1, kC3, kG3, kP3, kR3_0, kR3_1, kR3_2, kR3_3, kL4, kA4, kS4, kL5, kA5, kS5, kL6, kA6, kS6, kL7, kA7, kS7, kC8, kG8, kP8, kR8_0, kR8_1, kL9, kA9, kS9, kL10, kA10, kS10, kC11, kG11, kP11, kR11_0, kR11_1, kR11_2, kR11_3, kL12, kA12, kS12, kL13, kA13, kS13, kL14, kA14, kS14, kL15, kA15, kS15, kC16, kG16, kP16, kR16_0, kR16_1, kL17, kA17, kS17, kL18, kA18, kS18, kC19, kG19, kP19, kR19_0, kL20, kL141, kL146, kA146, kS146, kL151, kA151, kS151, kL156, kA156, kS156, kC157, kG157, kP157, kR157_0, kR157_1, kL158, kA158, kS158, kL159, kA159, kS159, kC161, kG161, kP161, kR161_0, kR161_1, kL162, kA162, kS162, kL163, kA163, kS163, kC165, kG165, kP165, kR165_0, kR165_1, kR165_2, kR165_3, kL166, kA166, kS166, kL167, kA167, kS167, kL168, kA168, kS168, kL169, kA169, kS169, kC170, kG170, kP170, kR170_0, kR170_1, kR170_2, kL171, kA171, kS171, kL172, kA172, kS172, kL173, kA173, kS173, kC174, kG174, kP174, kR174_0, kR174_1, kR174_2, kR174_3, kR174_4, kL175, kA175, kS175, kL176, kA176, kS176, kL177, kA177, kS177, kL178, kA178, kS178, kL179, kC180, kG180, kP180, kL181, kL182, kA182, kS182, kC183, kG183, kP183, kR183_1, kR183_3, kR183_5, kR183_6, kR183_7, kR183_8, kR183_9, kR183_21, kR183_26, kR183_27, kR183_30, kR183_31, kR183_33, kR183_34, kR183_36, kR183_37, kR183_38, kR183_39, kR183_40, kR183_41, kR183_42, kR183_43, kR183_44, kL184, kA184, kS184, kL185, kA185, kS185, kL186, kA186, kS186, kL187, kA187, kS187, kL188, kA188, kS188, kL189, kL190, kL191, kA191, kS191, kL192, kA192, kS192, kL193, kA193, kS193, kL194, kA194, kS194, kL195, kA195, kS195, kL196, kA196, kS196, kL197, kA197, kS197, kL198, kA198, kS198, kL199, kA199, kS199, kL200, kA200, kS200, kL201, kL202, kA202, kS202, kL203, kA203, kS203, kL204, kA204, kS204, kL205, kL206, kA206, kS206, h5, nn_nneg, q]
theorem cut_ok (hS : Shp σ) (hm : m ≤ 2000) (h4 : J 3 4 = nI m) : ∃ (r n pl : Nat) (J' : Nat → Nat → Int32), f_X8_cut (xw σ J) 3 = some (nI r, xw σ J') ∧ cutR (J 4) m n r pl ∧ (r = 0 → J' 3 5 = nI n ∧ TKC J' (J 4) m n) ∧ (r ≠ 0 → J' 3 8 = nI pl) ∧ ∀ a q, ¬ ((a = 3 ∧ 5 ≤ q ∧ q ≤ 9) ∨ (5 ≤ a ∧ a ≤ 7)) → J' a q = J a q := by
  obtain ⟨b, hb⟩ : ∃ b, b = J 4 := ⟨_, rfl⟩
  rw [← hb]
  unfold f_X8_cut
  simp (disch := first | assumption | omega) only [Option.bind_some, Option.map_some, xw_gR, xw_gN, xw_al, xw_ck, xw_uI, xw_ur, xup_at, xur_at, if_true, if_false, reduceIte, and_true, true_and, and_false, false_and, not_true_eq_false, not_false_eq_true, Nat.reduceEqDiff, eq_self, Nat.reduceAdd, Nat.reduceMul, kC1, kG1, kP1, kR1_0, kR1_1, kR1_2, kR1_3, kR1_4, kR1_5, kR1_6, kR1_7, kR1_8, kR1_9, kR1_10, kR1_11, kR1_12, kR1_13, kC2, kG2, kP2, kR2_0, kR2_1, kC3, kG3, kP3, kR3_0, kR3_1, kR3_2, kR3_3, kL4, kA4, kS4, kL5, kA5, kS5, kL6, kA6, kS6, kL7, kA7, kS7, kC8, kG8, kP8, kR8_0, kR8_1, kL9, kA9, kS9, kL10, kA10, kS10, kC11, kG11, kP11, kR11_0, kR11_1, kR11_2, kR11_3, kL12, kA12, kS12, kL13, kA13, kS13, kL14, kA14, kS14, kL15, kA15, kS15, kC16, kG16, kP16, kR16_0, kR16_1, kL17, kA17, kS17, kL18, kA18, kS18, kC19, kG19, kP19, kR19_0, kL20, kL141, kL146, kA146, kS146, kL151, kA151, kS151, kL156, kA156, kS156, kC157, kG157, kP157, kR157_0, kR157_1, kL158, kA158, kS158, kL159, kA159, kS159, kC161, kG161, kP161, kR161_0, kR161_1, kL162, kA162, kS162, kL163, kA163, kS163, kC165, kG165, kP165, kR165_0, kR165_1, kR165_2, kR165_3, kL166, kA166, kS166, kL167, kA167, kS167, kL168, kA168, kS168, kL169, kA169, kS169, kC170, kG170, kP170, kR170_0, kR170_1, kR170_2, kL171, kA171, kS171, kL172, kA172, kS172, kL173, kA173, kS173, kC174, kG174, kP174, kR174_0, kR174_1, kR174_2, kR174_3, kR174_4, kL175, kA175, kS175, kL176, kA176, kS176, kL177, kA177, kS177, kL178, kA178, kS178, kL179, kC180, kG180, kP180, kL181, kL182, kA182, kS182, kC183, kG183, kP183, kR183_1, kR183_3, kR183_5, kR183_6, kR183_7, kR183_8, kR183_9, kR183_21, kR183_26, kR183_27, kR183_30, kR183_31, kR183_33, kR183_34, kR183_36, kR183_37, kR183_38, kR183_39, kR183_40, kR183_41, kR183_42, kR183_43, kR183_44, kL184, kA184, kS184, kL185, kA185, kS185, kL186, kA186, kS186, kL187, kA187, kS187, kL188, kA188, kS188, kL189, kL190, kL191, kA191, kS191, kL192, kA192, kS192, kL193, kA193, kS193, kL194, kA194, kS194, kL195, kA195, kS195, kL196, kA196, kS196, kL197, kA197, kS197, kL198, kA198, kS198, kL199, kA199, kS199, kL200, kA200, kS200, kL201, kL202, kA202, kS202, kL203, kA203, kS203, kL204, kA204, kS204, kL205, kL206, kA206, kS206]
  have key := xloop_run (f := f_X8_cut_b14 3) (fun k a => ∃ (n w : Nat) (J' : Nat → Nat → Int32), a = (nI w, nI n, xw σ J') ∧ k = 401 - n ∧ n ≤ 401 ∧ ws b m n = some w ∧ J' 3 5 = nI (min n 400) ∧ J' 3 9 = nI (tPo b m n) ∧ TKC J' b m (min n 400) ∧ (n = 401 → J' 3 8 = nI (tSt b m 400)) ∧ ∀ a q, ¬ ((a = 3 ∧ 5 ≤ q ∧ q ≤ 9) ∨ (5 ≤ a ∧ a ≤ 7)) → J' a q = J a q) (fun z => ∃ (r n pl : Nat) (J' : Nat → Nat → Int32), z = (nI r, xw σ J') ∧ cutR b m n r pl ∧ (r = 0 → J' 3 5 = nI n ∧ TKC J' b m n) ∧ (r ≠ 0 → J' 3 8 = nI pl) ∧ ∀ a q, ¬ ((a = 3 ∧ 5 ≤ q ∧ q ≤ 9) ∨ (5 ≤ a ∧ a ≤ 7)) → J' a q = J a q) ?_ (401 - 0) ((0 : Int32), (0 : Int32), xw σ (xup (xup J 3 5 0) 3 9 0)) ⟨0, 0, _, rfl, rfl, by omega, rfl, by rw [xup_at, if_neg (by omega), xup_at, if_pos ⟨rfl, rfl⟩]; rfl, by rw [xup_at, if_pos ⟨rfl, rfl⟩]; rfl, fun i hi => by omega, fun z => by omega, fun a q hq => by rw [xup_at, if_neg (by omega), xup_at, if_neg (by omega)]⟩
  · obtain ⟨z, e, r, n, pl, J', rfl, rest⟩ := key
    exact ⟨r, n, pl, J', e, rest⟩
  · rintro k a ⟨n, w, J', rfl, rfl, hn, hw, v5, v9, tk, v8, u⟩
    have hw14 := ws_b n w hw
    by_cases h401 : n = 401
    · left
      refine ⟨(nI 2, xw σ J'), ?_, 2, n, tSt b m 400, J', rfl, ⟨w, hw, .inr (.inr ⟨rfl, rfl, h401⟩)⟩, fun z => by omega, fun _ => v8 h401, u⟩
      simp only [f_X8_cut_b14]
      rw [if_pos (by rw [h401]; decide)]
      rfl
    · have q0 : ((400 : Int32) < nI n) = False := by rw [show (400 : Int32) = nI 400 from rfl, nn_lt (by omega) (by omega)]; exact eq_false (by omega)
      have u4 : J' 3 4 = nI m := by rw [u _ _ (by omega)]; exact h4
      have u3 : J' 4 = b := by rw [hb]; funext k; exact u 4 k (by omega)
      obtain ⟨J2, j1, j2, j3, j4, j5, j6⟩ := findTok_ok (σ := σ) (J := J') hS hm u4 (tPo_b (b := b) (m := m) n)
      rw [u3] at j2 j3 j4 j5
      have j2 : J2 3 8 = nI (tSt b m n) := j2
      have j3 : J2 3 9 = nI (tPo b m (n + 1)) := j3
      have j4 : J2 3 6 = nI (tKd b m n) := j4
      have j5 : tKd b m n = 2 → J2 3 7 = nI (tNu b m n) := j5
      have kb := tKd_b (b := b) (m := m) n
      have u2 : ∀ a q, ¬ ((a = 3 ∧ 5 ≤ q ∧ q ≤ 9) ∨ (5 ≤ a ∧ a ≤ 7)) → J2 a q = J a q := fun a q hq => by rw [j6 a q (by omega)]; exact u a q hq
      have t5 : J2 3 5 = nI (min n 400) := by rw [j6 _ _ (by omega)]; exact v5
      have tk2 : TKC J2 b m (min n 400) := fun i hi => by rw [j6 5 i (by omega), j6 7 i (by omega), j6 6 i (by omega)]; exact tk i hi
      by_cases k0 : tKd b m n = 0
      · left
        have mn : min n 400 = n := by omega
        rw [mn] at t5 tk2
        have q1 : (nI (tKd b m n) = 0) = True := by rw [k0]; exact eq_true rfl
        have q4 : (nI w = (4 : Int32)) = (w = 4) := nn_eq (b := 4) (by omega) (by decide)
        by_cases w4 : w = 4
        · refine ⟨(nI 0, xw σ J2), ?_, 0, n, 0, J2, rfl, ⟨w, hw, .inl ⟨rfl, rfl, by omega, k0, w4⟩⟩, fun _ => ⟨t5, tk2⟩, fun z => absurd rfl z, u2⟩
          simp only [f_X8_cut_b14]
          simp (disch := first | assumption | omega) only [Option.bind_some, Option.map_some, xw_gR, xw_gN, xw_al, xw_ck, xw_uI, xw_ur, xup_at, xur_at, if_true, if_false, reduceIte, and_true, true_and, and_false, false_and, not_true_eq_false, not_false_eq_true, Nat.reduceEqDiff, eq_self, Nat.reduceAdd, Nat.reduceMul, kC1, kG1, kP1, kR1_0, kR1_1, kR1_2, kR1_3, kR1_4, kR1_5, kR1_6, kR1_7, kR1_8, kR1_9, kR1_10, kR1_11, kR1_12, kR1_13, kC2, kG2, kP2, kR2_0, kR2_1, kC3, kG3, kP3, kR3_0, kR3_1, kR3_2, kR3_3, kL4, kA4, kS4, kL5, kA5, kS5, kL6, kA6, kS6, kL7, kA7, kS7, kC8, kG8, kP8, kR8_0, kR8_1, kL9, kA9, kS9, kL10, kA10, kS10, kC11, kG11, kP11, kR11_0, kR11_1, kR11_2, kR11_3, kL12, kA12, kS12, kL13, kA13, kS13, kL14, kA14, kS14, kL15, kA15, kS15, kC16, kG16, kP16, kR16_0, kR16_1, kL17, kA17, kS17, kL18, kA18, kS18, kC19, kG19, kP19, kR19_0, kL20, kL141, kL146, kA146, kS146, kL151, kA151, kS151, kL156, kA156, kS156, kC157, kG157, kP157, kR157_0, kR157_1, kL158, kA158, kS158, kL159, kA159, kS159, kC161, kG161, kP161, kR161_0, kR161_1, kL162, kA162, kS162, kL163, kA163, kS163, kC165, kG165, kP165, kR165_0, kR165_1, kR165_2, kR165_3, kL166, kA166, kS166, kL167, kA167, kS167, kL168, kA168, kS168, kL169, kA169, kS169, kC170, kG170, kP170, kR170_0, kR170_1, kR170_2, kL171, kA171, kS171, kL172, kA172, kS172, kL173, kA173, kS173, kC174, kG174, kP174, kR174_0, kR174_1, kR174_2, kR174_3, kR174_4, kL175, kA175, kS175, kL176, kA176, kS176, kL177, kA177, kS177, kL178, kA178, kS178, kL179, kC180, kG180, kP180, kL181, kL182, kA182, kS182, kC183, kG183, kP183, kR183_1, kR183_3, kR183_5, kR183_6, kR183_7, kR183_8, kR183_9, kR183_21, kR183_26, kR183_27, kR183_30, kR183_31, kR183_33, kR183_34, kR183_36, kR183_37, kR183_38, kR183_39, kR183_40, kR183_41, kR183_42, kR183_43, kR183_44, kL184, kA184, kS184, kL185, kA185, kS185, kL186, kA186, kS186, kL187, kA187, kS187, kL188, kA188, kS188, kL189, kL190, kL191, kA191, kS191, kL192, kA192, kS192, kL193, kA193, kS193, kL194, kA194, kS194, kL195, kA195, kS195, kL196, kA196, kS196, kL197, kA197, kS197, kL198, kA198, kS198, kL199, kA199, kS199, kL200, kA200, kS200, kL201, kL202, kA202, kS202, kL203, kA203, kS203, kL204, kA204, kS204, kL205, kL206, kA206, kS206, q0, v9, j1, j4, q1, q4, w4]
          rfl
        · refine ⟨(nI 1, xw σ J2), ?_, 1, n, tSt b m n, J2, rfl, ⟨w, hw, .inr (.inl ⟨rfl, rfl, by omega, .inl ⟨k0, w4⟩⟩)⟩, fun z => by omega, fun _ => j2, u2⟩
          simp only [f_X8_cut_b14]
          simp (disch := first | assumption | omega) only [Option.bind_some, Option.map_some, xw_gR, xw_gN, xw_al, xw_ck, xw_uI, xw_ur, xup_at, xur_at, if_true, if_false, reduceIte, and_true, true_and, and_false, false_and, not_true_eq_false, not_false_eq_true, Nat.reduceEqDiff, eq_self, Nat.reduceAdd, Nat.reduceMul, kC1, kG1, kP1, kR1_0, kR1_1, kR1_2, kR1_3, kR1_4, kR1_5, kR1_6, kR1_7, kR1_8, kR1_9, kR1_10, kR1_11, kR1_12, kR1_13, kC2, kG2, kP2, kR2_0, kR2_1, kC3, kG3, kP3, kR3_0, kR3_1, kR3_2, kR3_3, kL4, kA4, kS4, kL5, kA5, kS5, kL6, kA6, kS6, kL7, kA7, kS7, kC8, kG8, kP8, kR8_0, kR8_1, kL9, kA9, kS9, kL10, kA10, kS10, kC11, kG11, kP11, kR11_0, kR11_1, kR11_2, kR11_3, kL12, kA12, kS12, kL13, kA13, kS13, kL14, kA14, kS14, kL15, kA15, kS15, kC16, kG16, kP16, kR16_0, kR16_1, kL17, kA17, kS17, kL18, kA18, kS18, kC19, kG19, kP19, kR19_0, kL20, kL141, kL146, kA146, kS146, kL151, kA151, kS151, kL156, kA156, kS156, kC157, kG157, kP157, kR157_0, kR157_1, kL158, kA158, kS158, kL159, kA159, kS159, kC161, kG161, kP161, kR161_0, kR161_1, kL162, kA162, kS162, kL163, kA163, kS163, kC165, kG165, kP165, kR165_0, kR165_1, kR165_2, kR165_3, kL166, kA166, kS166, kL167, kA167, kS167, kL168, kA168, kS168, kL169, kA169, kS169, kC170, kG170, kP170, kR170_0, kR170_1, kR170_2, kL171, kA171, kS171, kL172, kA172, kS172, kL173, kA173, kS173, kC174, kG174, kP174, kR174_0, kR174_1, kR174_2, kR174_3, kR174_4, kL175, kA175, kS175, kL176, kA176, kS176, kL177, kA177, kS177, kL178, kA178, kS178, kL179, kC180, kG180, kP180, kL181, kL182, kA182, kS182, kC183, kG183, kP183, kR183_1, kR183_3, kR183_5, kR183_6, kR183_7, kR183_8, kR183_9, kR183_21, kR183_26, kR183_27, kR183_30, kR183_31, kR183_33, kR183_34, kR183_36, kR183_37, kR183_38, kR183_39, kR183_40, kR183_41, kR183_42, kR183_43, kR183_44, kL184, kA184, kS184, kL185, kA185, kS185, kL186, kA186, kS186, kL187, kA187, kS187, kL188, kA188, kS188, kL189, kL190, kL191, kA191, kS191, kL192, kA192, kS192, kL193, kA193, kS193, kL194, kA194, kS194, kL195, kA195, kS195, kL196, kA196, kS196, kL197, kA197, kS197, kL198, kA198, kS198, kL199, kA199, kS199, kL200, kA200, kS200, kL201, kL202, kA202, kS202, kL203, kA203, kS203, kL204, kA204, kS204, kL205, kL206, kA206, kS206, q0, v9, j1, j4, q1, q4, w4]
          rfl
      · have q1 : (nI (tKd b m n) = 0) = False := by
          have : (nI (tKd b m n) = nI 0) = (tKd b m n = 0) := nn_eq (by omega) (by omega)
          exact this.trans (eq_false k0)
        have dk := dl_ok w hw14 (tKd b m n) (by omega)
        cases hd : dl w (tKd b m n) with
        | none =>
          left
          rw [hd] at dk
          refine ⟨(nI 1, xw σ J2), ?_, 1, n, tSt b m n, J2, rfl, ⟨w, hw, .inr (.inl ⟨rfl, rfl, by omega, .inr ⟨k0, hd⟩⟩)⟩, fun z => by omega, fun _ => j2, u2⟩
          simp only [f_X8_cut_b14]
          have q2 : (oI none = -1) = True := eq_true rfl
          simp (disch := first | assumption | omega) only [Option.bind_some, Option.map_some, xw_gR, xw_gN, xw_al, xw_ck, xw_uI, xw_ur, xup_at, xur_at, if_true, if_false, reduceIte, and_true, true_and, and_false, false_and, not_true_eq_false, not_false_eq_true, Nat.reduceEqDiff, eq_self, Nat.reduceAdd, Nat.reduceMul, kC1, kG1, kP1, kR1_0, kR1_1, kR1_2, kR1_3, kR1_4, kR1_5, kR1_6, kR1_7, kR1_8, kR1_9, kR1_10, kR1_11, kR1_12, kR1_13, kC2, kG2, kP2, kR2_0, kR2_1, kC3, kG3, kP3, kR3_0, kR3_1, kR3_2, kR3_3, kL4, kA4, kS4, kL5, kA5, kS5, kL6, kA6, kS6, kL7, kA7, kS7, kC8, kG8, kP8, kR8_0, kR8_1, kL9, kA9, kS9, kL10, kA10, kS10, kC11, kG11, kP11, kR11_0, kR11_1, kR11_2, kR11_3, kL12, kA12, kS12, kL13, kA13, kS13, kL14, kA14, kS14, kL15, kA15, kS15, kC16, kG16, kP16, kR16_0, kR16_1, kL17, kA17, kS17, kL18, kA18, kS18, kC19, kG19, kP19, kR19_0, kL20, kL141, kL146, kA146, kS146, kL151, kA151, kS151, kL156, kA156, kS156, kC157, kG157, kP157, kR157_0, kR157_1, kL158, kA158, kS158, kL159, kA159, kS159, kC161, kG161, kP161, kR161_0, kR161_1, kL162, kA162, kS162, kL163, kA163, kS163, kC165, kG165, kP165, kR165_0, kR165_1, kR165_2, kR165_3, kL166, kA166, kS166, kL167, kA167, kS167, kL168, kA168, kS168, kL169, kA169, kS169, kC170, kG170, kP170, kR170_0, kR170_1, kR170_2, kL171, kA171, kS171, kL172, kA172, kS172, kL173, kA173, kS173, kC174, kG174, kP174, kR174_0, kR174_1, kR174_2, kR174_3, kR174_4, kL175, kA175, kS175, kL176, kA176, kS176, kL177, kA177, kS177, kL178, kA178, kS178, kL179, kC180, kG180, kP180, kL181, kL182, kA182, kS182, kC183, kG183, kP183, kR183_1, kR183_3, kR183_5, kR183_6, kR183_7, kR183_8, kR183_9, kR183_21, kR183_26, kR183_27, kR183_30, kR183_31, kR183_33, kR183_34, kR183_36, kR183_37, kR183_38, kR183_39, kR183_40, kR183_41, kR183_42, kR183_43, kR183_44, kL184, kA184, kS184, kL185, kA185, kS185, kL186, kA186, kS186, kL187, kA187, kS187, kL188, kA188, kS188, kL189, kL190, kL191, kA191, kS191, kL192, kA192, kS192, kL193, kA193, kS193, kL194, kA194, kS194, kL195, kA195, kS195, kL196, kA196, kS196, kL197, kA197, kS197, kL198, kA198, kS198, kL199, kA199, kS199, kL200, kA200, kS200, kL201, kL202, kA202, kS202, kL203, kA203, kS203, kL204, kA204, kS204, kL205, kL206, kA206, kS206, q0, v9, j1, j4, q1, dk, q2]
          rfl
        | some w' =>
          right
          rw [hd] at dk
          have hw' : ws b m (n + 1) = some w' := by rw [ws_s hw, if_neg k0]; exact hd
          have w14 := ws_b (n + 1) w' hw'
          have q2 : (oI (some w') = -1) = False := nn_m1 (by omega)
          by_cases h400 : n = 400
          · have kf := keep8_full (σ := σ) (J := J2) hS (by rw [t5, h400]; rfl)
            refine ⟨401 - (n + 1), (nI w', nI (n + 1), xw σ J2), by omega, ?_, n + 1, w', J2, rfl, rfl, by omega, hw', ?_, j3, ?_, fun _ => by rw [j2, h400], u2⟩
            · simp only [f_X8_cut_b14]
              simp (disch := first | assumption | omega) only [Option.bind_some, Option.map_some, xw_gR, xw_gN, xw_al, xw_ck, xw_uI, xw_ur, xup_at, xur_at, if_true, if_false, reduceIte, and_true, true_and, and_false, false_and, not_true_eq_false, not_false_eq_true, Nat.reduceEqDiff, eq_self, Nat.reduceAdd, Nat.reduceMul, kC1, kG1, kP1, kR1_0, kR1_1, kR1_2, kR1_3, kR1_4, kR1_5, kR1_6, kR1_7, kR1_8, kR1_9, kR1_10, kR1_11, kR1_12, kR1_13, kC2, kG2, kP2, kR2_0, kR2_1, kC3, kG3, kP3, kR3_0, kR3_1, kR3_2, kR3_3, kL4, kA4, kS4, kL5, kA5, kS5, kL6, kA6, kS6, kL7, kA7, kS7, kC8, kG8, kP8, kR8_0, kR8_1, kL9, kA9, kS9, kL10, kA10, kS10, kC11, kG11, kP11, kR11_0, kR11_1, kR11_2, kR11_3, kL12, kA12, kS12, kL13, kA13, kS13, kL14, kA14, kS14, kL15, kA15, kS15, kC16, kG16, kP16, kR16_0, kR16_1, kL17, kA17, kS17, kL18, kA18, kS18, kC19, kG19, kP19, kR19_0, kL20, kL141, kL146, kA146, kS146, kL151, kA151, kS151, kL156, kA156, kS156, kC157, kG157, kP157, kR157_0, kR157_1, kL158, kA158, kS158, kL159, kA159, kS159, kC161, kG161, kP161, kR161_0, kR161_1, kL162, kA162, kS162, kL163, kA163, kS163, kC165, kG165, kP165, kR165_0, kR165_1, kR165_2, kR165_3, kL166, kA166, kS166, kL167, kA167, kS167, kL168, kA168, kS168, kL169, kA169, kS169, kC170, kG170, kP170, kR170_0, kR170_1, kR170_2, kL171, kA171, kS171, kL172, kA172, kS172, kL173, kA173, kS173, kC174, kG174, kP174, kR174_0, kR174_1, kR174_2, kR174_3, kR174_4, kL175, kA175, kS175, kL176, kA176, kS176, kL177, kA177, kS177, kL178, kA178, kS178, kL179, kC180, kG180, kP180, kL181, kL182, kA182, kS182, kC183, kG183, kP183, kR183_1, kR183_3, kR183_5, kR183_6, kR183_7, kR183_8, kR183_9, kR183_21, kR183_26, kR183_27, kR183_30, kR183_31, kR183_33, kR183_34, kR183_36, kR183_37, kR183_38, kR183_39, kR183_40, kR183_41, kR183_42, kR183_43, kR183_44, kL184, kA184, kS184, kL185, kA185, kS185, kL186, kA186, kS186, kL187, kA187, kS187, kL188, kA188, kS188, kL189, kL190, kL191, kA191, kS191, kL192, kA192, kS192, kL193, kA193, kS193, kL194, kA194, kS194, kL195, kA195, kS195, kL196, kA196, kS196, kL197, kA197, kS197, kL198, kA198, kS198, kL199, kA199, kS199, kL200, kA200, kS200, kL201, kL202, kA202, kS202, kL203, kA203, kS203, kL204, kA204, kS204, kL205, kL206, kA206, kS206, q0, v9, j1, j4, q1, dk, q2, kf]
              rw [nI_succ]
              rfl
            · rw [t5]; congr 1; omega
            · rw [show min (n + 1) 400 = min n 400 by omega]; exact tk2
          · have mn : min n 400 = n := by omega
            rw [mn] at t5 tk2
            have kp := keep8_ok (σ := σ) (J := J2) hS (show n < 400 by omega) t5 j4 rfl j2
            refine ⟨401 - (n + 1), _, by omega, ?_, n + 1, w', xup (xup (xup (xup J2 5 n (nI (tKd b m n))) 6 n (J2 3 7)) 7 n (nI (tSt b m n))) 3 5 (nI (n + 1)), rfl, rfl, by omega, hw', ?_, ?_, fun i hi => ?_, fun z => by omega, fun a q hq => ?_⟩
            · simp only [f_X8_cut_b14]
              simp (disch := first | assumption | omega) only [Option.bind_some, Option.map_some, xw_gR, xw_gN, xw_al, xw_ck, xw_uI, xw_ur, xup_at, xur_at, if_true, if_false, reduceIte, and_true, true_and, and_false, false_and, not_true_eq_false, not_false_eq_true, Nat.reduceEqDiff, eq_self, Nat.reduceAdd, Nat.reduceMul, kC1, kG1, kP1, kR1_0, kR1_1, kR1_2, kR1_3, kR1_4, kR1_5, kR1_6, kR1_7, kR1_8, kR1_9, kR1_10, kR1_11, kR1_12, kR1_13, kC2, kG2, kP2, kR2_0, kR2_1, kC3, kG3, kP3, kR3_0, kR3_1, kR3_2, kR3_3, kL4, kA4, kS4, kL5, kA5, kS5, kL6, kA6, kS6, kL7, kA7, kS7, kC8, kG8, kP8, kR8_0, kR8_1, kL9, kA9, kS9, kL10, kA10, kS10, kC11, kG11, kP11, kR11_0, kR11_1, kR11_2, kR11_3, kL12, kA12, kS12, kL13, kA13, kS13, kL14, kA14, kS14, kL15, kA15, kS15, kC16, kG16, kP16, kR16_0, kR16_1, kL17, kA17, kS17, kL18, kA18, kS18, kC19, kG19, kP19, kR19_0, kL20, kL141, kL146, kA146, kS146, kL151, kA151, kS151, kL156, kA156, kS156, kC157, kG157, kP157, kR157_0, kR157_1, kL158, kA158, kS158, kL159, kA159, kS159, kC161, kG161, kP161, kR161_0, kR161_1, kL162, kA162, kS162, kL163, kA163, kS163, kC165, kG165, kP165, kR165_0, kR165_1, kR165_2, kR165_3, kL166, kA166, kS166, kL167, kA167, kS167, kL168, kA168, kS168, kL169, kA169, kS169, kC170, kG170, kP170, kR170_0, kR170_1, kR170_2, kL171, kA171, kS171, kL172, kA172, kS172, kL173, kA173, kS173, kC174, kG174, kP174, kR174_0, kR174_1, kR174_2, kR174_3, kR174_4, kL175, kA175, kS175, kL176, kA176, kS176, kL177, kA177, kS177, kL178, kA178, kS178, kL179, kC180, kG180, kP180, kL181, kL182, kA182, kS182, kC183, kG183, kP183, kR183_1, kR183_3, kR183_5, kR183_6, kR183_7, kR183_8, kR183_9, kR183_21, kR183_26, kR183_27, kR183_30, kR183_31, kR183_33, kR183_34, kR183_36, kR183_37, kR183_38, kR183_39, kR183_40, kR183_41, kR183_42, kR183_43, kR183_44, kL184, kA184, kS184, kL185, kA185, kS185, kL186, kA186, kS186, kL187, kA187, kS187, kL188, kA188, kS188, kL189, kL190, kL191, kA191, kS191, kL192, kA192, kS192, kL193, kA193, kS193, kL194, kA194, kS194, kL195, kA195, kS195, kL196, kA196, kS196, kL197, kA197, kS197, kL198, kA198, kS198, kL199, kA199, kS199, kL200, kA200, kS200, kL201, kL202, kA202, kS202, kL203, kA203, kS203, kL204, kA204, kS204, kL205, kL206, kA206, kS206, q0, v9, j1, j4, q1, dk, q2, kp]
              rw [nI_succ]
              rfl
            · rw [xup_at, if_pos ⟨rfl, rfl⟩]; congr 1; omega
            · rw [xup_at, if_neg (by omega), xup_at, if_neg (by omega), xup_at, if_neg (by omega), xup_at, if_neg (by omega)]; exact j3
            · have hi' : i < n + 1 := by omega
              simp only [xup_at]
              by_cases z : i = n
              · subst z
                simp only [Nat.reduceEqDiff, false_and, true_and, if_true, if_false, and_true, and_self, eq_self]
                first
                  | exact ⟨trivial, trivial, j5⟩
                  | exact j5
                  | exact ⟨rfl, rfl, j5⟩
              · have := tk2 i (by omega)
                simp only [Nat.reduceEqDiff, false_and, true_and, if_false, z, and_false]
                exact this
            · rw [xup_at, if_neg (by omega), xup_at, if_neg (by omega), xup_at, if_neg (by omega), xup_at, if_neg (by omega)]; exact u2 a q hq
end CUT
end
section
/-! the model cuts the text -/
theorem b255 : ∀ k : Nat, k < 256 → (isLt (iI ((k : Int) - 128) &&& 255) = isLt (iI ((k : Int) - 128)) ∧ isDg (iI ((k : Int) - 128) &&& 255) = isDg (iI ((k : Int) - 128)) ∧ isBl (iI ((k : Int) - 128) &&& 255) = isBl (iI ((k : Int) - 128)) ∧ decide (iI ((k : Int) - 128) &&& 255 = 45) = decide (iI ((k : Int) - 128) = 45) ∧ decide (iI ((k : Int) - 128) &&& 255 = 59) = decide (iI ((k : Int) - 128) = 59) ∧ (128 ≤ k → iI ((k : Int) - 128) &&& 255 = iI ((k : Int) - 128))) := by decide +kernel
def byB (x : Int32) : Prop := -128 ≤ x.toInt ∧ x.toInt < 128
theorem b255_x {x : Int32} (h : byB x) : isLt (x &&& 255) = isLt x ∧ isDg (x &&& 255) = isDg x ∧ isBl (x &&& 255) = isBl x ∧ ((x &&& 255) = 45 ↔ x = 45) ∧ ((x &&& 255) = 59 ↔ x = 59) ∧ (0 ≤ x.toInt → x &&& 255 = x) := by
  have h1 := h.1
  have h2 := h.2
  have e : iI (((x.toInt + 128).toNat : Int) - 128) = x := by
    rw [show (((x.toInt + 128).toNat : Int) - 128) = x.toInt by omega]
    exact (iI_of x).symm
  have := b255 (x.toInt + 128).toNat (by omega)
  rw [e] at this
  obtain ⟨a1, a2, a3, a4, a5, a6⟩ := this
  refine ⟨a1, a2, a3, ?_, ?_, fun z => a6 (by omega)⟩
  · exact decide_eq_decide.mp a4
  · exact decide_eq_decide.mp a5
theorem lt12_ok (x : Int32) : f_X12_isLetter x = some (if isLt x then 1 else 0) := lt8_ok x
theorem dg12_ok (x : Int32) : f_X12_isDigit x = some (if isDg x then 1 else 0) := dg8_ok x
/-- a kind in the model's numbers -/
def kmN (k : Nat) : Nat := if k = 3 then 5 else if 5 ≤ k then k + 15 else k
def KMr (k : Nat) (x : Int32) : Prop := (k = 1 ∧ (x = 1 ∨ x = 3)) ∨ (k ≠ 1 ∧ x = nI (kmN k))
/-- the model's tokens as they lie -/
def TKM (J : Nat → Nat → Int32) (b : Nat → Int32) (m n : Nat) : Prop := ∀ i, i < n → KMr (tKd b m i) (J 186 i) ∧ J 187 i = nI (tSt b m i) ∧ (tKd b m i = 2 → J 188 i = nI (tNu b m i))
section CUT12
variable {τ : XS} {J : Nat → Nat → Int32} {m : Nat} {b : Nat → Int32}
/-- the text at hand -/
def TX (J : Nat → Nat → Int32) (b : Nat → Int32) (m : Nat) : Prop := m ≤ 2000 ∧ J 183 4 = nI m ∧ ∀ k, k < m → J 185 k = b k ∧ byB (b k)
theorem byte12_ok (hS : Shp τ) (hX : TX J b m) {k : Nat} (hk : k < m) : f_X12_byteAt (xw τ J) 183 (nI k) = some (b k &&& 255) := by
  obtain ⟨hm, h4, hb⟩ := hX
  unfold f_X12_byteAt
  have q1 : (nI m ≤ nI k) = False := by rw [nn_le (by omega) (by omega)]; exact eq_false (by omega)
  have k20 : k < 2000 := by omega
  simp (disch := first | assumption | omega) only [Option.bind_some, Option.map_some, xw_gR, xw_gN, xw_al, xw_ck, xw_uI, xw_ur, xup_at, xur_at, if_true, if_false, reduceIte, and_true, true_and, and_false, false_and, not_true_eq_false, not_false_eq_true, Nat.reduceEqDiff, eq_self, Nat.reduceAdd, Nat.reduceMul, kC1, kG1, kP1, kR1_0, kR1_1, kR1_2, kR1_3, kR1_4, kR1_5, kR1_6, kR1_7, kR1_8, kR1_9, kR1_10, kR1_11, kR1_12, kR1_13, kC2, kG2, kP2, kR2_0, kR2_1, kC3, kG3, kP3, kR3_0, kR3_1, kR3_2, kR3_3, kL4, kA4, kS4, kL5, kA5, kS5, kL6, kA6, kS6, kL7, kA7, kS7, kC8, kG8, kP8, kR8_0, kR8_1, kL9, kA9, kS9, kL10, kA10, kS10, kC11, kG11, kP11, kR11_0, kR11_1, kR11_2, kR11_3, kL12, kA12, kS12, kL13, kA13, kS13, kL14, kA14, kS14, kL15, kA15, kS15, kC16, kG16, kP16, kR16_0, kR16_1, kL17, kA17, kS17, kL18, kA18, kS18, kC19, kG19, kP19, kR19_0, kL20, kL141, kL146, kA146, kS146, kL151, kA151, kS151, kL156, kA156, kS156, kC157, kG157, kP157, kR157_0, kR157_1, kL158, kA158, kS158, kL159, kA159, kS159, kC161, kG161, kP161, kR161_0, kR161_1, kL162, kA162, kS162, kL163, kA163, kS163, kC165, kG165, kP165, kR165_0, kR165_1, kR165_2, kR165_3, kL166, kA166, kS166, kL167, kA167, kS167, kL168, kA168, kS168, kL169, kA169, kS169, kC170, kG170, kP170, kR170_0, kR170_1, kR170_2, kL171, kA171, kS171, kL172, kA172, kS172, kL173, kA173, kS173, kC174, kG174, kP174, kR174_0, kR174_1, kR174_2, kR174_3, kR174_4, kL175, kA175, kS175, kL176, kA176, kS176, kL177, kA177, kS177, kL178, kA178, kS178, kL179, kC180, kG180, kP180, kL181, kL182, kA182, kS182, kC183, kG183, kP183, kR183_1, kR183_3, kR183_5, kR183_6, kR183_7, kR183_8, kR183_9, kR183_21, kR183_26, kR183_27, kR183_30, kR183_31, kR183_33, kR183_34, kR183_36, kR183_37, kR183_38, kR183_39, kR183_40, kR183_41, kR183_42, kR183_43, kR183_44, kL184, kA184, kS184, kL185, kA185, kS185, kL186, kA186, kS186, kL187, kA187, kS187, kL188, kA188, kS188, kL189, kL190, kL191, kA191, kS191, kL192, kA192, kS192, kL193, kA193, kS193, kL194, kA194, kS194, kL195, kA195, kS195, kL196, kA196, kS196, kL197, kA197, kS197, kL198, kA198, kS198, kL199, kA199, kS199, kL200, kA200, kS200, kL201, kL202, kA202, kS202, kL203, kA203, kS203, kL204, kA204, kS204, kL205, kL206, kA206, kS206, h4, q1, (hb k hk).1]
theorem byte12_end (hS : Shp τ) (hX : TX J b m) {k : Nat} (hk : m ≤ k) (hk2 : k < 2147483648) : f_X12_byteAt (xw τ J) 183 (nI k) = some 0 := by
  obtain ⟨hm, h4, hb⟩ := hX
  unfold f_X12_byteAt
  have q1 : (nI m ≤ nI k) = True := by rw [nn_le (by omega) (by omega)]; exact eq_true (by omega)
  simp (disch := first | assumption | omega) only [Option.bind_some, Option.map_some, xw_gR, xw_gN, xw_al, xw_ck, xw_uI, xw_ur, xup_at, xur_at, if_true, if_false, reduceIte, and_true, true_and, and_false, false_and, not_true_eq_false, not_false_eq_true, Nat.reduceEqDiff, eq_self, Nat.reduceAdd, Nat.reduceMul, kC1, kG1, kP1, kR1_0, kR1_1, kR1_2, kR1_3, kR1_4, kR1_5, kR1_6, kR1_7, kR1_8, kR1_9, kR1_10, kR1_11, kR1_12, kR1_13, kC2, kG2, kP2, kR2_0, kR2_1, kC3, kG3, kP3, kR3_0, kR3_1, kR3_2, kR3_3, kL4, kA4, kS4, kL5, kA5, kS5, kL6, kA6, kS6, kL7, kA7, kS7, kC8, kG8, kP8, kR8_0, kR8_1, kL9, kA9, kS9, kL10, kA10, kS10, kC11, kG11, kP11, kR11_0, kR11_1, kR11_2, kR11_3, kL12, kA12, kS12, kL13, kA13, kS13, kL14, kA14, kS14, kL15, kA15, kS15, kC16, kG16, kP16, kR16_0, kR16_1, kL17, kA17, kS17, kL18, kA18, kS18, kC19, kG19, kP19, kR19_0, kL20, kL141, kL146, kA146, kS146, kL151, kA151, kS151, kL156, kA156, kS156, kC157, kG157, kP157, kR157_0, kR157_1, kL158, kA158, kS158, kL159, kA159, kS159, kC161, kG161, kP161, kR161_0, kR161_1, kL162, kA162, kS162, kL163, kA163, kS163, kC165, kG165, kP165, kR165_0, kR165_1, kR165_2, kR165_3, kL166, kA166, kS166, kL167, kA167, kS167, kL168, kA168, kS168, kL169, kA169, kS169, kC170, kG170, kP170, kR170_0, kR170_1, kR170_2, kL171, kA171, kS171, kL172, kA172, kS172, kL173, kA173, kS173, kC174, kG174, kP174, kR174_0, kR174_1, kR174_2, kR174_3, kR174_4, kL175, kA175, kS175, kL176, kA176, kS176, kL177, kA177, kS177, kL178, kA178, kS178, kL179, kC180, kG180, kP180, kL181, kL182, kA182, kS182, kC183, kG183, kP183, kR183_1, kR183_3, kR183_5, kR183_6, kR183_7, kR183_8, kR183_9, kR183_21, kR183_26, kR183_27, kR183_30, kR183_31, kR183_33, kR183_34, kR183_36, kR183_37, kR183_38, kR183_39, kR183_40, kR183_41, kR183_42, kR183_43, kR183_44, kL184, kA184, kS184, kL185, kA185, kS185, kL186, kA186, kS186, kL187, kA187, kS187, kL188, kA188, kS188, kL189, kL190, kL191, kA191, kS191, kL192, kA192, kS192, kL193, kA193, kS193, kL194, kA194, kS194, kL195, kA195, kS195, kL196, kA196, kS196, kL197, kA197, kS197, kL198, kA198, kS198, kL199, kA199, kS199, kL200, kA200, kS200, kL201, kL202, kA202, kS202, kL203, kA203, kS203, kL204, kA204, kS204, kL205, kL206, kA206, kS206, h4, q1]
/-- the rows behind a new token -/
def tkI (J : Nat → Nat → Int32) (n : Nat) (k p v : Int32) : Nat → Nat → Int32 := xup (xup (xup (xup J 186 n k) 187 n p) 188 n v) 183 10 (nI (n + 1))
theorem token_ok (hS : Shp τ) {n : Nat} {k p v : Int32} {w : Int64} (hn : n < 403) (h : J 183 10 = nI n) : f_X12_token (xw τ J) 183 k p v w = some (xw (xl τ (xup (xL τ) 189 n w)) (tkI J n k p v)) := by
  have K : τ.1 189 = (23, 403) := xw_K hS (by decide) (by decide) (by decide)
  have hS2 : Shp (xl τ (xup (xL τ) 189 n w)) := hS
  have sl : ∀ J', xsL (xw τ J') 189 (nI n) w = some (xw (xl τ (xup (xL τ) 189 n w)) J') := fun J' => xl_sL (σ := τ) (L := xL τ) K hn (by decide)
  unfold f_X12_token
  simp (disch := first | assumption | omega) only [Option.bind_some, Option.map_some, xw_gR, xw_gN, xw_al, xw_ck, xw_uI, xw_ur, xup_at, xur_at, if_true, if_false, reduceIte, and_true, true_and, and_false, false_and, not_true_eq_false, not_false_eq_true, Nat.reduceEqDiff, eq_self, Nat.reduceAdd, Nat.reduceMul, kC1, kG1, kP1, kR1_0, kR1_1, kR1_2, kR1_3, kR1_4, kR1_5, kR1_6, kR1_7, kR1_8, kR1_9, kR1_10, kR1_11, kR1_12, kR1_13, kC2, kG2, kP2, kR2_0, kR2_1, kC3, kG3, kP3, kR3_0, kR3_1, kR3_2, kR3_3, kL4, kA4, kS4, kL5, kA5, kS5, kL6, kA6, kS6, kL7, kA7, kS7, kC8, kG8, kP8, kR8_0, kR8_1, kL9, kA9, kS9, kL10, kA10, kS10, kC11, kG11, kP11, kR11_0, kR11_1, kR11_2, kR11_3, kL12, kA12, kS12, kL13, kA13, kS13, kL14, kA14, kS14, kL15, kA15, kS15, kC16, kG16, kP16, kR16_0, kR16_1, kL17, kA17, kS17, kL18, kA18, kS18, kC19, kG19, kP19, kR19_0, kL20, kL141, kL146, kA146, kS146, kL151, kA151, kS151, kL156, kA156, kS156, kC157, kG157, kP157, kR157_0, kR157_1, kL158, kA158, kS158, kL159, kA159, kS159, kC161, kG161, kP161, kR161_0, kR161_1, kL162, kA162, kS162, kL163, kA163, kS163, kC165, kG165, kP165, kR165_0, kR165_1, kR165_2, kR165_3, kL166, kA166, kS166, kL167, kA167, kS167, kL168, kA168, kS168, kL169, kA169, kS169, kC170, kG170, kP170, kR170_0, kR170_1, kR170_2, kL171, kA171, kS171, kL172, kA172, kS172, kL173, kA173, kS173, kC174, kG174, kP174, kR174_0, kR174_1, kR174_2, kR174_3, kR174_4, kL175, kA175, kS175, kL176, kA176, kS176, kL177, kA177, kS177, kL178, kA178, kS178, kL179, kC180, kG180, kP180, kL181, kL182, kA182, kS182, kC183, kG183, kP183, kR183_1, kR183_3, kR183_5, kR183_6, kR183_7, kR183_8, kR183_9, kR183_21, kR183_26, kR183_27, kR183_30, kR183_31, kR183_33, kR183_34, kR183_36, kR183_37, kR183_38, kR183_39, kR183_40, kR183_41, kR183_42, kR183_43, kR183_44, kL184, kA184, kS184, kL185, kA185, kS185, kL186, kA186, kS186, kL187, kA187, kS187, kL188, kA188, kS188, kL189, kL190, kL191, kA191, kS191, kL192, kA192, kS192, kL193, kA193, kS193, kL194, kA194, kS194, kL195, kA195, kS195, kL196, kA196, kS196, kL197, kA197, kS197, kL198, kA198, kS198, kL199, kA199, kS199, kL200, kA200, kS200, kL201, kL202, kA202, kS202, kL203, kA203, kS203, kL204, kA204, kS204, kL205, kL206, kA206, kS206, h, sl]
  rw [← nI_succ]
  rfl
theorem tkI_out {n : Nat} {k p v : Int32} {a q : Nat} (h : ¬ (186 ≤ a ∧ a ≤ 188)) (h2 : ¬ (a = 183 ∧ q = 10)) : tkI J n k p v a q = J a q := by
  unfold tkI
  rw [xup_at, if_neg h2, xup_at, if_neg (by omega), xup_at, if_neg (by omega), xup_at, if_neg (by omega)]
theorem tkI_10 {n : Nat} {k p v : Int32} : tkI J n k p v 183 10 = nI (n + 1) := by
  unfold tkI
  rw [xup_at, if_pos ⟨rfl, rfl⟩]
theorem TKM_s {n : Nat} {k p v : Int32} (h : TKM J b m n) (h1 : KMr (tKd b m n) k) (h2 : p = nI (tSt b m n)) (h3 : tKd b m n = 2 → v = nI (tNu b m n)) : TKM (tkI J n k p v) b m (n + 1) := by
  intro i hi
  have e6 : tkI J n k p v 186 i = if i = n then k else J 186 i := by
    unfold tkI
    rw [xup_at, if_neg (by omega), xup_at, if_neg (by omega), xup_at, if_neg (by omega), xup_at]
    by_cases z : i = n
    · rw [if_pos ⟨rfl, z⟩, if_pos z]
    · rw [if_neg (by omega), if_neg z]
  have e7 : tkI J n k p v 187 i = if i = n then p else J 187 i := by
    unfold tkI
    rw [xup_at, if_neg (by omega), xup_at, if_neg (by omega), xup_at]
    by_cases z : i = n
    · rw [if_pos ⟨rfl, z⟩, if_pos z]
    · rw [if_neg (by omega), if_neg z, xup_at, if_neg (by omega)]
  have e8 : tkI J n k p v 188 i = if i = n then v else J 188 i := by
    unfold tkI
    rw [xup_at, if_neg (by omega), xup_at]
    by_cases z : i = n
    · rw [if_pos ⟨rfl, z⟩, if_pos z]
    · rw [if_neg (by omega), if_neg z, xup_at, if_neg (by omega), xup_at, if_neg (by omega)]
  rw [e6, e7, e8]
  by_cases z : i = n
  · rw [if_pos z, if_pos z, if_pos z, z]; exact ⟨h1, h2, h3⟩
  · rw [if_neg z, if_neg z, if_neg z]; exact h i (by omega)
/-- the last key that is the word -/
def kfN (c : Nat) : Nat → Nat
  | 0 => 1
  | k + 1 => if kyW.getD k 0 = c then 20 + k else kfN c k
theorem kf_no {c : Nat} : ∀ n, (∀ k, k < n → kyW.getD k 0 ≠ c) → kfN c n = 1
  | 0, _ => rfl
  | n + 1, h => by rw [kfN, if_neg (h n (by omega))]; exact kf_no n (fun k hk => h k (by omega))
theorem kf_yes {c j : Nat} (hj : kyW.getD j 0 = c) (hj2 : j < 11) : ∀ n, n ≤ 11 → j < n → kfN c n = 20 + j
  | 0, _, h => by omega
  | n + 1, hn, h => by
    rw [kfN]
    by_cases z : kyW.getD n 0 = c
    · rw [if_pos z, ky_one n (by omega) j hj2 (z.trans hj.symm)]
    · rw [if_neg z]
      exact kf_yes hj hj2 n (by omega) (by
        by_cases y : j = n
        · rw [y] at hj; exact absurd hj z
        · omega)
theorem wk_no {p : Nat → Bool} : ∀ n, n ≤ 11 → (∀ j, j < 11 → p j = false) → wkF p n = 1
  | 0, _, _ => rfl
  | n + 1, hn, h => by rw [wkF, h (10 - n) (by omega), if_neg (by decide)]; exact wk_no n (by omega) h
theorem wk_yes {p : Nat → Bool} {j : Nat} (hj : p j = true) (ho : ∀ i, i < 11 → p i = true → i = j) : ∀ n, n ≤ 11 → 11 - n ≤ j → j < 11 → wkF p n = 5 + j
  | 0, _, h1, h2 => by omega
  | n + 1, hn, h1, h2 => by
    rw [wkF]
    by_cases z : p (10 - n) = true
    · rw [if_pos z, ho _ (by omega) z]
    · rw [if_neg z]
      refine wk_yes hj ho n (by omega) ?_ h2
      by_cases y : 10 - n = j
      · rw [y] at z; exact absurd hj z
      · omega
theorem word_rel {s n : Nat} (hb : ∀ i, i < n → isLt (b (s + i)) = true) : KMr (wdK b s n) (nI (kfN (wdN b s n) 11)) := by
  unfold wdK
  by_cases h : ∃ j, j < 11 ∧ wdM b s n j = true
  · obtain ⟨j, j1, j2⟩ := h
    have e := (wdM_iff j1 hb).mp j2
    rw [wk_yes j2 (fun i i1 i2 => ky_one i i1 j j1 (((wdM_iff i1 hb).mp i2).symm.trans e)) 11 (by omega) (by omega) j1, kf_yes e.symm j1 11 (by omega) j1]
    right
    refine ⟨by omega, ?_⟩
    unfold kmN
    rw [if_neg (by omega), if_pos (by omega)]
    congr 1
    omega
  · have h' : ∀ j, j < 11 → wdM b s n j = false := fun j hj => by
      cases z : wdM b s n j with
      | false => rfl
      | true => exact absurd ⟨j, hj, z⟩ h
    rw [wk_no 11 (by omega) h', kf_no 11 (fun k hk z => by
      have := (wdM_iff hk hb).mpr z.symm
      rw [h' k hk] at this; cases this)]
    exact .inl ⟨rfl, .inl rfl⟩
theorem word_long {s n : Nat} (h : 8 < n) : wdK b s n = 1 := by
  unfold wdK
  refine wk_no 11 (by omega) (fun j hj => ?_)
  unfold wdM
  have := (wd_tab j hj).2.2.1
  rw [decide_eq_false (by omega), Bool.false_and]
theorem letters12 (hS : Shp τ) (hk : KY (xL τ)) (hX : TX J b m) {i n : Nat} (hi : i < m) (hl : isLt (b i) = true) (hn : n < 403) (h10 : J 183 10 = nI n) :
    ∃ (L : Nat → Nat → Int64) (k : Int32), xloop (f_X12_cutsText_b85 (xw τ J) 183 (nI i)) ((0 : Int32), (0 : Int64)) = some (.inl (nI (nxP isLt b m i), xw (xl τ L) (tkI J n k (nI i) 0))) ∧ KMr (wdK b i (nxP isLt b m i - i)) k ∧ ∀ q, L 190 q = xL τ 190 q := by
  have hm := hX.1
  have hge := nxP_ge (q := isLt) (b := b) (m := m) (p := i)
  have hle := nxP_le (q := isLt) (b := b) (show i ≤ m by omega)
  obtain ⟨len, hlen⟩ : ∃ len, len = nxP isLt b m i - i := ⟨_, rfl⟩
  have hall : ∀ k, k < len → isLt (b (i + k)) = true := fun k hk => nxP_in (q := isLt) (b := b) (m := m) (p := i) (by omega) (by omega)
  have hnx : i + len = nxP isLt b m i := by omega
  have Lf : ∀ (w : Int64) (q : Nat), xup (xL τ) 189 n w 190 q = xL τ 190 q := fun w q => by
    show (if 190 = 189 ∧ q = n then w else xL τ 190 q) = _
    rw [if_neg (by omega)]
  have tok : ∀ (k : Int32) (w : Int64), f_X12_cutsText_j179 (xw τ J) 183 (nI i) (nI len) w k = some (.inl (nI (nxP isLt b m i), xw (xl τ (xup (xL τ) 189 n w)) (tkI J n k (nI i) 0))) := fun k w => by
    unfold f_X12_cutsText_j179
    rw [xw_ck, kC183 hS, Option.bind_some, token_ok hS hn h10, Option.bind_some, nn_add, hnx]
  have go : ∀ (k : Int32) (w : Int64), (if nI len ≤ (8 : Int32) then f_X12_cutsText_j135 (xw τ J) 183 (nI i) (nI len) (lN (wdN b i (min len 8))) 1 else f_X12_cutsText_j135 (xw τ J) 183 (nI i) (nI len) (lN (wdN b i (min len 8))) 3) = some (.inl (nI (nxP isLt b m i), xw (xl τ (xup (xL τ) 189 n w)) (tkI J n k (nI i) 0))) → xloop (f_X12_cutsText_b85 (xw τ J) 183 (nI i)) ((0 : Int32), (0 : Int64)) = some (.inl (nI (nxP isLt b m i), xw (xl τ (xup (xL τ) 189 n w)) (tkI J n k (nI i) 0))) := by
    intro k w hgo
    refine xforE (fun j : Nat => (nI j, lN (wdN b i (min j 8)))) len rfl (fun j hj => ?_) ?_
    · have hb := byte12_ok (τ := τ) hS hX (show i + j < m by omega)
      have hlj := hall j hj
      have hbx := b255_x (hX.2.2 (i + j) (by omega)).2
      have hlb := isLt_b hlj
      have ev : b (i + j) &&& 255 = b (i + j) := hbx.2.2.2.2.2 (by omega)
      rw [ev] at hb
      simp only [f_X12_cutsText_b85]
      have q8 : ((8 : Int32) ≤ nI j) = (8 ≤ j) := by rw [show (8 : Int32) = nI 8 from rfl, nn_le (by omega) (by omega)]
      by_cases h8 : 8 ≤ j
      · simp (disch := first | assumption | omega) only [Option.bind_some, Option.map_some, xw_gR, xw_gN, xw_al, xw_ck, xw_uI, xw_ur, xup_at, xur_at, if_true, if_false, reduceIte, and_true, true_and, and_false, false_and, not_true_eq_false, not_false_eq_true, Nat.reduceEqDiff, eq_self, Nat.reduceAdd, Nat.reduceMul, kC1, kG1, kP1, kR1_0, kR1_1, kR1_2, kR1_3, kR1_4, kR1_5, kR1_6, kR1_7, kR1_8, kR1_9, kR1_10, kR1_11, kR1_12, kR1_13, kC2, kG2, kP2, kR2_0, kR2_1, kC3, kG3, kP3, kR3_0, kR3_1, kR3_2, kR3_3, kL4, kA4, kS4, kL5, kA5, kS5, kL6, kA6, kS6, kL7, kA7, kS7, kC8, kG8, kP8, kR8_0, kR8_1, kL9, kA9, kS9, kL10, kA10, kS10, kC11, kG11, kP11, kR11_0, kR11_1, kR11_2, kR11_3, kL12, kA12, kS12, kL13, kA13, kS13, kL14, kA14, kS14, kL15, kA15, kS15, kC16, kG16, kP16, kR16_0, kR16_1, kL17, kA17, kS17, kL18, kA18, kS18, kC19, kG19, kP19, kR19_0, kL20, kL141, kL146, kA146, kS146, kL151, kA151, kS151, kL156, kA156, kS156, kC157, kG157, kP157, kR157_0, kR157_1, kL158, kA158, kS158, kL159, kA159, kS159, kC161, kG161, kP161, kR161_0, kR161_1, kL162, kA162, kS162, kL163, kA163, kS163, kC165, kG165, kP165, kR165_0, kR165_1, kR165_2, kR165_3, kL166, kA166, kS166, kL167, kA167, kS167, kL168, kA168, kS168, kL169, kA169, kS169, kC170, kG170, kP170, kR170_0, kR170_1, kR170_2, kL171, kA171, kS171, kL172, kA172, kS172, kL173, kA173, kS173, kC174, kG174, kP174, kR174_0, kR174_1, kR174_2, kR174_3, kR174_4, kL175, kA175, kS175, kL176, kA176, kS176, kL177, kA177, kS177, kL178, kA178, kS178, kL179, kC180, kG180, kP180, kL181, kL182, kA182, kS182, kC183, kG183, kP183, kR183_1, kR183_3, kR183_5, kR183_6, kR183_7, kR183_8, kR183_9, kR183_21, kR183_26, kR183_27, kR183_30, kR183_31, kR183_33, kR183_34, kR183_36, kR183_37, kR183_38, kR183_39, kR183_40, kR183_41, kR183_42, kR183_43, kR183_44, kL184, kA184, kS184, kL185, kA185, kS185, kL186, kA186, kS186, kL187, kA187, kS187, kL188, kA188, kS188, kL189, kL190, kL191, kA191, kS191, kL192, kA192, kS192, kL193, kA193, kS193, kL194, kA194, kS194, kL195, kA195, kS195, kL196, kA196, kS196, kL197, kA197, kS197, kL198, kA198, kS198, kL199, kA199, kS199, kL200, kA200, kS200, kL201, kL202, kA202, kS202, kL203, kA203, kS203, kL204, kA204, kS204, kL205, kL206, kA206, kS206, nn_add, hb, lt12_ok, hlj, one0, q8, h8]
        rw [nI_succ, show min (j + 1) 8 = min j 8 by omega]
      · have q0 : (b (i + j) = 0) = False := by
          apply eq_false
          intro z
          rw [z] at hlb
          have : ((0 : Int32)).toInt = 0 := rfl
          omega
        have hwb := wdN_b (b := b) (s := i) j (fun k hk => by have := isLt_b (hall k (by omega)); unfold lt1; omega)
        have hp : 27 ^ j ≤ 27 ^ 8 := Nat.pow_le_pow_right (by decide) (by omega)
        have ap : f_X12_appends (lN (wdN b i (min j 8))) (b (i + j)) = some (lN (wdN b i (min (j + 1) 8))) := by
          unfold f_X12_appends
          rw [if_neg (by rw [q0]; exact id), show min j 8 = j by omega, show min (j + 1) 8 = j + 1 by omega]
          have e1 : b (i + j) - (97 : Int32) + (1 : Int32) = nI (lt1 (b (i + j))) := by
            rw [iI_of (b (i + j)), show (97 : Int32) = iI 97 from rfl, show (1 : Int32) = iI 1 from rfl, iI_sub, iI_add, iI_n]
            congr 1
            unfold lt1
            rw [iI_ti (by omega) (by omega)]
            omega
          have e2 : lt1 (b (i + j)) ≤ 26 := by unfold lt1; omega
          rw [e1, nI_i64 (by omega), show (27 : Int64) = lN 27 from rfl, vL_mul (by omega) (by omega) (by omega), vL_add (by omega)]
          rfl
        simp (disch := first | assumption | omega) only [Option.bind_some, Option.map_some, xw_gR, xw_gN, xw_al, xw_ck, xw_uI, xw_ur, xup_at, xur_at, if_true, if_false, reduceIte, and_true, true_and, and_false, false_and, not_true_eq_false, not_false_eq_true, Nat.reduceEqDiff, eq_self, Nat.reduceAdd, Nat.reduceMul, kC1, kG1, kP1, kR1_0, kR1_1, kR1_2, kR1_3, kR1_4, kR1_5, kR1_6, kR1_7, kR1_8, kR1_9, kR1_10, kR1_11, kR1_12, kR1_13, kC2, kG2, kP2, kR2_0, kR2_1, kC3, kG3, kP3, kR3_0, kR3_1, kR3_2, kR3_3, kL4, kA4, kS4, kL5, kA5, kS5, kL6, kA6, kS6, kL7, kA7, kS7, kC8, kG8, kP8, kR8_0, kR8_1, kL9, kA9, kS9, kL10, kA10, kS10, kC11, kG11, kP11, kR11_0, kR11_1, kR11_2, kR11_3, kL12, kA12, kS12, kL13, kA13, kS13, kL14, kA14, kS14, kL15, kA15, kS15, kC16, kG16, kP16, kR16_0, kR16_1, kL17, kA17, kS17, kL18, kA18, kS18, kC19, kG19, kP19, kR19_0, kL20, kL141, kL146, kA146, kS146, kL151, kA151, kS151, kL156, kA156, kS156, kC157, kG157, kP157, kR157_0, kR157_1, kL158, kA158, kS158, kL159, kA159, kS159, kC161, kG161, kP161, kR161_0, kR161_1, kL162, kA162, kS162, kL163, kA163, kS163, kC165, kG165, kP165, kR165_0, kR165_1, kR165_2, kR165_3, kL166, kA166, kS166, kL167, kA167, kS167, kL168, kA168, kS168, kL169, kA169, kS169, kC170, kG170, kP170, kR170_0, kR170_1, kR170_2, kL171, kA171, kS171, kL172, kA172, kS172, kL173, kA173, kS173, kC174, kG174, kP174, kR174_0, kR174_1, kR174_2, kR174_3, kR174_4, kL175, kA175, kS175, kL176, kA176, kS176, kL177, kA177, kS177, kL178, kA178, kS178, kL179, kC180, kG180, kP180, kL181, kL182, kA182, kS182, kC183, kG183, kP183, kR183_1, kR183_3, kR183_5, kR183_6, kR183_7, kR183_8, kR183_9, kR183_21, kR183_26, kR183_27, kR183_30, kR183_31, kR183_33, kR183_34, kR183_36, kR183_37, kR183_38, kR183_39, kR183_40, kR183_41, kR183_42, kR183_43, kR183_44, kL184, kA184, kS184, kL185, kA185, kS185, kL186, kA186, kS186, kL187, kA187, kS187, kL188, kA188, kS188, kL189, kL190, kL191, kA191, kS191, kL192, kA192, kS192, kL193, kA193, kS193, kL194, kA194, kS194, kL195, kA195, kS195, kL196, kA196, kS196, kL197, kA197, kS197, kL198, kA198, kS198, kL199, kA199, kS199, kL200, kA200, kS200, kL201, kL202, kA202, kS202, kL203, kA203, kS203, kL204, kA204, kS204, kL205, kL206, kA206, kS206, nn_add, hb, lt12_ok, hlj, one0, q8, h8, ap]
        rw [nI_succ]
    · simp only [f_X12_cutsText_b85]
      have hend : ∃ y, f_X12_byteAt (xw τ J) 183 (nI (i + len)) = some y ∧ isLt y = false := by
        by_cases z : i + len < m
        · have hno : isLt (b (i + len)) = false := by rw [hnx] at z ⊢; exact nxP_out z
          exact ⟨_, byte12_ok hS hX z, by rw [(b255_x (hX.2.2 _ z).2).1]; exact hno⟩
        · exact ⟨0, byte12_end hS hX (by omega) (by omega), by decide⟩
      obtain ⟨y, y1, y2⟩ := hend
      rw [xw_ck, kC183 hS, Option.bind_some, nn_add, y1, Option.bind_some, lt12_ok, Option.bind_some, y2, if_neg (show ¬ (false = true) by decide), if_pos rfl, hgo]
      rfl
  have q8 : (nI len ≤ (8 : Int32)) = (len ≤ 8) := by rw [show (8 : Int32) = nI 8 from rfl, nn_le (by omega) (by omega)]
  have q8' : ((8 : Int32) < nI len) = (8 < len) := by rw [show (8 : Int32) = nI 8 from rfl, nn_lt (by omega) (by omega)]
  rw [← hlen]
  by_cases h8 : len ≤ 8
  · refine ⟨xup (xL τ) 189 n (lN (wdN b i (min len 8))), nI (kfN (wdN b i len) 11), go _ _ ?_, word_rel hall, Lf _⟩
    rw [if_pos (by rw [q8]; exact h8)]
    unfold f_X12_cutsText_j135
    rw [if_neg (by rw [q8']; omega), show min len 8 = len by omega]
    have hwb := wdN_b (b := b) (s := i) len (fun k hk => by have := isLt_b (hall k (by omega)); unfold lt1; omega)
    have hp : 27 ^ len ≤ 27 ^ 8 := Nat.pow_le_pow_right (by decide) (by omega)
    have K : τ.1 190 = (23, 11) := xw_K hS (by decide) (by decide) (by decide)
    have kb : ∀ k, k < 11 → kyW.getD k 0 < 100000000 := by decide
    refine xforE (fun k : Nat => (nI (kfN (wdN b i len) k), nI k)) 11 rfl (fun k hk1 => ?_) ?_
    · have al : xaL (xw τ J) 190 (nI k) = some (lN (kyW.getD k 0)) := by
        rw [← hk k hk1]
        exact xl_aL (σ := τ) (L := xL τ) K hk1 (by decide)
      have q1 : ((11 : Int32) ≤ nI k) = False := by rw [show (11 : Int32) = nI 11 from rfl, nn_le (by omega) (by omega)]; exact eq_false (by omega)
      have q2 : (lg_cmp (lN (kyW.getD k 0)) (lN (wdN b i len)) = 0) = (kyW.getD k 0 = wdN b i len) := by
        have := kb k hk1
        rw [lg_cmp0, vL_eq (by omega) (by omega)]
      simp only [f_X12_cutsText_b146]
      simp (disch := first | assumption | omega) only [Option.bind_some, Option.map_some, xw_gR, xw_gN, xw_al, xw_ck, xw_uI, xw_ur, xup_at, xur_at, if_true, if_false, reduceIte, and_true, true_and, and_false, false_and, not_true_eq_false, not_false_eq_true, Nat.reduceEqDiff, eq_self, Nat.reduceAdd, Nat.reduceMul, kC1, kG1, kP1, kR1_0, kR1_1, kR1_2, kR1_3, kR1_4, kR1_5, kR1_6, kR1_7, kR1_8, kR1_9, kR1_10, kR1_11, kR1_12, kR1_13, kC2, kG2, kP2, kR2_0, kR2_1, kC3, kG3, kP3, kR3_0, kR3_1, kR3_2, kR3_3, kL4, kA4, kS4, kL5, kA5, kS5, kL6, kA6, kS6, kL7, kA7, kS7, kC8, kG8, kP8, kR8_0, kR8_1, kL9, kA9, kS9, kL10, kA10, kS10, kC11, kG11, kP11, kR11_0, kR11_1, kR11_2, kR11_3, kL12, kA12, kS12, kL13, kA13, kS13, kL14, kA14, kS14, kL15, kA15, kS15, kC16, kG16, kP16, kR16_0, kR16_1, kL17, kA17, kS17, kL18, kA18, kS18, kC19, kG19, kP19, kR19_0, kL20, kL141, kL146, kA146, kS146, kL151, kA151, kS151, kL156, kA156, kS156, kC157, kG157, kP157, kR157_0, kR157_1, kL158, kA158, kS158, kL159, kA159, kS159, kC161, kG161, kP161, kR161_0, kR161_1, kL162, kA162, kS162, kL163, kA163, kS163, kC165, kG165, kP165, kR165_0, kR165_1, kR165_2, kR165_3, kL166, kA166, kS166, kL167, kA167, kS167, kL168, kA168, kS168, kL169, kA169, kS169, kC170, kG170, kP170, kR170_0, kR170_1, kR170_2, kL171, kA171, kS171, kL172, kA172, kS172, kL173, kA173, kS173, kC174, kG174, kP174, kR174_0, kR174_1, kR174_2, kR174_3, kR174_4, kL175, kA175, kS175, kL176, kA176, kS176, kL177, kA177, kS177, kL178, kA178, kS178, kL179, kC180, kG180, kP180, kL181, kL182, kA182, kS182, kC183, kG183, kP183, kR183_1, kR183_3, kR183_5, kR183_6, kR183_7, kR183_8, kR183_9, kR183_21, kR183_26, kR183_27, kR183_30, kR183_31, kR183_33, kR183_34, kR183_36, kR183_37, kR183_38, kR183_39, kR183_40, kR183_41, kR183_42, kR183_43, kR183_44, kL184, kA184, kS184, kL185, kA185, kS185, kL186, kA186, kS186, kL187, kA187, kS187, kL188, kA188, kS188, kL189, kL190, kL191, kA191, kS191, kL192, kA192, kS192, kL193, kA193, kS193, kL194, kA194, kS194, kL195, kA195, kS195, kL196, kA196, kS196, kL197, kA197, kS197, kL198, kA198, kS198, kL199, kA199, kS199, kL200, kA200, kS200, kL201, kL202, kA202, kS202, kL203, kA203, kS203, kL204, kA204, kS204, kL205, kL206, kA206, kS206, q1, al, q2]
      rw [← nI_succ]
      show _ = some (Sum.inl (nI (kfN (wdN b i len) (k + 1)), nI (k + 1)))
      rw [kfN]
      by_cases z : kyW.getD k 0 = wdN b i len
      · rw [if_pos z, if_pos z, show (20 : Int32) = nI 20 from rfl, nn_add]
      · rw [if_neg z, if_neg z]
    · simp only [f_X12_cutsText_b146]
      rw [if_pos (by decide), tok]
      rfl
  · refine ⟨xup (xL τ) 189 n (lN (wdN b i (min len 8))), 3, go _ _ ?_, ?_, Lf _⟩
    · rw [if_neg (by rw [q8]; exact h8)]
      unfold f_X12_cutsText_j135
      rw [if_pos (by rw [q8']; omega), tok]
    · rw [word_long (by omega)]
      exact .inl ⟨rfl, .inr rfl⟩
theorem digits12 (hS : Shp τ) (hX : TX J b m) {i n : Nat} (hi : i < m) (hl : isDg (b i) = true) (hn : n < 403) (h10 : J 183 10 = nI n) :
    ∃ (L : Nat → Nat → Int64) (v : Int32), xloop (f_X12_cutsText_b208 (xw τ J) 183 (nI i)) ((0 : Int32), (0 : Int32)) = some (.inl (nI (nxP isDg b m i), xw (xl τ L) (tkI J n (if nxP isDg b m i - i ≤ 4 then 2 else 3) (nI i) v))) ∧ (nxP isDg b m i - i ≤ 4 → v = nI (nuV b i (nxP isDg b m i - i))) ∧ ∀ q, L 190 q = xL τ 190 q := by
  have hm := hX.1
  have hge := nxP_ge (q := isDg) (b := b) (m := m) (p := i)
  have hle := nxP_le (q := isDg) (b := b) (show i ≤ m by omega)
  obtain ⟨len, hlen⟩ : ∃ len, len = nxP isDg b m i - i := ⟨_, rfl⟩
  have hall : ∀ k, k < len → isDg (b (i + k)) = true := fun k hk => nxP_in (q := isDg) (b := b) (m := m) (p := i) (by omega) (by omega)
  have hnx : i + len = nxP isDg b m i := by omega
  have tok : ∀ (k v : Int32), f_X12_cutsText_j261 (xw τ J) 183 (nI i) (nI len) v 183 k = some (.inl (nI (nxP isDg b m i), xw (xl τ (xup (xL τ) 189 n 0)) (tkI J n k (nI i) v))) := fun k v => by
    unfold f_X12_cutsText_j261
    rw [xw_ck, kC183 hS, Option.bind_some, token_ok hS hn h10, Option.bind_some, nn_add, hnx]
  rw [← hlen]
  refine ⟨xup (xL τ) 189 n 0, nI (nuV b i (min len 4)), ?_, fun h4 => by rw [show min len 4 = len by omega], fun q => ?_⟩
  · refine xforE (fun j : Nat => (nI j, nI (nuV b i (min j 4)))) len rfl (fun j hj => ?_) ?_
    · have hb := byte12_ok (τ := τ) hS hX (show i + j < m by omega)
      have hlj := hall j hj
      have hbx := b255_x (hX.2.2 (i + j) (by omega)).2
      have hlb := isDg_b hlj
      have ev : b (i + j) &&& 255 = b (i + j) := hbx.2.2.2.2.2 (by omega)
      rw [ev] at hb
      have q4 : ((4 : Int32) ≤ nI j) = (4 ≤ j) := by rw [show (4 : Int32) = nI 4 from rfl, nn_le (by omega) (by omega)]
      simp only [f_X12_cutsText_b208]
      by_cases h4 : 4 ≤ j
      · simp (disch := first | assumption | omega) only [Option.bind_some, Option.map_some, xw_gR, xw_gN, xw_al, xw_ck, xw_uI, xw_ur, xup_at, xur_at, if_true, if_false, reduceIte, and_true, true_and, and_false, false_and, not_true_eq_false, not_false_eq_true, Nat.reduceEqDiff, eq_self, Nat.reduceAdd, Nat.reduceMul, kC1, kG1, kP1, kR1_0, kR1_1, kR1_2, kR1_3, kR1_4, kR1_5, kR1_6, kR1_7, kR1_8, kR1_9, kR1_10, kR1_11, kR1_12, kR1_13, kC2, kG2, kP2, kR2_0, kR2_1, kC3, kG3, kP3, kR3_0, kR3_1, kR3_2, kR3_3, kL4, kA4, kS4, kL5, kA5, kS5, kL6, kA6, kS6, kL7, kA7, kS7, kC8, kG8, kP8, kR8_0, kR8_1, kL9, kA9, kS9, kL10, kA10, kS10, kC11, kG11, kP11, kR11_0, kR11_1, kR11_2, kR11_3, kL12, kA12, kS12, kL13, kA13, kS13, kL14, kA14, kS14, kL15, kA15, kS15, kC16, kG16, kP16, kR16_0, kR16_1, kL17, kA17, kS17, kL18, kA18, kS18, kC19, kG19, kP19, kR19_0, kL20, kL141, kL146, kA146, kS146, kL151, kA151, kS151, kL156, kA156, kS156, kC157, kG157, kP157, kR157_0, kR157_1, kL158, kA158, kS158, kL159, kA159, kS159, kC161, kG161, kP161, kR161_0, kR161_1, kL162, kA162, kS162, kL163, kA163, kS163, kC165, kG165, kP165, kR165_0, kR165_1, kR165_2, kR165_3, kL166, kA166, kS166, kL167, kA167, kS167, kL168, kA168, kS168, kL169, kA169, kS169, kC170, kG170, kP170, kR170_0, kR170_1, kR170_2, kL171, kA171, kS171, kL172, kA172, kS172, kL173, kA173, kS173, kC174, kG174, kP174, kR174_0, kR174_1, kR174_2, kR174_3, kR174_4, kL175, kA175, kS175, kL176, kA176, kS176, kL177, kA177, kS177, kL178, kA178, kS178, kL179, kC180, kG180, kP180, kL181, kL182, kA182, kS182, kC183, kG183, kP183, kR183_1, kR183_3, kR183_5, kR183_6, kR183_7, kR183_8, kR183_9, kR183_21, kR183_26, kR183_27, kR183_30, kR183_31, kR183_33, kR183_34, kR183_36, kR183_37, kR183_38, kR183_39, kR183_40, kR183_41, kR183_42, kR183_43, kR183_44, kL184, kA184, kS184, kL185, kA185, kS185, kL186, kA186, kS186, kL187, kA187, kS187, kL188, kA188, kS188, kL189, kL190, kL191, kA191, kS191, kL192, kA192, kS192, kL193, kA193, kS193, kL194, kA194, kS194, kL195, kA195, kS195, kL196, kA196, kS196, kL197, kA197, kS197, kL198, kA198, kS198, kL199, kA199, kS199, kL200, kA200, kS200, kL201, kL202, kA202, kS202, kL203, kA203, kS203, kL204, kA204, kS204, kL205, kL206, kA206, kS206, nn_add, hb, dg12_ok, hlj, one0, q4, h4]
        rw [nI_succ, show min (j + 1) 4 = min j 4 by omega]
      · have hnu := nuV_b (b := b) (s := i) j (fun k hk => hall k (by omega))
        have hp : 10 ^ j ≤ 10 ^ 4 := Nat.pow_le_pow_right (by decide) (by omega)
        have ar : (10 : Int32) * nI (nuV b i (min j 4)) + b (i + j) - (48 : Int32) = nI (nuV b i (min (j + 1) 4)) := by
          rw [show min j 4 = j by omega, show min (j + 1) 4 = j + 1 by omega, dg_n hlj, show (10 : Int32) = nI 10 from rfl, nn_mul, nn_add, show (48 : Int32) = nI 48 from rfl, nn_sub (by omega)]
          congr 1
          show _ = 10 * nuV b i j + ((b (i + j)).toInt.toNat - 48)
          omega
        simp (disch := first | assumption | omega) only [Option.bind_some, Option.map_some, xw_gR, xw_gN, xw_al, xw_ck, xw_uI, xw_ur, xup_at, xur_at, if_true, if_false, reduceIte, and_true, true_and, and_false, false_and, not_true_eq_false, not_false_eq_true, Nat.reduceEqDiff, eq_self, Nat.reduceAdd, Nat.reduceMul, kC1, kG1, kP1, kR1_0, kR1_1, kR1_2, kR1_3, kR1_4, kR1_5, kR1_6, kR1_7, kR1_8, kR1_9, kR1_10, kR1_11, kR1_12, kR1_13, kC2, kG2, kP2, kR2_0, kR2_1, kC3, kG3, kP3, kR3_0, kR3_1, kR3_2, kR3_3, kL4, kA4, kS4, kL5, kA5, kS5, kL6, kA6, kS6, kL7, kA7, kS7, kC8, kG8, kP8, kR8_0, kR8_1, kL9, kA9, kS9, kL10, kA10, kS10, kC11, kG11, kP11, kR11_0, kR11_1, kR11_2, kR11_3, kL12, kA12, kS12, kL13, kA13, kS13, kL14, kA14, kS14, kL15, kA15, kS15, kC16, kG16, kP16, kR16_0, kR16_1, kL17, kA17, kS17, kL18, kA18, kS18, kC19, kG19, kP19, kR19_0, kL20, kL141, kL146, kA146, kS146, kL151, kA151, kS151, kL156, kA156, kS156, kC157, kG157, kP157, kR157_0, kR157_1, kL158, kA158, kS158, kL159, kA159, kS159, kC161, kG161, kP161, kR161_0, kR161_1, kL162, kA162, kS162, kL163, kA163, kS163, kC165, kG165, kP165, kR165_0, kR165_1, kR165_2, kR165_3, kL166, kA166, kS166, kL167, kA167, kS167, kL168, kA168, kS168, kL169, kA169, kS169, kC170, kG170, kP170, kR170_0, kR170_1, kR170_2, kL171, kA171, kS171, kL172, kA172, kS172, kL173, kA173, kS173, kC174, kG174, kP174, kR174_0, kR174_1, kR174_2, kR174_3, kR174_4, kL175, kA175, kS175, kL176, kA176, kS176, kL177, kA177, kS177, kL178, kA178, kS178, kL179, kC180, kG180, kP180, kL181, kL182, kA182, kS182, kC183, kG183, kP183, kR183_1, kR183_3, kR183_5, kR183_6, kR183_7, kR183_8, kR183_9, kR183_21, kR183_26, kR183_27, kR183_30, kR183_31, kR183_33, kR183_34, kR183_36, kR183_37, kR183_38, kR183_39, kR183_40, kR183_41, kR183_42, kR183_43, kR183_44, kL184, kA184, kS184, kL185, kA185, kS185, kL186, kA186, kS186, kL187, kA187, kS187, kL188, kA188, kS188, kL189, kL190, kL191, kA191, kS191, kL192, kA192, kS192, kL193, kA193, kS193, kL194, kA194, kS194, kL195, kA195, kS195, kL196, kA196, kS196, kL197, kA197, kS197, kL198, kA198, kS198, kL199, kA199, kS199, kL200, kA200, kS200, kL201, kL202, kA202, kS202, kL203, kA203, kS203, kL204, kA204, kS204, kL205, kL206, kA206, kS206, nn_add, hb, dg12_ok, hlj, one0, q4, h4, ar]
        rw [nI_succ]
    · simp only [f_X12_cutsText_b208]
      have hend : ∃ y, f_X12_byteAt (xw τ J) 183 (nI (i + len)) = some y ∧ isDg y = false := by
        by_cases z : i + len < m
        · have hno : isDg (b (i + len)) = false := by rw [hnx] at z ⊢; exact nxP_out z
          exact ⟨_, byte12_ok hS hX z, by rw [(b255_x (hX.2.2 _ z).2).2.1]; exact hno⟩
        · exact ⟨0, byte12_end hS hX (by omega) (by omega), by decide⟩
      obtain ⟨y, y1, y2⟩ := hend
      have q4 : (nI len ≤ (4 : Int32)) = (len ≤ 4) := by rw [show (4 : Int32) = nI 4 from rfl, nn_le (by omega) (by omega)]
      rw [xw_ck, kC183 hS, Option.bind_some, nn_add, y1, Option.bind_some, dg12_ok, Option.bind_some, y2, if_neg (show ¬ (false = true) by decide), if_pos rfl, tok, tok]
      simp only [q4]
      by_cases h4 : len ≤ 4
      · rw [if_pos h4, if_pos h4]; rfl
      · rw [if_neg h4, if_neg h4]; rfl
  · show (if 190 = 189 ∧ q = n then 0 else xL τ 190 q) = _
    rw [if_neg (by omega)]
end CUT12
end
section
/-! the model's tokens -/
theorem blank_if {α : Type} (y : Int32) (A B : α) : (if y = 9 then A else if y = 10 then A else if y = 13 then A else if y = 32 then A else B) = if isBl y then A else B := by
  unfold isBl
  by_cases h1 : y = 9
  · simp [h1]
  · by_cases h2 : y = 10
    · simp [h2]
    · by_cases h3 : y = 13
      · simp [h3]
      · by_cases h4 : y = 32
        · simp [h4]
        · simp [h1, h2, h3, h4]
section CUTS
variable {τ : XS} {J : Nat → Nat → Int32} {m : Nat} {b : Nat → Int32}
theorem TX_c {J' : Nat → Nat → Int32} (h4 : J' 183 4 = J 183 4) (h5 : ∀ k, J' 185 k = J 185 k) (h : TX J b m) : TX J' b m := by
  obtain ⟨h1, h2, h3⟩ := h
  exact ⟨h1, by rw [h4]; exact h2, fun k hk => by rw [h5]; exact h3 k hk⟩
theorem sign_ok (hS : Shp τ) {i n : Nat} {y : Int32} (hn : n < 403) (h10 : J 183 10 = nI n) : f_X12_sign (xw τ J) 183 (nI i) y = some ((1 : Int32), xw (xl τ (xup (xL τ) 189 n 0)) (tkI J n (if y = 59 then 4 else if y = 45 then 5 else 3) (nI i) 0)) := by
  have tok : ∀ k : Int32, f_X12_sign_j22 (xw τ J) (nI i) 183 k = some ((1 : Int32), xw (xl τ (xup (xL τ) 189 n 0)) (tkI J n k (nI i) 0)) := fun k => by
    unfold f_X12_sign_j22
    rw [xw_ck, kC183 hS, Option.bind_some, token_ok hS hn h10, Option.bind_some]
  unfold f_X12_sign
  rw [tok, tok, tok]
  by_cases h1 : y = 59
  · rw [if_pos h1, if_pos h1]
  · rw [if_neg h1, if_neg h1]
    by_cases h2 : y = 45
    · rw [if_pos h2, if_pos h2]
    · rw [if_neg h2, if_neg h2]
theorem cutsText_ok (hS : Shp τ) (hk : KY (xL τ)) (hX : TX J b m) : ∃ (L : Nat → Nat → Int64) (J' : Nat → Nat → Int32) (N : Nat), f_X12_cutsText (xw τ J) 183 = some (xw (xl τ L) J') ∧ (∀ q, L 190 q = xL τ 190 q) ∧ N ≤ 401 ∧ 0 < N ∧ J' 183 10 = nI N ∧ TKM J' b m N ∧ (∀ i, i + 1 < N → tKd b m i ≠ 0) ∧ (N = 401 ∨ tKd b m (N - 1) = 0) ∧ ∀ a q, ¬ (186 ≤ a ∧ a ≤ 188) → ¬ (a = 183 ∧ q = 10) → J' a q = J a q := by
  have hm := hX.1
  unfold f_X12_cutsText
  simp (disch := first | assumption | omega) only [Option.bind_some, Option.map_some, xw_gR, xw_gN, xw_al, xw_ck, xw_uI, xw_ur, xup_at, xur_at, if_true, if_false, reduceIte, and_true, true_and, and_false, false_and, not_true_eq_false, not_false_eq_true, Nat.reduceEqDiff, eq_self, Nat.reduceAdd, Nat.reduceMul, kC1, kG1, kP1, kR1_0, kR1_1, kR1_2, kR1_3, kR1_4, kR1_5, kR1_6, kR1_7, kR1_8, kR1_9, kR1_10, kR1_11, kR1_12, kR1_13, kC2, kG2, kP2, kR2_0, kR2_1, kC3, kG3, kP3, kR3_0, kR3_1, kR3_2, kR3_3, kL4, kA4, kS4, kL5, kA5, kS5, kL6, kA6, kS6, kL7, kA7, kS7, kC8, kG8, kP8, kR8_0, kR8_1, kL9, kA9, kS9, kL10, kA10, kS10, kC11, kG11, kP11, kR11_0, kR11_1, kR11_2, kR11_3, kL12, kA12, kS12, kL13, kA13, kS13, kL14, kA14, kS14, kL15, kA15, kS15, kC16, kG16, kP16, kR16_0, kR16_1, kL17, kA17, kS17, kL18, kA18, kS18, kC19, kG19, kP19, kR19_0, kL20, kL141, kL146, kA146, kS146, kL151, kA151, kS151, kL156, kA156, kS156, kC157, kG157, kP157, kR157_0, kR157_1, kL158, kA158, kS158, kL159, kA159, kS159, kC161, kG161, kP161, kR161_0, kR161_1, kL162, kA162, kS162, kL163, kA163, kS163, kC165, kG165, kP165, kR165_0, kR165_1, kR165_2, kR165_3, kL166, kA166, kS166, kL167, kA167, kS167, kL168, kA168, kS168, kL169, kA169, kS169, kC170, kG170, kP170, kR170_0, kR170_1, kR170_2, kL171, kA171, kS171, kL172, kA172, kS172, kL173, kA173, kS173, kC174, kG174, kP174, kR174_0, kR174_1, kR174_2, kR174_3, kR174_4, kL175, kA175, kS175, kL176, kA176, kS176, kL177, kA177, kS177, kL178, kA178, kS178, kL179, kC180, kG180, kP180, kL181, kL182, kA182, kS182, kC183, kG183, kP183, kR183_1, kR183_3, kR183_5, kR183_6, kR183_7, kR183_8, kR183_9, kR183_21, kR183_26, kR183_27, kR183_30, kR183_31, kR183_33, kR183_34, kR183_36, kR183_37, kR183_38, kR183_39, kR183_40, kR183_41, kR183_42, kR183_43, kR183_44, kL184, kA184, kS184, kL185, kA185, kS185, kL186, kA186, kS186, kL187, kA187, kS187, kL188, kA188, kS188, kL189, kL190, kL191, kA191, kS191, kL192, kA192, kS192, kL193, kA193, kS193, kL194, kA194, kS194, kL195, kA195, kS195, kL196, kA196, kS196, kL197, kA197, kS197, kL198, kA198, kS198, kL199, kA199, kS199, kL200, kA200, kS200, kL201, kL202, kA202, kS202, kL203, kA203, kS203, kL204, kA204, kS204, kL205, kL206, kA206, kS206]
  have key := xloop_run (f := f_X12_cutsText_b7 183) (fun k a => ∃ (i n : Nat) (L : Nat → Nat → Int64) (J' : Nat → Nat → Int32), a = (nI i, xw (xl τ L) J') ∧ k = m - i ∧ i ≤ m ∧ n ≤ 401 ∧ (∀ q, L 190 q = xL τ 190 q) ∧ J' 183 10 = nI n ∧ TKM J' b m n ∧ (∀ j, j < n → tKd b m j ≠ 0) ∧ tPo b m n ≤ i ∧ (∀ j, tPo b m n ≤ j → j < i → isBl (b j) = true) ∧ ∀ a q, ¬ (186 ≤ a ∧ a ≤ 188) → ¬ (a = 183 ∧ q = 10) → J' a q = J a q) (fun z => ∃ (L : Nat → Nat → Int64) (J' : Nat → Nat → Int32) (N : Nat), z = xw (xl τ L) J' ∧ (∀ q, L 190 q = xL τ 190 q) ∧ N ≤ 401 ∧ 0 < N ∧ J' 183 10 = nI N ∧ TKM J' b m N ∧ (∀ i, i + 1 < N → tKd b m i ≠ 0) ∧ (N = 401 ∨ tKd b m (N - 1) = 0) ∧ ∀ a q, ¬ (186 ≤ a ∧ a ≤ 188) → ¬ (a = 183 ∧ q = 10) → J' a q = J a q) ?_ (m - 0) ((0 : Int32), xw τ (xup J 183 10 0)) ⟨0, 0, xL τ, xup J 183 10 0, rfl, rfl, Nat.zero_le _, by omega, fun _ => rfl, by rw [xup_at, if_pos ⟨rfl, rfl⟩]; rfl, fun i hi => absurd hi (Nat.not_lt_zero _), fun i hi => absurd hi (Nat.not_lt_zero _), Nat.le_refl _, fun j _ h2 => absurd h2 (Nat.not_lt_zero _), fun a q _ h2 => by rw [xup_at, if_neg h2]⟩
  · obtain ⟨z, e, L, J', N, rfl, rest⟩ := key
    exact ⟨L, J', N, e, rest⟩
  · rintro k a ⟨i, n, L, J', rfl, rfl, hi, hn, hL, h10, hT, hnz, hpo, hbl, u⟩
    have hS' : Shp (xl τ L) := hS
    have hK' : KY (xL (xl τ L)) := fun q hq => (hL q).trans (hk q hq)
    have hX' : TX J' b m := TX_c (u _ _ (by omega) (by omega)) (fun q => u _ _ (by omega) (by omega)) hX
    have q400 : ((400 : Int32) < nI n) = (400 < n) := by rw [show (400 : Int32) = nI 400 from rfl, nn_lt (by omega) (by omega)]
    by_cases h401 : 400 < n
    · left
      refine ⟨_, ?_, L, J', n, rfl, hL, hn, by omega, h10, hT, fun j hj => hnz j (by omega), .inl (by omega), u⟩
      simp only [f_X12_cutsText_b7]
      rw [show xgI (xw (xl τ L) J') 183 12 10 = some (nI n) from by rw [← h10]; exact kG183 hS', Option.bind_some, if_pos (by rw [q400]; exact h401)]
      rfl
    · have qi : (nI i < nI m) = (i < m) := nn_lt (by omega) (by omega)
      have h4 := hX'.2.1
      have n403 : n < 403 := by omega
      by_cases him : i < m
      · have hb := byte12_ok (τ := xl τ L) hS' hX' him
        obtain ⟨x1, x2, x3, x4, x5, x6⟩ := b255_x (hX.2.2 i him).2
        right
        cases hbk : isBl (b i) with
        | true =>
          refine ⟨m - (i + 1), (nI (i + 1), xw (xl τ L) J'), by omega, ?_, i + 1, n, L, J', rfl, rfl, by omega, hn, hL, h10, hT, hnz, by omega, fun j h1 h2 => ?_, u⟩
          · simp only [f_X12_cutsText_b7]
            simp (disch := first | assumption | omega) only [Option.bind_some, Option.map_some, xw_gR, xw_gN, xw_al, xw_ck, xw_uI, xw_ur, xup_at, xur_at, if_true, if_false, reduceIte, and_true, true_and, and_false, false_and, not_true_eq_false, not_false_eq_true, Nat.reduceEqDiff, eq_self, Nat.reduceAdd, Nat.reduceMul, kC1, kG1, kP1, kR1_0, kR1_1, kR1_2, kR1_3, kR1_4, kR1_5, kR1_6, kR1_7, kR1_8, kR1_9, kR1_10, kR1_11, kR1_12, kR1_13, kC2, kG2, kP2, kR2_0, kR2_1, kC3, kG3, kP3, kR3_0, kR3_1, kR3_2, kR3_3, kL4, kA4, kS4, kL5, kA5, kS5, kL6, kA6, kS6, kL7, kA7, kS7, kC8, kG8, kP8, kR8_0, kR8_1, kL9, kA9, kS9, kL10, kA10, kS10, kC11, kG11, kP11, kR11_0, kR11_1, kR11_2, kR11_3, kL12, kA12, kS12, kL13, kA13, kS13, kL14, kA14, kS14, kL15, kA15, kS15, kC16, kG16, kP16, kR16_0, kR16_1, kL17, kA17, kS17, kL18, kA18, kS18, kC19, kG19, kP19, kR19_0, kL20, kL141, kL146, kA146, kS146, kL151, kA151, kS151, kL156, kA156, kS156, kC157, kG157, kP157, kR157_0, kR157_1, kL158, kA158, kS158, kL159, kA159, kS159, kC161, kG161, kP161, kR161_0, kR161_1, kL162, kA162, kS162, kL163, kA163, kS163, kC165, kG165, kP165, kR165_0, kR165_1, kR165_2, kR165_3, kL166, kA166, kS166, kL167, kA167, kS167, kL168, kA168, kS168, kL169, kA169, kS169, kC170, kG170, kP170, kR170_0, kR170_1, kR170_2, kL171, kA171, kS171, kL172, kA172, kS172, kL173, kA173, kS173, kC174, kG174, kP174, kR174_0, kR174_1, kR174_2, kR174_3, kR174_4, kL175, kA175, kS175, kL176, kA176, kS176, kL177, kA177, kS177, kL178, kA178, kS178, kL179, kC180, kG180, kP180, kL181, kL182, kA182, kS182, kC183, kG183, kP183, kR183_1, kR183_3, kR183_5, kR183_6, kR183_7, kR183_8, kR183_9, kR183_21, kR183_26, kR183_27, kR183_30, kR183_31, kR183_33, kR183_34, kR183_36, kR183_37, kR183_38, kR183_39, kR183_40, kR183_41, kR183_42, kR183_43, kR183_44, kL184, kA184, kS184, kL185, kA185, kS185, kL186, kA186, kS186, kL187, kA187, kS187, kL188, kA188, kS188, kL189, kL190, kL191, kA191, kS191, kL192, kA192, kS192, kL193, kA193, kS193, kL194, kA194, kS194, kL195, kA195, kS195, kL196, kA196, kS196, kL197, kA197, kS197, kL198, kA198, kS198, kL199, kA199, kS199, kL200, kA200, kS200, kL201, kL202, kA202, kS202, kL203, kA203, kS203, kL204, kA204, kS204, kL205, kL206, kA206, kS206, h10, q400, h401, hb, h4, qi, him]
            rw [blank_if, x3, hbk, if_pos rfl, nI_succ]
          · by_cases z : j = i
            · rw [z]; exact hbk
            · exact hbl j h1 (by omega)
        | false =>
          have hst : tSt b m n = i := nxP_one hpo hi hbl (fun _ => hbk)
          have hne : tKd b m n ≠ 0 := fun z => by
            have := (tKd_0 (b := b) (m := m) n).mp z
            omega
          have hsm : ¬ m ≤ i := by omega
          -- a token of kind kd and value v was laid
          have fin : ∀ (kd v : Int32) (L' : Nat → Nat → Int64), f_X12_cutsText_b7 183 (nI i, xw (xl τ L) J') = some (.inl (nI (tE0 b m i), xw (xl τ L') (tkI J' n kd (nI i) v))) → KMr (tKd b m n) kd → (tKd b m n = 2 → v = nI (tNu b m n)) → (∀ q, L' 190 q = xL τ 190 q) → ∃ k' a', k' < m - i ∧ f_X12_cutsText_b7 183 (nI i, xw (xl τ L) J') = some (.inl a') ∧ ∃ (i n : Nat) (L : Nat → Nat → Int64) (J' : Nat → Nat → Int32), a' = (nI i, xw (xl τ L) J') ∧ k' = m - i ∧ i ≤ m ∧ n ≤ 401 ∧ (∀ q, L 190 q = xL τ 190 q) ∧ J' 183 10 = nI n ∧ TKM J' b m n ∧ (∀ j, j < n → tKd b m j ≠ 0) ∧ tPo b m n ≤ i ∧ (∀ j, tPo b m n ≤ j → j < i → isBl (b j) = true) ∧ ∀ a q, ¬ (186 ≤ a ∧ a ≤ 188) → ¬ (a = 183 ∧ q = 10) → J' a q = J a q := by
            intro kd v L' he hkd hv hL'
            have tb := tE0_b (b := b) hi
            have hpe : tPo b m (n + 1) = tE0 b m i := by rw [tPo_s, hst]
            refine ⟨m - tE0 b m i, _, by have := tb.2.2 him; omega, he, tE0 b m i, n + 1, L', _, rfl, rfl, tb.2.1, by omega, hL', tkI_10, TKM_s hT hkd (by rw [hst]) hv, fun j hj => ?_, by omega, fun j h1 h2 => by omega, fun a q h1 h2 => by rw [tkI_out h1 h2]; exact u a q h1 h2⟩
            by_cases z : j = n
            · rw [z]; exact hne
            · exact hnz j (by omega)
          have stp : f_X12_cutsText_b7 183 (nI i, xw (xl τ L) J') = (f_X12_isLetter (b i &&& 255)).bind fun v9 => if v9 = 0 then ((f_X12_isDigit (b i &&& 255)).bind fun v11 => if v11 = 0 then ((xck (xw (xl τ L) J') 183 12).bind fun _ => (f_X12_sign (xw (xl τ L) J') 183 (nI i) (b i &&& 255)).bind fun (v15, σ14) => some (.inl (nI i + v15, σ14))) else xloop (f_X12_cutsText_b208 (xw (xl τ L) J') 183 (nI i)) ((0 : Int32), (0 : Int32))) else xloop (f_X12_cutsText_b85 (xw (xl τ L) J') 183 (nI i)) ((0 : Int32), (0 : Int64)) := by
            simp only [f_X12_cutsText_b7]
            rw [show xgI (xw (xl τ L) J') 183 12 10 = some (nI n) from by rw [← h10]; exact kG183 hS', Option.bind_some, if_neg (by rw [q400]; exact h401), xw_ck, kC183 hS', Option.bind_some, hb, Option.bind_some, show xgI (xw (xl τ L) J') 183 12 4 = some (nI m) from by rw [← h4]; exact kG183 hS', Option.bind_some, if_pos (by rw [qi]; exact him), blank_if, x3, hbk, if_neg (show ¬ (false = true) by decide)]
          have tkd : tKd b m n = tK0 b m i := by unfold tKd; rw [hst]
          have tnu : tNu b m n = tN0 b m i := by unfold tNu; rw [hst]
          cases hlt : isLt (b i) with
          | true =>
            obtain ⟨L', kd, e1, e2, e3⟩ := letters12 (τ := xl τ L) (J := J') hS' hK' hX' him hlt n403 h10
            have te : tE0 b m i = nxP isLt b m i := by unfold tE0; rw [if_neg hsm, if_pos hlt]
            have tk : tK0 b m i = wdK b i (nxP isLt b m i - i) := by unfold tK0; rw [if_neg hsm, if_pos hlt]
            refine fin kd 0 L' ?_ (by rw [tkd, tk]; exact e2) (fun z => ?_) (fun q => (e3 q).trans (hL q))
            · rw [stp, lt12_ok, Option.bind_some, x1, hlt, if_pos rfl, if_neg (by decide), te]
              exact e1
            · exfalso
              rw [tkd, tk] at z
              have h2 : ∀ p k, k ≤ 11 → wkF p k ≠ 2 := by
                intro p k
                induction k with
                | zero => intro _ q; cases q
                | succ k ih =>
                  intro hk q
                  rw [wkF] at q
                  split at q
                  · omega
                  · exact ih (by omega) q
              exact h2 _ 11 (by omega) z
          | false =>
            cases hdg : isDg (b i) with
            | true =>
              obtain ⟨L', v, e1, e2, e3⟩ := digits12 (τ := xl τ L) (J := J') hS' hX' him hdg n403 h10
              have te : tE0 b m i = nxP isDg b m i := by unfold tE0; rw [if_neg hsm, hlt, if_neg (by decide), if_pos hdg]
              have tk : tK0 b m i = if nxP isDg b m i - i ≤ 4 then 2 else 1 := by unfold tK0; rw [if_neg hsm, hlt, if_neg (by decide), if_pos hdg]
              refine fin (if nxP isDg b m i - i ≤ 4 then 2 else 3) v L' ?_ ?_ (fun z => ?_) (fun q => (e3 q).trans (hL q))
              · rw [stp, lt12_ok, Option.bind_some, x1, hlt, if_neg (show ¬ (false = true) by decide), if_pos rfl, dg12_ok, Option.bind_some, x2, hdg, if_pos rfl, if_neg (by decide), te]
                exact e1
              · rw [tkd, tk]
                by_cases h4 : nxP isDg b m i - i ≤ 4
                · rw [if_pos h4, if_pos h4]; exact .inr ⟨by decide, rfl⟩
                · rw [if_neg h4, if_neg h4]; exact .inl ⟨rfl, .inr rfl⟩
              · rw [tkd, tk] at z
                have h4 : nxP isDg b m i - i ≤ 4 := by
                  apply Classical.byContradiction
                  intro w
                  rw [if_neg w] at z
                  cases z
                rw [tnu]; exact e2 h4
            | false =>
              have te : tE0 b m i = i + 1 := by unfold tE0; rw [if_neg hsm, hlt, if_neg (by decide), hdg, if_neg (by decide)]
              have tk : tK0 b m i = if b i = 45 then 3 else if b i = 59 then 4 else 1 := by unfold tK0; rw [if_neg hsm, hlt, if_neg (by decide), hdg, if_neg (by decide)]
              have sg := sign_ok (τ := xl τ L) (J := J') (i := i) (y := b i &&& 255) hS' n403 h10
              refine fin (if b i &&& 255 = 59 then 4 else if b i &&& 255 = 45 then 5 else 3) 0 (xup (xL (xl τ L)) 189 n 0) ?_ ?_ (fun z => ?_) (fun q => ?_)
              · rw [stp, lt12_ok, Option.bind_some, x1, hlt, if_neg (show ¬ (false = true) by decide), if_pos rfl, dg12_ok, Option.bind_some, x2, hdg, if_neg (show ¬ (false = true) by decide), if_pos rfl, xw_ck, kC183 hS', Option.bind_some, sg, Option.bind_some, te, nI_succ]
                rfl
              · rw [tkd, tk]
                by_cases z1 : b i = 45
                · rw [if_pos z1, if_neg (fun w => by rw [x5.mp w] at z1; exact absurd z1 (by decide)), if_pos (x4.mpr z1)]
                  exact .inr ⟨by decide, rfl⟩
                · by_cases z2 : b i = 59
                  · rw [if_neg z1, if_pos z2, if_pos (x5.mpr z2)]
                    exact .inr ⟨by decide, rfl⟩
                  · rw [if_neg z1, if_neg z2, if_neg (fun w => z2 (x5.mp w)), if_neg (fun w => z1 (x4.mp w))]
                    exact .inl ⟨rfl, .inr rfl⟩
              · exfalso
                rw [tkd, tk] at z
                split at z
                · cases z
                · split at z <;> cases z
              · show (if 190 = 189 ∧ q = n then 0 else L 190 q) = _
                rw [if_neg (by omega)]; exact hL q
      · left
        have eim : i = m := by omega
        have hb := byte12_end (τ := xl τ L) hS' hX' (show m ≤ i by omega) (by omega)
        have hst : tSt b m n = m := nxP_one (by omega) (Nat.le_refl _) (fun j h1 h2 => hbl j h1 (by omega)) (fun h => by omega)
        have h0 : tKd b m n = 0 := (tKd_0 n).mpr hst
        have tok := token_ok (τ := xl τ L) (J := J') (k := 0) (p := nI m) (v := 0) (w := 0) hS' n403 h10
        refine ⟨_, ?_, xup (xL (xl τ L)) 189 n 0, tkI J' n 0 (nI m) 0, n + 1, rfl, fun q => ?_, by omega, by omega, tkI_10, TKM_s hT (by rw [h0]; exact .inr ⟨by decide, rfl⟩) (by rw [hst]) (fun z => by rw [h0] at z; cases z), fun j hj => hnz j (by omega), .inr (by rw [Nat.add_sub_cancel]; exact h0), fun a q h1 h2 => by rw [tkI_out h1 h2]; exact u a q h1 h2⟩
        · simp only [f_X12_cutsText_b7]
          simp (disch := first | assumption | omega) only [Option.bind_some, Option.map_some, xw_gR, xw_gN, xw_al, xw_ck, xw_uI, xw_ur, xup_at, xur_at, if_true, if_false, reduceIte, and_true, true_and, and_false, false_and, not_true_eq_false, not_false_eq_true, Nat.reduceEqDiff, eq_self, Nat.reduceAdd, Nat.reduceMul, kC1, kG1, kP1, kR1_0, kR1_1, kR1_2, kR1_3, kR1_4, kR1_5, kR1_6, kR1_7, kR1_8, kR1_9, kR1_10, kR1_11, kR1_12, kR1_13, kC2, kG2, kP2, kR2_0, kR2_1, kC3, kG3, kP3, kR3_0, kR3_1, kR3_2, kR3_3, kL4, kA4, kS4, kL5, kA5, kS5, kL6, kA6, kS6, kL7, kA7, kS7, kC8, kG8, kP8, kR8_0, kR8_1, kL9, kA9, kS9, kL10, kA10, kS10, kC11, kG11, kP11, kR11_0, kR11_1, kR11_2, kR11_3, kL12, kA12, kS12, kL13, kA13, kS13, kL14, kA14, kS14, kL15, kA15, kS15, kC16, kG16, kP16, kR16_0, kR16_1, kL17, kA17, kS17, kL18, kA18, kS18, kC19, kG19, kP19, kR19_0, kL20, kL141, kL146, kA146, kS146, kL151, kA151, kS151, kL156, kA156, kS156, kC157, kG157, kP157, kR157_0, kR157_1, kL158, kA158, kS158, kL159, kA159, kS159, kC161, kG161, kP161, kR161_0, kR161_1, kL162, kA162, kS162, kL163, kA163, kS163, kC165, kG165, kP165, kR165_0, kR165_1, kR165_2, kR165_3, kL166, kA166, kS166, kL167, kA167, kS167, kL168, kA168, kS168, kL169, kA169, kS169, kC170, kG170, kP170, kR170_0, kR170_1, kR170_2, kL171, kA171, kS171, kL172, kA172, kS172, kL173, kA173, kS173, kC174, kG174, kP174, kR174_0, kR174_1, kR174_2, kR174_3, kR174_4, kL175, kA175, kS175, kL176, kA176, kS176, kL177, kA177, kS177, kL178, kA178, kS178, kL179, kC180, kG180, kP180, kL181, kL182, kA182, kS182, kC183, kG183, kP183, kR183_1, kR183_3, kR183_5, kR183_6, kR183_7, kR183_8, kR183_9, kR183_21, kR183_26, kR183_27, kR183_30, kR183_31, kR183_33, kR183_34, kR183_36, kR183_37, kR183_38, kR183_39, kR183_40, kR183_41, kR183_42, kR183_43, kR183_44, kL184, kA184, kS184, kL185, kA185, kS185, kL186, kA186, kS186, kL187, kA187, kS187, kL188, kA188, kS188, kL189, kL190, kL191, kA191, kS191, kL192, kA192, kS192, kL193, kA193, kS193, kL194, kA194, kS194, kL195, kA195, kS195, kL196, kA196, kS196, kL197, kA197, kS197, kL198, kA198, kS198, kL199, kA199, kS199, kL200, kA200, kS200, kL201, kL202, kA202, kS202, kL203, kA203, kS203, kL204, kA204, kS204, kL205, kL206, kA206, kS206, h10, q400, h401, hb, h4, qi, him, tok]
          rfl
        · show (if 190 = 189 ∧ q = n then 0 else L 190 q) = _
          rw [if_neg (by omega)]; exact hL q
end CUTS
end
section
/-! the model's grammar -/
def TN (J0 : Nat → Nat → Int32) (b : Nat → Int32) (m N : Nat) : Prop := N ≤ 401 ∧ 0 < N ∧ TKM J0 b m N ∧ (∀ i, i + 1 < N → tKd b m i ≠ 0) ∧ (N = 401 ∨ tKd b m (N - 1) = 0)
def GF (J0 J : Nat → Nat → Int32) : Prop := ∀ a q, ¬ (a = 183 ∧ 11 ≤ q ∧ q ≤ 13) → J a q = J0 a q
def GR (J : Nat → Nat → Int32) (b : Nat → Int32) (m t w : Nat) : Prop := J 183 11 = nI t ∧ J 183 12 = 0 ∧ t ≤ 400 ∧ ws b m t = some w
def GB (J : Nat → Nat → Int32) (b : Nat → Int32) (m : Nat) : Prop := ∃ n r pl, 0 < r ∧ r < 3 ∧ cutR b m n r pl ∧ J 183 12 = nI r ∧ J 183 13 = nI pl
def ST (J0 J : Nat → Nat → Int32) (b : Nat → Int32) (m lo w : Nat) : Prop := GF J0 J ∧ ((∃ t, lo ≤ t ∧ GR J b m t w) ∨ GB J b m)
theorem KMr_eq {k k' : Nat} {x : Int32} (h : KMr k x) (hk : k ≤ 15) (hk' : k' ≤ 15) (h1 : k' ≠ 1) : (x = nI (kmN k')) = (k = k') := by
  have c : kmN k' ≠ 1 ∧ kmN k' ≠ 3 ∧ kmN k' < 100 := by
    unfold kmN
    split
    · omega
    · split <;> omega
  apply propext
  rcases h with ⟨h, hx1⟩ | ⟨h, hx1⟩
  · constructor
    · intro z
      exfalso
      rcases hx1 with y | y
      · have e : (nI 1 = nI (kmN k')) = (1 = kmN k') := nn_eq (by omega) (by omega)
        have : 1 = kmN k' := by rw [← e]; exact y.symm.trans z
        omega
      · have e : (nI 3 = nI (kmN k')) = (3 = kmN k') := nn_eq (by omega) (by omega)
        have : 3 = kmN k' := by rw [← e]; exact y.symm.trans z
        omega
    · intro z; omega
  · have c2 : kmN k < 100 := by
      unfold kmN
      split
      · omega
      · split <;> omega
    rw [hx1, nn_eq (by omega) (by omega)]
    constructor
    · intro z
      unfold kmN at z
      split at z <;> split at z <;> (try split at z) <;> (try split at z) <;> omega
    · intro z; rw [z]
section GRAM
variable {τ : XS} {J0 J : Nat → Nat → Int32} {b : Nat → Int32} {m N t w : Nat}
theorem GR_N (h : TN J0 b m N) (hg : GR J b m t w) : t < N := by
  obtain ⟨h1, h2, h3, h4, h5⟩ := h
  obtain ⟨g1, g2, g3, g4⟩ := hg
  rcases h5 with z | z
  · omega
  · apply Classical.byContradiction
    intro hn
    obtain ⟨v, v1, v2, -⟩ := ws_pre t w g4 (N - 1) (by omega)
    exact v2 z
theorem is12_ok (hS : Shp τ) (hN : TN J0 b m N) (hF : GF J0 J) (hg : GR J b m t w) {k' : Nat} (hk' : k' ≤ 15) (h1 : k' ≠ 1) : f_X12_is (xw τ J) 183 (nI (kmN k')) = some (if tKd b m t = k' then 1 else 0) := by
  have ht := GR_N hN hg
  obtain ⟨g1, g2, g3, g4⟩ := hg
  have t403 : t < 403 := by omega
  have v : J 186 t = J0 186 t := hF _ _ (by omega)
  have e := KMr_eq (hN.2.2.1 t ht).1 (tKd_b t) hk' h1
  unfold f_X12_is
  simp (disch := first | assumption | omega) only [Option.bind_some, Option.map_some, xw_gR, xw_gN, xw_al, xw_ck, xw_uI, xw_ur, xup_at, xur_at, if_true, if_false, reduceIte, and_true, true_and, and_false, false_and, not_true_eq_false, not_false_eq_true, Nat.reduceEqDiff, eq_self, Nat.reduceAdd, Nat.reduceMul, kC1, kG1, kP1, kR1_0, kR1_1, kR1_2, kR1_3, kR1_4, kR1_5, kR1_6, kR1_7, kR1_8, kR1_9, kR1_10, kR1_11, kR1_12, kR1_13, kC2, kG2, kP2, kR2_0, kR2_1, kC3, kG3, kP3, kR3_0, kR3_1, kR3_2, kR3_3, kL4, kA4, kS4, kL5, kA5, kS5, kL6, kA6, kS6, kL7, kA7, kS7, kC8, kG8, kP8, kR8_0, kR8_1, kL9, kA9, kS9, kL10, kA10, kS10, kC11, kG11, kP11, kR11_0, kR11_1, kR11_2, kR11_3, kL12, kA12, kS12, kL13, kA13, kS13, kL14, kA14, kS14, kL15, kA15, kS15, kC16, kG16, kP16, kR16_0, kR16_1, kL17, kA17, kS17, kL18, kA18, kS18, kC19, kG19, kP19, kR19_0, kL20, kL141, kL146, kA146, kS146, kL151, kA151, kS151, kL156, kA156, kS156, kC157, kG157, kP157, kR157_0, kR157_1, kL158, kA158, kS158, kL159, kA159, kS159, kC161, kG161, kP161, kR161_0, kR161_1, kL162, kA162, kS162, kL163, kA163, kS163, kC165, kG165, kP165, kR165_0, kR165_1, kR165_2, kR165_3, kL166, kA166, kS166, kL167, kA167, kS167, kL168, kA168, kS168, kL169, kA169, kS169, kC170, kG170, kP170, kR170_0, kR170_1, kR170_2, kL171, kA171, kS171, kL172, kA172, kS172, kL173, kA173, kS173, kC174, kG174, kP174, kR174_0, kR174_1, kR174_2, kR174_3, kR174_4, kL175, kA175, kS175, kL176, kA176, kS176, kL177, kA177, kS177, kL178, kA178, kS178, kL179, kC180, kG180, kP180, kL181, kL182, kA182, kS182, kC183, kG183, kP183, kR183_1, kR183_3, kR183_5, kR183_6, kR183_7, kR183_8, kR183_9, kR183_21, kR183_26, kR183_27, kR183_30, kR183_31, kR183_33, kR183_34, kR183_36, kR183_37, kR183_38, kR183_39, kR183_40, kR183_41, kR183_42, kR183_43, kR183_44, kL184, kA184, kS184, kL185, kA185, kS185, kL186, kA186, kS186, kL187, kA187, kS187, kL188, kA188, kS188, kL189, kL190, kL191, kA191, kS191, kL192, kA192, kS192, kL193, kA193, kS193, kL194, kA194, kS194, kL195, kA195, kS195, kL196, kA196, kS196, kL197, kA197, kS197, kL198, kA198, kS198, kL199, kA199, kS199, kL200, kA200, kS200, kL201, kL202, kA202, kS202, kL203, kA203, kS203, kL204, kA204, kS204, kL205, kL206, kA206, kS206, g2, g1, v, e]
  by_cases z : tKd b m t = k'
  · rw [if_pos z, if_pos z]
  · rw [if_neg z, if_neg z]
theorem is12_b (hS : Shp τ) (hg : GB J b m) (x : Int32) : f_X12_is (xw τ J) 183 x = some 0 := by
  obtain ⟨n, r, pl, r0, r3, -, g1, g2⟩ := hg
  have q : (nI r = 0) = False := eq_false (nI_ne0 (by omega) (by omega))
  unfold f_X12_is
  simp (disch := first | assumption | omega) only [Option.bind_some, Option.map_some, xw_gR, xw_gN, xw_al, xw_ck, xw_uI, xw_ur, xup_at, xur_at, if_true, if_false, reduceIte, and_true, true_and, and_false, false_and, not_true_eq_false, not_false_eq_true, Nat.reduceEqDiff, eq_self, Nat.reduceAdd, Nat.reduceMul, kC1, kG1, kP1, kR1_0, kR1_1, kR1_2, kR1_3, kR1_4, kR1_5, kR1_6, kR1_7, kR1_8, kR1_9, kR1_10, kR1_11, kR1_12, kR1_13, kC2, kG2, kP2, kR2_0, kR2_1, kC3, kG3, kP3, kR3_0, kR3_1, kR3_2, kR3_3, kL4, kA4, kS4, kL5, kA5, kS5, kL6, kA6, kS6, kL7, kA7, kS7, kC8, kG8, kP8, kR8_0, kR8_1, kL9, kA9, kS9, kL10, kA10, kS10, kC11, kG11, kP11, kR11_0, kR11_1, kR11_2, kR11_3, kL12, kA12, kS12, kL13, kA13, kS13, kL14, kA14, kS14, kL15, kA15, kS15, kC16, kG16, kP16, kR16_0, kR16_1, kL17, kA17, kS17, kL18, kA18, kS18, kC19, kG19, kP19, kR19_0, kL20, kL141, kL146, kA146, kS146, kL151, kA151, kS151, kL156, kA156, kS156, kC157, kG157, kP157, kR157_0, kR157_1, kL158, kA158, kS158, kL159, kA159, kS159, kC161, kG161, kP161, kR161_0, kR161_1, kL162, kA162, kS162, kL163, kA163, kS163, kC165, kG165, kP165, kR165_0, kR165_1, kR165_2, kR165_3, kL166, kA166, kS166, kL167, kA167, kS167, kL168, kA168, kS168, kL169, kA169, kS169, kC170, kG170, kP170, kR170_0, kR170_1, kR170_2, kL171, kA171, kS171, kL172, kA172, kS172, kL173, kA173, kS173, kC174, kG174, kP174, kR174_0, kR174_1, kR174_2, kR174_3, kR174_4, kL175, kA175, kS175, kL176, kA176, kS176, kL177, kA177, kS177, kL178, kA178, kS178, kL179, kC180, kG180, kP180, kL181, kL182, kA182, kS182, kC183, kG183, kP183, kR183_1, kR183_3, kR183_5, kR183_6, kR183_7, kR183_8, kR183_9, kR183_21, kR183_26, kR183_27, kR183_30, kR183_31, kR183_33, kR183_34, kR183_36, kR183_37, kR183_38, kR183_39, kR183_40, kR183_41, kR183_42, kR183_43, kR183_44, kL184, kA184, kS184, kL185, kA185, kS185, kL186, kA186, kS186, kL187, kA187, kS187, kL188, kA188, kS188, kL189, kL190, kL191, kA191, kS191, kL192, kA192, kS192, kL193, kA193, kS193, kL194, kA194, kS194, kL195, kA195, kS195, kL196, kA196, kS196, kL197, kA197, kS197, kL198, kA198, kS198, kL199, kA199, kS199, kL200, kA200, kS200, kL201, kL202, kA202, kS202, kL203, kA203, kS203, kL204, kA204, kS204, kL205, kL206, kA206, kS206, g1, q]
theorem fail12_b (hS : Shp τ) (hg : GB J b m) (x : Int32) : f_X12_fail (xw τ J) 183 x = some (xw τ J) := by
  obtain ⟨n, r, pl, r0, r3, -, g1, g2⟩ := hg
  have q : (nI r ≤ 0) = False := eq_false (nI_nle (by omega) (by omega))
  unfold f_X12_fail
  simp (disch := first | assumption | omega) only [Option.bind_some, Option.map_some, xw_gR, xw_gN, xw_al, xw_ck, xw_uI, xw_ur, xup_at, xur_at, if_true, if_false, reduceIte, and_true, true_and, and_false, false_and, not_true_eq_false, not_false_eq_true, Nat.reduceEqDiff, eq_self, Nat.reduceAdd, Nat.reduceMul, kC1, kG1, kP1, kR1_0, kR1_1, kR1_2, kR1_3, kR1_4, kR1_5, kR1_6, kR1_7, kR1_8, kR1_9, kR1_10, kR1_11, kR1_12, kR1_13, kC2, kG2, kP2, kR2_0, kR2_1, kC3, kG3, kP3, kR3_0, kR3_1, kR3_2, kR3_3, kL4, kA4, kS4, kL5, kA5, kS5, kL6, kA6, kS6, kL7, kA7, kS7, kC8, kG8, kP8, kR8_0, kR8_1, kL9, kA9, kS9, kL10, kA10, kS10, kC11, kG11, kP11, kR11_0, kR11_1, kR11_2, kR11_3, kL12, kA12, kS12, kL13, kA13, kS13, kL14, kA14, kS14, kL15, kA15, kS15, kC16, kG16, kP16, kR16_0, kR16_1, kL17, kA17, kS17, kL18, kA18, kS18, kC19, kG19, kP19, kR19_0, kL20, kL141, kL146, kA146, kS146, kL151, kA151, kS151, kL156, kA156, kS156, kC157, kG157, kP157, kR157_0, kR157_1, kL158, kA158, kS158, kL159, kA159, kS159, kC161, kG161, kP161, kR161_0, kR161_1, kL162, kA162, kS162, kL163, kA163, kS163, kC165, kG165, kP165, kR165_0, kR165_1, kR165_2, kR165_3, kL166, kA166, kS166, kL167, kA167, kS167, kL168, kA168, kS168, kL169, kA169, kS169, kC170, kG170, kP170, kR170_0, kR170_1, kR170_2, kL171, kA171, kS171, kL172, kA172, kS172, kL173, kA173, kS173, kC174, kG174, kP174, kR174_0, kR174_1, kR174_2, kR174_3, kR174_4, kL175, kA175, kS175, kL176, kA176, kS176, kL177, kA177, kS177, kL178, kA178, kS178, kL179, kC180, kG180, kP180, kL181, kL182, kA182, kS182, kC183, kG183, kP183, kR183_1, kR183_3, kR183_5, kR183_6, kR183_7, kR183_8, kR183_9, kR183_21, kR183_26, kR183_27, kR183_30, kR183_31, kR183_33, kR183_34, kR183_36, kR183_37, kR183_38, kR183_39, kR183_40, kR183_41, kR183_42, kR183_43, kR183_44, kL184, kA184, kS184, kL185, kA185, kS185, kL186, kA186, kS186, kL187, kA187, kS187, kL188, kA188, kS188, kL189, kL190, kL191, kA191, kS191, kL192, kA192, kS192, kL193, kA193, kS193, kL194, kA194, kS194, kL195, kA195, kS195, kL196, kA196, kS196, kL197, kA197, kS197, kL198, kA198, kS198, kL199, kA199, kS199, kL200, kA200, kS200, kL201, kL202, kA202, kS202, kL203, kA203, kS203, kL204, kA204, kS204, kL205, kL206, kA206, kS206, g1, q]
theorem fail12_g (hS : Shp τ) (hN : TN J0 b m N) (hF : GF J0 J) (hg : GR J b m t w) (r : Int32) : f_X12_fail (xw τ J) 183 r = some (xw τ (xup (xup J 183 12 r) 183 13 (nI (tSt b m t)))) := by
  have ht := GR_N hN hg
  obtain ⟨g1, g2, g3, g4⟩ := hg
  have t403 : t < 403 := by omega
  have v : J 187 t = nI (tSt b m t) := by rw [hF _ _ (by omega)]; exact (hN.2.2.1 t ht).2.1
  have hN1 := hN.1
  have q : ((0 : Int32) ≤ 0) = True := eq_true (by decide)
  unfold f_X12_fail
  simp (disch := first | assumption | omega) only [Option.bind_some, Option.map_some, xw_gR, xw_gN, xw_al, xw_ck, xw_uI, xw_ur, xup_at, xur_at, if_true, if_false, reduceIte, and_true, true_and, and_false, false_and, not_true_eq_false, not_false_eq_true, Nat.reduceEqDiff, eq_self, Nat.reduceAdd, Nat.reduceMul, kC1, kG1, kP1, kR1_0, kR1_1, kR1_2, kR1_3, kR1_4, kR1_5, kR1_6, kR1_7, kR1_8, kR1_9, kR1_10, kR1_11, kR1_12, kR1_13, kC2, kG2, kP2, kR2_0, kR2_1, kC3, kG3, kP3, kR3_0, kR3_1, kR3_2, kR3_3, kL4, kA4, kS4, kL5, kA5, kS5, kL6, kA6, kS6, kL7, kA7, kS7, kC8, kG8, kP8, kR8_0, kR8_1, kL9, kA9, kS9, kL10, kA10, kS10, kC11, kG11, kP11, kR11_0, kR11_1, kR11_2, kR11_3, kL12, kA12, kS12, kL13, kA13, kS13, kL14, kA14, kS14, kL15, kA15, kS15, kC16, kG16, kP16, kR16_0, kR16_1, kL17, kA17, kS17, kL18, kA18, kS18, kC19, kG19, kP19, kR19_0, kL20, kL141, kL146, kA146, kS146, kL151, kA151, kS151, kL156, kA156, kS156, kC157, kG157, kP157, kR157_0, kR157_1, kL158, kA158, kS158, kL159, kA159, kS159, kC161, kG161, kP161, kR161_0, kR161_1, kL162, kA162, kS162, kL163, kA163, kS163, kC165, kG165, kP165, kR165_0, kR165_1, kR165_2, kR165_3, kL166, kA166, kS166, kL167, kA167, kS167, kL168, kA168, kS168, kL169, kA169, kS169, kC170, kG170, kP170, kR170_0, kR170_1, kR170_2, kL171, kA171, kS171, kL172, kA172, kS172, kL173, kA173, kS173, kC174, kG174, kP174, kR174_0, kR174_1, kR174_2, kR174_3, kR174_4, kL175, kA175, kS175, kL176, kA176, kS176, kL177, kA177, kS177, kL178, kA178, kS178, kL179, kC180, kG180, kP180, kL181, kL182, kA182, kS182, kC183, kG183, kP183, kR183_1, kR183_3, kR183_5, kR183_6, kR183_7, kR183_8, kR183_9, kR183_21, kR183_26, kR183_27, kR183_30, kR183_31, kR183_33, kR183_34, kR183_36, kR183_37, kR183_38, kR183_39, kR183_40, kR183_41, kR183_42, kR183_43, kR183_44, kL184, kA184, kS184, kL185, kA185, kS185, kL186, kA186, kS186, kL187, kA187, kS187, kL188, kA188, kS188, kL189, kL190, kL191, kA191, kS191, kL192, kA192, kS192, kL193, kA193, kS193, kL194, kA194, kS194, kL195, kA195, kS195, kL196, kA196, kS196, kL197, kA197, kS197, kL198, kA198, kS198, kL199, kA199, kS199, kL200, kA200, kS200, kL201, kL202, kA202, kS202, kL203, kA203, kS203, kL204, kA204, kS204, kL205, kL206, kA206, kS206, g2, q, g1, v]
theorem GB_up {n r pl : Nat} (hF : GF J0 J) (hr : 0 < r) (hr3 : r < 3) (hc : cutR b m n r pl) : GF J0 (xup (xup J 183 12 (nI r)) 183 13 (nI pl)) ∧ GB (xup (xup J 183 12 (nI r)) 183 13 (nI pl)) b m :=
  ⟨fun a q h => by rw [xup_at, if_neg (by omega), xup_at, if_neg (by omega)]; exact hF a q h, n, r, pl, hr, hr3, hc, by rw [xup_at, if_neg (by omega), xup_at, if_pos ⟨rfl, rfl⟩], by rw [xup_at, if_pos ⟨rfl, rfl⟩]⟩
theorem passes_g (hS : Shp τ) (hN : TN J0 b m N) (hF : GF J0 J) (hg : GR J b m t w) {w' : Nat} (hk0 : tKd b m t ≠ 0) (hd : dl w (tKd b m t) = some w') : ∃ J', f_X12_passes (xw τ J) 183 = some (xw τ J') ∧ GF J0 J' ∧ (GR J' b m (t + 1) w' ∨ GB J' b m) := by
  have hw' : ws b m (t + 1) = some w' := by rw [ws_s hg.2.2.2, if_neg hk0]; exact hd
  have fg := fail12_g (τ := τ) hS hN hF hg 2
  obtain ⟨g1, g2, g3, g4⟩ := hg
  have q : (nI t = (400 : Int32)) = (t = 400) := nn_eq (b := 400) (by omega) (by decide)
  by_cases h400 : t = 400
  · obtain ⟨z1, z2⟩ := GB_up (b := b) (m := m) (n := 401) (r := 2) (pl := tSt b m 400) hF (by omega) (by omega) ⟨w', by rw [h400] at hw'; exact hw', .inr (.inr ⟨rfl, rfl, rfl⟩)⟩
    refine ⟨_, ?_, z1, .inr z2⟩
    unfold f_X12_passes
    have q1 : (nI t = (400 : Int32)) = True := q.trans (eq_true h400)
    simp (disch := first | assumption | omega) only [Option.bind_some, Option.map_some, xw_gR, xw_gN, xw_al, xw_ck, xw_uI, xw_ur, xup_at, xur_at, if_true, if_false, reduceIte, and_true, true_and, and_false, false_and, not_true_eq_false, not_false_eq_true, Nat.reduceEqDiff, eq_self, Nat.reduceAdd, Nat.reduceMul, kC1, kG1, kP1, kR1_0, kR1_1, kR1_2, kR1_3, kR1_4, kR1_5, kR1_6, kR1_7, kR1_8, kR1_9, kR1_10, kR1_11, kR1_12, kR1_13, kC2, kG2, kP2, kR2_0, kR2_1, kC3, kG3, kP3, kR3_0, kR3_1, kR3_2, kR3_3, kL4, kA4, kS4, kL5, kA5, kS5, kL6, kA6, kS6, kL7, kA7, kS7, kC8, kG8, kP8, kR8_0, kR8_1, kL9, kA9, kS9, kL10, kA10, kS10, kC11, kG11, kP11, kR11_0, kR11_1, kR11_2, kR11_3, kL12, kA12, kS12, kL13, kA13, kS13, kL14, kA14, kS14, kL15, kA15, kS15, kC16, kG16, kP16, kR16_0, kR16_1, kL17, kA17, kS17, kL18, kA18, kS18, kC19, kG19, kP19, kR19_0, kL20, kL141, kL146, kA146, kS146, kL151, kA151, kS151, kL156, kA156, kS156, kC157, kG157, kP157, kR157_0, kR157_1, kL158, kA158, kS158, kL159, kA159, kS159, kC161, kG161, kP161, kR161_0, kR161_1, kL162, kA162, kS162, kL163, kA163, kS163, kC165, kG165, kP165, kR165_0, kR165_1, kR165_2, kR165_3, kL166, kA166, kS166, kL167, kA167, kS167, kL168, kA168, kS168, kL169, kA169, kS169, kC170, kG170, kP170, kR170_0, kR170_1, kR170_2, kL171, kA171, kS171, kL172, kA172, kS172, kL173, kA173, kS173, kC174, kG174, kP174, kR174_0, kR174_1, kR174_2, kR174_3, kR174_4, kL175, kA175, kS175, kL176, kA176, kS176, kL177, kA177, kS177, kL178, kA178, kS178, kL179, kC180, kG180, kP180, kL181, kL182, kA182, kS182, kC183, kG183, kP183, kR183_1, kR183_3, kR183_5, kR183_6, kR183_7, kR183_8, kR183_9, kR183_21, kR183_26, kR183_27, kR183_30, kR183_31, kR183_33, kR183_34, kR183_36, kR183_37, kR183_38, kR183_39, kR183_40, kR183_41, kR183_42, kR183_43, kR183_44, kL184, kA184, kS184, kL185, kA185, kS185, kL186, kA186, kS186, kL187, kA187, kS187, kL188, kA188, kS188, kL189, kL190, kL191, kA191, kS191, kL192, kA192, kS192, kL193, kA193, kS193, kL194, kA194, kS194, kL195, kA195, kS195, kL196, kA196, kS196, kL197, kA197, kS197, kL198, kA198, kS198, kL199, kA199, kS199, kL200, kA200, kS200, kL201, kL202, kA202, kS202, kL203, kA203, kS203, kL204, kA204, kS204, kL205, kL206, kA206, kS206, g1, q1, fg]
    rw [h400]
    rfl
  · refine ⟨xup J 183 11 (nI (t + 1)), ?_, fun a p h => by rw [xup_at, if_neg (by omega)]; exact hF a p h, .inl ⟨by rw [xup_at, if_pos ⟨rfl, rfl⟩], by rw [xup_at, if_neg (by omega)]; exact g2, by omega, hw'⟩⟩
    unfold f_X12_passes
    simp (disch := first | assumption | omega) only [Option.bind_some, Option.map_some, xw_gR, xw_gN, xw_al, xw_ck, xw_uI, xw_ur, xup_at, xur_at, if_true, if_false, reduceIte, and_true, true_and, and_false, false_and, not_true_eq_false, not_false_eq_true, Nat.reduceEqDiff, eq_self, Nat.reduceAdd, Nat.reduceMul, kC1, kG1, kP1, kR1_0, kR1_1, kR1_2, kR1_3, kR1_4, kR1_5, kR1_6, kR1_7, kR1_8, kR1_9, kR1_10, kR1_11, kR1_12, kR1_13, kC2, kG2, kP2, kR2_0, kR2_1, kC3, kG3, kP3, kR3_0, kR3_1, kR3_2, kR3_3, kL4, kA4, kS4, kL5, kA5, kS5, kL6, kA6, kS6, kL7, kA7, kS7, kC8, kG8, kP8, kR8_0, kR8_1, kL9, kA9, kS9, kL10, kA10, kS10, kC11, kG11, kP11, kR11_0, kR11_1, kR11_2, kR11_3, kL12, kA12, kS12, kL13, kA13, kS13, kL14, kA14, kS14, kL15, kA15, kS15, kC16, kG16, kP16, kR16_0, kR16_1, kL17, kA17, kS17, kL18, kA18, kS18, kC19, kG19, kP19, kR19_0, kL20, kL141, kL146, kA146, kS146, kL151, kA151, kS151, kL156, kA156, kS156, kC157, kG157, kP157, kR157_0, kR157_1, kL158, kA158, kS158, kL159, kA159, kS159, kC161, kG161, kP161, kR161_0, kR161_1, kL162, kA162, kS162, kL163, kA163, kS163, kC165, kG165, kP165, kR165_0, kR165_1, kR165_2, kR165_3, kL166, kA166, kS166, kL167, kA167, kS167, kL168, kA168, kS168, kL169, kA169, kS169, kC170, kG170, kP170, kR170_0, kR170_1, kR170_2, kL171, kA171, kS171, kL172, kA172, kS172, kL173, kA173, kS173, kC174, kG174, kP174, kR174_0, kR174_1, kR174_2, kR174_3, kR174_4, kL175, kA175, kS175, kL176, kA176, kS176, kL177, kA177, kS177, kL178, kA178, kS178, kL179, kC180, kG180, kP180, kL181, kL182, kA182, kS182, kC183, kG183, kP183, kR183_1, kR183_3, kR183_5, kR183_6, kR183_7, kR183_8, kR183_9, kR183_21, kR183_26, kR183_27, kR183_30, kR183_31, kR183_33, kR183_34, kR183_36, kR183_37, kR183_38, kR183_39, kR183_40, kR183_41, kR183_42, kR183_43, kR183_44, kL184, kA184, kS184, kL185, kA185, kS185, kL186, kA186, kS186, kL187, kA187, kS187, kL188, kA188, kS188, kL189, kL190, kL191, kA191, kS191, kL192, kA192, kS192, kL193, kA193, kS193, kL194, kA194, kS194, kL195, kA195, kS195, kL196, kA196, kS196, kL197, kA197, kS197, kL198, kA198, kS198, kL199, kA199, kS199, kL200, kA200, kS200, kL201, kL202, kA202, kS202, kL203, kA203, kS203, kL204, kA204, kS204, kL205, kL206, kA206, kS206, g1, q, h400]
    rw [nI_succ]
theorem must_g (hS : Shp τ) (hN : TN J0 b m N) (hF : GF J0 J) (hg : GR J b m t w) {k' w' : Nat} (hk' : k' ≤ 15) (h1 : k' ≠ 1) (h0 : k' ≠ 0) (hw4 : w ≠ 4) (hacc : dl w k' = some w') (hrej : tKd b m t ≠ k' → tKd b m t ≠ 0 → dl w (tKd b m t) = none) : ∃ J', f_X12_must (xw τ J) 183 (nI (kmN k')) = some (xw τ J') ∧ GF J0 J' ∧ (GR J' b m (t + 1) w' ∨ GB J' b m) := by
  have is := is12_ok (τ := τ) hS hN hF hg hk' h1
  by_cases hk : tKd b m t = k'
  · rw [if_pos hk] at is
    obtain ⟨J', p1, p2⟩ := passes_g (τ := τ) hS hN hF hg (by rw [hk]; exact h0) (by rw [hk]; exact hacc)
    refine ⟨J', ?_, p2⟩
    unfold f_X12_must
    simp (disch := first | assumption | omega) only [Option.bind_some, Option.map_some, xw_gR, xw_gN, xw_al, xw_ck, xw_uI, xw_ur, xup_at, xur_at, if_true, if_false, reduceIte, and_true, true_and, and_false, false_and, not_true_eq_false, not_false_eq_true, Nat.reduceEqDiff, eq_self, Nat.reduceAdd, Nat.reduceMul, kC1, kG1, kP1, kR1_0, kR1_1, kR1_2, kR1_3, kR1_4, kR1_5, kR1_6, kR1_7, kR1_8, kR1_9, kR1_10, kR1_11, kR1_12, kR1_13, kC2, kG2, kP2, kR2_0, kR2_1, kC3, kG3, kP3, kR3_0, kR3_1, kR3_2, kR3_3, kL4, kA4, kS4, kL5, kA5, kS5, kL6, kA6, kS6, kL7, kA7, kS7, kC8, kG8, kP8, kR8_0, kR8_1, kL9, kA9, kS9, kL10, kA10, kS10, kC11, kG11, kP11, kR11_0, kR11_1, kR11_2, kR11_3, kL12, kA12, kS12, kL13, kA13, kS13, kL14, kA14, kS14, kL15, kA15, kS15, kC16, kG16, kP16, kR16_0, kR16_1, kL17, kA17, kS17, kL18, kA18, kS18, kC19, kG19, kP19, kR19_0, kL20, kL141, kL146, kA146, kS146, kL151, kA151, kS151, kL156, kA156, kS156, kC157, kG157, kP157, kR157_0, kR157_1, kL158, kA158, kS158, kL159, kA159, kS159, kC161, kG161, kP161, kR161_0, kR161_1, kL162, kA162, kS162, kL163, kA163, kS163, kC165, kG165, kP165, kR165_0, kR165_1, kR165_2, kR165_3, kL166, kA166, kS166, kL167, kA167, kS167, kL168, kA168, kS168, kL169, kA169, kS169, kC170, kG170, kP170, kR170_0, kR170_1, kR170_2, kL171, kA171, kS171, kL172, kA172, kS172, kL173, kA173, kS173, kC174, kG174, kP174, kR174_0, kR174_1, kR174_2, kR174_3, kR174_4, kL175, kA175, kS175, kL176, kA176, kS176, kL177, kA177, kS177, kL178, kA178, kS178, kL179, kC180, kG180, kP180, kL181, kL182, kA182, kS182, kC183, kG183, kP183, kR183_1, kR183_3, kR183_5, kR183_6, kR183_7, kR183_8, kR183_9, kR183_21, kR183_26, kR183_27, kR183_30, kR183_31, kR183_33, kR183_34, kR183_36, kR183_37, kR183_38, kR183_39, kR183_40, kR183_41, kR183_42, kR183_43, kR183_44, kL184, kA184, kS184, kL185, kA185, kS185, kL186, kA186, kS186, kL187, kA187, kS187, kL188, kA188, kS188, kL189, kL190, kL191, kA191, kS191, kL192, kA192, kS192, kL193, kA193, kS193, kL194, kA194, kS194, kL195, kA195, kS195, kL196, kA196, kS196, kL197, kA197, kS197, kL198, kA198, kS198, kL199, kA199, kS199, kL200, kA200, kS200, kL201, kL202, kA202, kS202, kL203, kA203, kS203, kL204, kA204, kS204, kL205, kL206, kA206, kS206, is, one0, p1]
  · rw [if_neg hk] at is
    have fg := fail12_g (τ := τ) hS hN hF hg 1
    obtain ⟨z1, z2⟩ := GB_up (b := b) (m := m) (n := t) (r := 1) (pl := tSt b m t) hF (by omega) (by omega) ⟨w, hg.2.2.2, .inr (.inl ⟨rfl, rfl, hg.2.2.1, by
      by_cases k0 : tKd b m t = 0
      · exact .inl ⟨k0, hw4⟩
      · exact .inr ⟨k0, hrej hk k0⟩⟩)⟩
    refine ⟨_, ?_, z1, .inr z2⟩
    unfold f_X12_must
    simp (disch := first | assumption | omega) only [Option.bind_some, Option.map_some, xw_gR, xw_gN, xw_al, xw_ck, xw_uI, xw_ur, xup_at, xur_at, if_true, if_false, reduceIte, and_true, true_and, and_false, false_and, not_true_eq_false, not_false_eq_true, Nat.reduceEqDiff, eq_self, Nat.reduceAdd, Nat.reduceMul, kC1, kG1, kP1, kR1_0, kR1_1, kR1_2, kR1_3, kR1_4, kR1_5, kR1_6, kR1_7, kR1_8, kR1_9, kR1_10, kR1_11, kR1_12, kR1_13, kC2, kG2, kP2, kR2_0, kR2_1, kC3, kG3, kP3, kR3_0, kR3_1, kR3_2, kR3_3, kL4, kA4, kS4, kL5, kA5, kS5, kL6, kA6, kS6, kL7, kA7, kS7, kC8, kG8, kP8, kR8_0, kR8_1, kL9, kA9, kS9, kL10, kA10, kS10, kC11, kG11, kP11, kR11_0, kR11_1, kR11_2, kR11_3, kL12, kA12, kS12, kL13, kA13, kS13, kL14, kA14, kS14, kL15, kA15, kS15, kC16, kG16, kP16, kR16_0, kR16_1, kL17, kA17, kS17, kL18, kA18, kS18, kC19, kG19, kP19, kR19_0, kL20, kL141, kL146, kA146, kS146, kL151, kA151, kS151, kL156, kA156, kS156, kC157, kG157, kP157, kR157_0, kR157_1, kL158, kA158, kS158, kL159, kA159, kS159, kC161, kG161, kP161, kR161_0, kR161_1, kL162, kA162, kS162, kL163, kA163, kS163, kC165, kG165, kP165, kR165_0, kR165_1, kR165_2, kR165_3, kL166, kA166, kS166, kL167, kA167, kS167, kL168, kA168, kS168, kL169, kA169, kS169, kC170, kG170, kP170, kR170_0, kR170_1, kR170_2, kL171, kA171, kS171, kL172, kA172, kS172, kL173, kA173, kS173, kC174, kG174, kP174, kR174_0, kR174_1, kR174_2, kR174_3, kR174_4, kL175, kA175, kS175, kL176, kA176, kS176, kL177, kA177, kS177, kL178, kA178, kS178, kL179, kC180, kG180, kP180, kL181, kL182, kA182, kS182, kC183, kG183, kP183, kR183_1, kR183_3, kR183_5, kR183_6, kR183_7, kR183_8, kR183_9, kR183_21, kR183_26, kR183_27, kR183_30, kR183_31, kR183_33, kR183_34, kR183_36, kR183_37, kR183_38, kR183_39, kR183_40, kR183_41, kR183_42, kR183_43, kR183_44, kL184, kA184, kS184, kL185, kA185, kS185, kL186, kA186, kS186, kL187, kA187, kS187, kL188, kA188, kS188, kL189, kL190, kL191, kA191, kS191, kL192, kA192, kS192, kL193, kA193, kS193, kL194, kA194, kS194, kL195, kA195, kS195, kL196, kA196, kS196, kL197, kA197, kS197, kL198, kA198, kS198, kL199, kA199, kS199, kL200, kA200, kS200, kL201, kL202, kA202, kS202, kL203, kA203, kS203, kL204, kA204, kS204, kL205, kL206, kA206, kS206, is, fg]
    rfl
theorem must_b (hS : Shp τ) (hg : GB J b m) (x : Int32) : f_X12_must (xw τ J) 183 x = some (xw τ J) := by
  have is := is12_b (τ := τ) hS hg x
  have fb := fail12_b (τ := τ) hS hg 1
  unfold f_X12_must
  simp (disch := first | assumption | omega) only [Option.bind_some, Option.map_some, xw_gR, xw_gN, xw_al, xw_ck, xw_uI, xw_ur, xup_at, xur_at, if_true, if_false, reduceIte, and_true, true_and, and_false, false_and, not_true_eq_false, not_false_eq_true, Nat.reduceEqDiff, eq_self, Nat.reduceAdd, Nat.reduceMul, kC1, kG1, kP1, kR1_0, kR1_1, kR1_2, kR1_3, kR1_4, kR1_5, kR1_6, kR1_7, kR1_8, kR1_9, kR1_10, kR1_11, kR1_12, kR1_13, kC2, kG2, kP2, kR2_0, kR2_1, kC3, kG3, kP3, kR3_0, kR3_1, kR3_2, kR3_3, kL4, kA4, kS4, kL5, kA5, kS5, kL6, kA6, kS6, kL7, kA7, kS7, kC8, kG8, kP8, kR8_0, kR8_1, kL9, kA9, kS9, kL10, kA10, kS10, kC11, kG11, kP11, kR11_0, kR11_1, kR11_2, kR11_3, kL12, kA12, kS12, kL13, kA13, kS13, kL14, kA14, kS14, kL15, kA15, kS15, kC16, kG16, kP16, kR16_0, kR16_1, kL17, kA17, kS17, kL18, kA18, kS18, kC19, kG19, kP19, kR19_0, kL20, kL141, kL146, kA146, kS146, kL151, kA151, kS151, kL156, kA156, kS156, kC157, kG157, kP157, kR157_0, kR157_1, kL158, kA158, kS158, kL159, kA159, kS159, kC161, kG161, kP161, kR161_0, kR161_1, kL162, kA162, kS162, kL163, kA163, kS163, kC165, kG165, kP165, kR165_0, kR165_1, kR165_2, kR165_3, kL166, kA166, kS166, kL167, kA167, kS167, kL168, kA168, kS168, kL169, kA169, kS169, kC170, kG170, kP170, kR170_0, kR170_1, kR170_2, kL171, kA171, kS171, kL172, kA172, kS172, kL173, kA173, kS173, kC174, kG174, kP174, kR174_0, kR174_1, kR174_2, kR174_3, kR174_4, kL175, kA175, kS175, kL176, kA176, kS176, kL177, kA177, kS177, kL178, kA178, kS178, kL179, kC180, kG180, kP180, kL181, kL182, kA182, kS182, kC183, kG183, kP183, kR183_1, kR183_3, kR183_5, kR183_6, kR183_7, kR183_8, kR183_9, kR183_21, kR183_26, kR183_27, kR183_30, kR183_31, kR183_33, kR183_34, kR183_36, kR183_37, kR183_38, kR183_39, kR183_40, kR183_41, kR183_42, kR183_43, kR183_44, kL184, kA184, kS184, kL185, kA185, kS185, kL186, kA186, kS186, kL187, kA187, kS187, kL188, kA188, kS188, kL189, kL190, kL191, kA191, kS191, kL192, kA192, kS192, kL193, kA193, kS193, kL194, kA194, kS194, kL195, kA195, kS195, kL196, kA196, kS196, kL197, kA197, kS197, kL198, kA198, kS198, kL199, kA199, kS199, kL200, kA200, kS200, kL201, kL202, kA202, kS202, kL203, kA203, kS203, kL204, kA204, kS204, kL205, kL206, kA206, kS206, is, fb]
theorem must_s (hS : Shp τ) (hN : TN J0 b m N) {lo : Nat} (hs : ST J0 J b m lo w) {k' w' : Nat} (hk' : k' ≤ 15) (h1 : k' ≠ 1) (h0 : k' ≠ 0) (hw4 : w ≠ 4) (hacc : dl w k' = some w') (hrej : ∀ k, k < 16 → k ≠ k' → dl w k = none) : ∃ J', f_X12_must (xw τ J) 183 (nI (kmN k')) = some (xw τ J') ∧ ST J0 J' b m (lo + 1) w' := by
  obtain ⟨hF, ⟨t, ht, hg⟩ | hb⟩ := hs
  · obtain ⟨J', e, f, q | q⟩ := must_g (τ := τ) hS hN hF hg hk' h1 h0 hw4 hacc (fun z1 z2 => hrej _ (by have := tKd_b (b := b) (m := m) t; omega) z1)
    · exact ⟨J', e, f, .inl ⟨t + 1, by omega, q⟩⟩
    · exact ⟨J', e, f, .inr q⟩
  · exact ⟨J, must_b hS hb _, hF, .inr hb⟩
theorem mustJ_s (hS : Shp τ) (hN : TN J0 b m N) {lo : Nat} (hs : ST J0 J b m lo 5) : ∃ J', f_X12_mustJ (xw τ J) 183 = some (xw τ J') ∧ ST J0 J' b m (lo + 1) 3 := by
  have j12 : ∀ {J1 : Nat → Nat → Int32} {z : XS}, f_X12_must (xw τ J1) 183 (2 : Int32) = some z → f_X12_mustJ_j12 (xw τ J1) 183 = some z := by
    intro J1 z hz
    unfold f_X12_mustJ_j12
    rw [xw_ck, kC183 hS, Option.bind_some, hz, Option.bind_some]
  obtain ⟨hF, ⟨t, ht, hg⟩ | hb⟩ := hs
  · have is := is12_ok (τ := τ) hS hN hF hg (k' := 3) (by omega) (by omega)
    by_cases hk : tKd b m t = 3
    · rw [if_pos hk] at is
      have is : f_X12_is (xw τ J) 183 (5 : Int32) = some 1 := is
      obtain ⟨J1, p1, p2, p3⟩ := passes_g (τ := τ) hS hN hF hg (by omega) (w' := 6) (by rw [hk]; rfl)
      obtain ⟨J2, e2, s2⟩ := must_s (τ := τ) (J := J1) (lo := lo + 1) hS hN (w := 6) ⟨p2, by
        rcases p3 with q | q
        · exact .inl ⟨t + 1, by omega, q⟩
        · exact .inr q⟩ (k' := 2) (w' := 3) (by omega) (by omega) (by omega) (by omega) rfl (by decide)
      refine ⟨J2, ?_, s2.1, ?_⟩
      · unfold f_X12_mustJ
        simp (disch := first | assumption | omega) only [Option.bind_some, Option.map_some, xw_gR, xw_gN, xw_al, xw_ck, xw_uI, xw_ur, xup_at, xur_at, if_true, if_false, reduceIte, and_true, true_and, and_false, false_and, not_true_eq_false, not_false_eq_true, Nat.reduceEqDiff, eq_self, Nat.reduceAdd, Nat.reduceMul, kC1, kG1, kP1, kR1_0, kR1_1, kR1_2, kR1_3, kR1_4, kR1_5, kR1_6, kR1_7, kR1_8, kR1_9, kR1_10, kR1_11, kR1_12, kR1_13, kC2, kG2, kP2, kR2_0, kR2_1, kC3, kG3, kP3, kR3_0, kR3_1, kR3_2, kR3_3, kL4, kA4, kS4, kL5, kA5, kS5, kL6, kA6, kS6, kL7, kA7, kS7, kC8, kG8, kP8, kR8_0, kR8_1, kL9, kA9, kS9, kL10, kA10, kS10, kC11, kG11, kP11, kR11_0, kR11_1, kR11_2, kR11_3, kL12, kA12, kS12, kL13, kA13, kS13, kL14, kA14, kS14, kL15, kA15, kS15, kC16, kG16, kP16, kR16_0, kR16_1, kL17, kA17, kS17, kL18, kA18, kS18, kC19, kG19, kP19, kR19_0, kL20, kL141, kL146, kA146, kS146, kL151, kA151, kS151, kL156, kA156, kS156, kC157, kG157, kP157, kR157_0, kR157_1, kL158, kA158, kS158, kL159, kA159, kS159, kC161, kG161, kP161, kR161_0, kR161_1, kL162, kA162, kS162, kL163, kA163, kS163, kC165, kG165, kP165, kR165_0, kR165_1, kR165_2, kR165_3, kL166, kA166, kS166, kL167, kA167, kS167, kL168, kA168, kS168, kL169, kA169, kS169, kC170, kG170, kP170, kR170_0, kR170_1, kR170_2, kL171, kA171, kS171, kL172, kA172, kS172, kL173, kA173, kS173, kC174, kG174, kP174, kR174_0, kR174_1, kR174_2, kR174_3, kR174_4, kL175, kA175, kS175, kL176, kA176, kS176, kL177, kA177, kS177, kL178, kA178, kS178, kL179, kC180, kG180, kP180, kL181, kL182, kA182, kS182, kC183, kG183, kP183, kR183_1, kR183_3, kR183_5, kR183_6, kR183_7, kR183_8, kR183_9, kR183_21, kR183_26, kR183_27, kR183_30, kR183_31, kR183_33, kR183_34, kR183_36, kR183_37, kR183_38, kR183_39, kR183_40, kR183_41, kR183_42, kR183_43, kR183_44, kL184, kA184, kS184, kL185, kA185, kS185, kL186, kA186, kS186, kL187, kA187, kS187, kL188, kA188, kS188, kL189, kL190, kL191, kA191, kS191, kL192, kA192, kS192, kL193, kA193, kS193, kL194, kA194, kS194, kL195, kA195, kS195, kL196, kA196, kS196, kL197, kA197, kS197, kL198, kA198, kS198, kL199, kA199, kS199, kL200, kA200, kS200, kL201, kL202, kA202, kS202, kL203, kA203, kS203, kL204, kA204, kS204, kL205, kL206, kA206, kS206, is, one0, p1]
        exact j12 e2
      · rcases s2.2 with ⟨t', ht', q⟩ | q
        · exact .inl ⟨t', by omega, q⟩
        · exact .inr q
    · rw [if_neg hk] at is
      have is : f_X12_is (xw τ J) 183 (5 : Int32) = some 0 := is
      obtain ⟨J', e, f, q⟩ := must_g (τ := τ) hS hN hF hg (k' := 2) (w' := 3) (by omega) (by omega) (by omega) (by omega) rfl (fun z1 z2 => by
        have kb := tKd_b (b := b) (m := m) t
        have d5 : ∀ k, k < 16 → k ≠ 2 → k ≠ 3 → dl 5 k = none := by decide
        exact d5 _ (by omega) z1 hk)
      refine ⟨J', ?_, f, ?_⟩
      · unfold f_X12_mustJ
        simp (disch := first | assumption | omega) only [Option.bind_some, Option.map_some, xw_gR, xw_gN, xw_al, xw_ck, xw_uI, xw_ur, xup_at, xur_at, if_true, if_false, reduceIte, and_true, true_and, and_false, false_and, not_true_eq_false, not_false_eq_true, Nat.reduceEqDiff, eq_self, Nat.reduceAdd, Nat.reduceMul, kC1, kG1, kP1, kR1_0, kR1_1, kR1_2, kR1_3, kR1_4, kR1_5, kR1_6, kR1_7, kR1_8, kR1_9, kR1_10, kR1_11, kR1_12, kR1_13, kC2, kG2, kP2, kR2_0, kR2_1, kC3, kG3, kP3, kR3_0, kR3_1, kR3_2, kR3_3, kL4, kA4, kS4, kL5, kA5, kS5, kL6, kA6, kS6, kL7, kA7, kS7, kC8, kG8, kP8, kR8_0, kR8_1, kL9, kA9, kS9, kL10, kA10, kS10, kC11, kG11, kP11, kR11_0, kR11_1, kR11_2, kR11_3, kL12, kA12, kS12, kL13, kA13, kS13, kL14, kA14, kS14, kL15, kA15, kS15, kC16, kG16, kP16, kR16_0, kR16_1, kL17, kA17, kS17, kL18, kA18, kS18, kC19, kG19, kP19, kR19_0, kL20, kL141, kL146, kA146, kS146, kL151, kA151, kS151, kL156, kA156, kS156, kC157, kG157, kP157, kR157_0, kR157_1, kL158, kA158, kS158, kL159, kA159, kS159, kC161, kG161, kP161, kR161_0, kR161_1, kL162, kA162, kS162, kL163, kA163, kS163, kC165, kG165, kP165, kR165_0, kR165_1, kR165_2, kR165_3, kL166, kA166, kS166, kL167, kA167, kS167, kL168, kA168, kS168, kL169, kA169, kS169, kC170, kG170, kP170, kR170_0, kR170_1, kR170_2, kL171, kA171, kS171, kL172, kA172, kS172, kL173, kA173, kS173, kC174, kG174, kP174, kR174_0, kR174_1, kR174_2, kR174_3, kR174_4, kL175, kA175, kS175, kL176, kA176, kS176, kL177, kA177, kS177, kL178, kA178, kS178, kL179, kC180, kG180, kP180, kL181, kL182, kA182, kS182, kC183, kG183, kP183, kR183_1, kR183_3, kR183_5, kR183_6, kR183_7, kR183_8, kR183_9, kR183_21, kR183_26, kR183_27, kR183_30, kR183_31, kR183_33, kR183_34, kR183_36, kR183_37, kR183_38, kR183_39, kR183_40, kR183_41, kR183_42, kR183_43, kR183_44, kL184, kA184, kS184, kL185, kA185, kS185, kL186, kA186, kS186, kL187, kA187, kS187, kL188, kA188, kS188, kL189, kL190, kL191, kA191, kS191, kL192, kA192, kS192, kL193, kA193, kS193, kL194, kA194, kS194, kL195, kA195, kS195, kL196, kA196, kS196, kL197, kA197, kS197, kL198, kA198, kS198, kL199, kA199, kS199, kL200, kA200, kS200, kL201, kL202, kA202, kS202, kL203, kA203, kS203, kL204, kA204, kS204, kL205, kL206, kA206, kS206, is]
        exact j12 e
      · rcases q with q | q
        · exact .inl ⟨t + 1, by omega, q⟩
        · exact .inr q
  · refine ⟨J, ?_, hF, .inr hb⟩
    unfold f_X12_mustJ
    have is := is12_b (τ := τ) hS hb 5
    simp (disch := first | assumption | omega) only [Option.bind_some, Option.map_some, xw_gR, xw_gN, xw_al, xw_ck, xw_uI, xw_ur, xup_at, xur_at, if_true, if_false, reduceIte, and_true, true_and, and_false, false_and, not_true_eq_false, not_false_eq_true, Nat.reduceEqDiff, eq_self, Nat.reduceAdd, Nat.reduceMul, kC1, kG1, kP1, kR1_0, kR1_1, kR1_2, kR1_3, kR1_4, kR1_5, kR1_6, kR1_7, kR1_8, kR1_9, kR1_10, kR1_11, kR1_12, kR1_13, kC2, kG2, kP2, kR2_0, kR2_1, kC3, kG3, kP3, kR3_0, kR3_1, kR3_2, kR3_3, kL4, kA4, kS4, kL5, kA5, kS5, kL6, kA6, kS6, kL7, kA7, kS7, kC8, kG8, kP8, kR8_0, kR8_1, kL9, kA9, kS9, kL10, kA10, kS10, kC11, kG11, kP11, kR11_0, kR11_1, kR11_2, kR11_3, kL12, kA12, kS12, kL13, kA13, kS13, kL14, kA14, kS14, kL15, kA15, kS15, kC16, kG16, kP16, kR16_0, kR16_1, kL17, kA17, kS17, kL18, kA18, kS18, kC19, kG19, kP19, kR19_0, kL20, kL141, kL146, kA146, kS146, kL151, kA151, kS151, kL156, kA156, kS156, kC157, kG157, kP157, kR157_0, kR157_1, kL158, kA158, kS158, kL159, kA159, kS159, kC161, kG161, kP161, kR161_0, kR161_1, kL162, kA162, kS162, kL163, kA163, kS163, kC165, kG165, kP165, kR165_0, kR165_1, kR165_2, kR165_3, kL166, kA166, kS166, kL167, kA167, kS167, kL168, kA168, kS168, kL169, kA169, kS169, kC170, kG170, kP170, kR170_0, kR170_1, kR170_2, kL171, kA171, kS171, kL172, kA172, kS172, kL173, kA173, kS173, kC174, kG174, kP174, kR174_0, kR174_1, kR174_2, kR174_3, kR174_4, kL175, kA175, kS175, kL176, kA176, kS176, kL177, kA177, kS177, kL178, kA178, kS178, kL179, kC180, kG180, kP180, kL181, kL182, kA182, kS182, kC183, kG183, kP183, kR183_1, kR183_3, kR183_5, kR183_6, kR183_7, kR183_8, kR183_9, kR183_21, kR183_26, kR183_27, kR183_30, kR183_31, kR183_33, kR183_34, kR183_36, kR183_37, kR183_38, kR183_39, kR183_40, kR183_41, kR183_42, kR183_43, kR183_44, kL184, kA184, kS184, kL185, kA185, kS185, kL186, kA186, kS186, kL187, kA187, kS187, kL188, kA188, kS188, kL189, kL190, kL191, kA191, kS191, kL192, kA192, kS192, kL193, kA193, kS193, kL194, kA194, kS194, kL195, kA195, kS195, kL196, kA196, kS196, kL197, kA197, kS197, kL198, kA198, kS198, kL199, kA199, kS199, kL200, kA200, kS200, kL201, kL202, kA202, kS202, kL203, kA203, kS203, kL204, kA204, kS204, kL205, kL206, kA206, kS206, is]
    exact j12 (must_b hS hb 2)
/-- one of two words -/
theorem must2_s (hS : Shp τ) (hN : TN J0 b m N) {lo : Nat} {k1 k2 w' : Nat} (hs : ST J0 J b m lo w) (hk1 : k1 ≤ 15) (hk2 : k2 ≤ 15) (h1 : 2 ≤ k1) (h2 : 2 ≤ k2) (hw4 : w ≠ 4) (d1 : dl w k1 = some w') (d2 : dl w k2 = some w') (hrej : ∀ k, k < 16 → k ≠ k1 → k ≠ k2 → dl w k = none) :
    ∃ J', ((f_X12_is (xw τ J) 183 (nI (kmN k1)) = some 1 ∧ f_X12_passes (xw τ J) 183 = some (xw τ J')) ∨ (f_X12_is (xw τ J) 183 (nI (kmN k1)) = some 0 ∧ f_X12_must (xw τ J) 183 (nI (kmN k2)) = some (xw τ J'))) ∧ ST J0 J' b m (lo + 1) w' := by
  obtain ⟨hF, ⟨t, ht, hg⟩ | hb⟩ := hs
  · have is := is12_ok (τ := τ) hS hN hF hg hk1 (by omega)
    by_cases hk : tKd b m t = k1
    · rw [if_pos hk] at is
      obtain ⟨J1, p1, p2, p3⟩ := passes_g (τ := τ) hS hN hF hg (by omega) (w' := w') (by rw [hk]; exact d1)
      refine ⟨J1, .inl ⟨is, p1⟩, p2, ?_⟩
      rcases p3 with q | q
      · exact .inl ⟨t + 1, by omega, q⟩
      · exact .inr q
    · rw [if_neg hk] at is
      obtain ⟨J', e, f, q⟩ := must_g (τ := τ) hS hN hF hg hk2 (by omega) (by omega) hw4 d2 (fun z1 z2 => hrej _ (by have := tKd_b (b := b) (m := m) t; omega) hk z1)
      refine ⟨J', .inr ⟨is, e⟩, f, ?_⟩
      rcases q with q | q
      · exact .inl ⟨t + 1, by omega, q⟩
      · exact .inr q
  · exact ⟨J, .inr ⟨is12_b hS hb _, must_b hS hb _⟩, hF, .inr hb⟩
theorem mustWay_s (hS : Shp τ) (hN : TN J0 b m N) {lo w' : Nat} (hs : ST J0 J b m lo w) (hw4 : w ≠ 4) (d1 : dl w 6 = some w') (d2 : dl w 7 = some w') (hrej : ∀ k, k < 16 → k ≠ 6 → k ≠ 7 → dl w k = none) : ∃ J', f_X12_mustWay (xw τ J) 183 = some (xw τ J') ∧ ST J0 J' b m (lo + 1) w' := by
  obtain ⟨J', h, s⟩ := must2_s (τ := τ) hS hN hs (k1 := 6) (k2 := 7) (by omega) (by omega) (by omega) (by omega) hw4 d1 d2 hrej
  refine ⟨J', ?_, s⟩
  unfold f_X12_mustWay
  rcases h with ⟨a1, a2⟩ | ⟨a1, a2⟩
  · have a1 : f_X12_is (xw τ J) 183 (21 : Int32) = some 1 := a1
    simp (disch := first | assumption | omega) only [Option.bind_some, Option.map_some, xw_gR, xw_gN, xw_al, xw_ck, xw_uI, xw_ur, xup_at, xur_at, if_true, if_false, reduceIte, and_true, true_and, and_false, false_and, not_true_eq_false, not_false_eq_true, Nat.reduceEqDiff, eq_self, Nat.reduceAdd, Nat.reduceMul, kC1, kG1, kP1, kR1_0, kR1_1, kR1_2, kR1_3, kR1_4, kR1_5, kR1_6, kR1_7, kR1_8, kR1_9, kR1_10, kR1_11, kR1_12, kR1_13, kC2, kG2, kP2, kR2_0, kR2_1, kC3, kG3, kP3, kR3_0, kR3_1, kR3_2, kR3_3, kL4, kA4, kS4, kL5, kA5, kS5, kL6, kA6, kS6, kL7, kA7, kS7, kC8, kG8, kP8, kR8_0, kR8_1, kL9, kA9, kS9, kL10, kA10, kS10, kC11, kG11, kP11, kR11_0, kR11_1, kR11_2, kR11_3, kL12, kA12, kS12, kL13, kA13, kS13, kL14, kA14, kS14, kL15, kA15, kS15, kC16, kG16, kP16, kR16_0, kR16_1, kL17, kA17, kS17, kL18, kA18, kS18, kC19, kG19, kP19, kR19_0, kL20, kL141, kL146, kA146, kS146, kL151, kA151, kS151, kL156, kA156, kS156, kC157, kG157, kP157, kR157_0, kR157_1, kL158, kA158, kS158, kL159, kA159, kS159, kC161, kG161, kP161, kR161_0, kR161_1, kL162, kA162, kS162, kL163, kA163, kS163, kC165, kG165, kP165, kR165_0, kR165_1, kR165_2, kR165_3, kL166, kA166, kS166, kL167, kA167, kS167, kL168, kA168, kS168, kL169, kA169, kS169, kC170, kG170, kP170, kR170_0, kR170_1, kR170_2, kL171, kA171, kS171, kL172, kA172, kS172, kL173, kA173, kS173, kC174, kG174, kP174, kR174_0, kR174_1, kR174_2, kR174_3, kR174_4, kL175, kA175, kS175, kL176, kA176, kS176, kL177, kA177, kS177, kL178, kA178, kS178, kL179, kC180, kG180, kP180, kL181, kL182, kA182, kS182, kC183, kG183, kP183, kR183_1, kR183_3, kR183_5, kR183_6, kR183_7, kR183_8, kR183_9, kR183_21, kR183_26, kR183_27, kR183_30, kR183_31, kR183_33, kR183_34, kR183_36, kR183_37, kR183_38, kR183_39, kR183_40, kR183_41, kR183_42, kR183_43, kR183_44, kL184, kA184, kS184, kL185, kA185, kS185, kL186, kA186, kS186, kL187, kA187, kS187, kL188, kA188, kS188, kL189, kL190, kL191, kA191, kS191, kL192, kA192, kS192, kL193, kA193, kS193, kL194, kA194, kS194, kL195, kA195, kS195, kL196, kA196, kS196, kL197, kA197, kS197, kL198, kA198, kS198, kL199, kA199, kS199, kL200, kA200, kS200, kL201, kL202, kA202, kS202, kL203, kA203, kS203, kL204, kA204, kS204, kL205, kL206, kA206, kS206, a1, one0, a2]
  · have a1 : f_X12_is (xw τ J) 183 (21 : Int32) = some 0 := a1
    have a2 : f_X12_must (xw τ J) 183 (22 : Int32) = some (xw τ J') := a2
    simp (disch := first | assumption | omega) only [Option.bind_some, Option.map_some, xw_gR, xw_gN, xw_al, xw_ck, xw_uI, xw_ur, xup_at, xur_at, if_true, if_false, reduceIte, and_true, true_and, and_false, false_and, not_true_eq_false, not_false_eq_true, Nat.reduceEqDiff, eq_self, Nat.reduceAdd, Nat.reduceMul, kC1, kG1, kP1, kR1_0, kR1_1, kR1_2, kR1_3, kR1_4, kR1_5, kR1_6, kR1_7, kR1_8, kR1_9, kR1_10, kR1_11, kR1_12, kR1_13, kC2, kG2, kP2, kR2_0, kR2_1, kC3, kG3, kP3, kR3_0, kR3_1, kR3_2, kR3_3, kL4, kA4, kS4, kL5, kA5, kS5, kL6, kA6, kS6, kL7, kA7, kS7, kC8, kG8, kP8, kR8_0, kR8_1, kL9, kA9, kS9, kL10, kA10, kS10, kC11, kG11, kP11, kR11_0, kR11_1, kR11_2, kR11_3, kL12, kA12, kS12, kL13, kA13, kS13, kL14, kA14, kS14, kL15, kA15, kS15, kC16, kG16, kP16, kR16_0, kR16_1, kL17, kA17, kS17, kL18, kA18, kS18, kC19, kG19, kP19, kR19_0, kL20, kL141, kL146, kA146, kS146, kL151, kA151, kS151, kL156, kA156, kS156, kC157, kG157, kP157, kR157_0, kR157_1, kL158, kA158, kS158, kL159, kA159, kS159, kC161, kG161, kP161, kR161_0, kR161_1, kL162, kA162, kS162, kL163, kA163, kS163, kC165, kG165, kP165, kR165_0, kR165_1, kR165_2, kR165_3, kL166, kA166, kS166, kL167, kA167, kS167, kL168, kA168, kS168, kL169, kA169, kS169, kC170, kG170, kP170, kR170_0, kR170_1, kR170_2, kL171, kA171, kS171, kL172, kA172, kS172, kL173, kA173, kS173, kC174, kG174, kP174, kR174_0, kR174_1, kR174_2, kR174_3, kR174_4, kL175, kA175, kS175, kL176, kA176, kS176, kL177, kA177, kS177, kL178, kA178, kS178, kL179, kC180, kG180, kP180, kL181, kL182, kA182, kS182, kC183, kG183, kP183, kR183_1, kR183_3, kR183_5, kR183_6, kR183_7, kR183_8, kR183_9, kR183_21, kR183_26, kR183_27, kR183_30, kR183_31, kR183_33, kR183_34, kR183_36, kR183_37, kR183_38, kR183_39, kR183_40, kR183_41, kR183_42, kR183_43, kR183_44, kL184, kA184, kS184, kL185, kA185, kS185, kL186, kA186, kS186, kL187, kA187, kS187, kL188, kA188, kS188, kL189, kL190, kL191, kA191, kS191, kL192, kA192, kS192, kL193, kA193, kS193, kL194, kA194, kS194, kL195, kA195, kS195, kL196, kA196, kS196, kL197, kA197, kS197, kL198, kA198, kS198, kL199, kA199, kS199, kL200, kA200, kS200, kL201, kL202, kA202, kS202, kL203, kA203, kS203, kL204, kA204, kS204, kL205, kL206, kA206, kS206, a1, a2]
theorem line_j (hS : Shp τ) (hN : TN J0 b m N) {lo : Nat} (hs : ST J0 J b m lo 3) : ∃ J', f_X12_line_j174 (xw τ J) 183 = some (xw τ J') ∧ ST J0 J' b m (lo + 1) 4 := by
  obtain ⟨J', e, s⟩ := must_s (τ := τ) hS hN hs (k' := 4) (w' := 4) (by omega) (by omega) (by omega) (by omega) rfl (by decide)
  have e : f_X12_must (xw τ J) 183 (4 : Int32) = some (xw τ J') := e
  refine ⟨J', ?_, s⟩
  unfold f_X12_line_j174
  simp (disch := first | assumption | omega) only [Option.bind_some, Option.map_some, xw_gR, xw_gN, xw_al, xw_ck, xw_uI, xw_ur, xup_at, xur_at, if_true, if_false, reduceIte, and_true, true_and, and_false, false_and, not_true_eq_false, not_false_eq_true, Nat.reduceEqDiff, eq_self, Nat.reduceAdd, Nat.reduceMul, kC1, kG1, kP1, kR1_0, kR1_1, kR1_2, kR1_3, kR1_4, kR1_5, kR1_6, kR1_7, kR1_8, kR1_9, kR1_10, kR1_11, kR1_12, kR1_13, kC2, kG2, kP2, kR2_0, kR2_1, kC3, kG3, kP3, kR3_0, kR3_1, kR3_2, kR3_3, kL4, kA4, kS4, kL5, kA5, kS5, kL6, kA6, kS6, kL7, kA7, kS7, kC8, kG8, kP8, kR8_0, kR8_1, kL9, kA9, kS9, kL10, kA10, kS10, kC11, kG11, kP11, kR11_0, kR11_1, kR11_2, kR11_3, kL12, kA12, kS12, kL13, kA13, kS13, kL14, kA14, kS14, kL15, kA15, kS15, kC16, kG16, kP16, kR16_0, kR16_1, kL17, kA17, kS17, kL18, kA18, kS18, kC19, kG19, kP19, kR19_0, kL20, kL141, kL146, kA146, kS146, kL151, kA151, kS151, kL156, kA156, kS156, kC157, kG157, kP157, kR157_0, kR157_1, kL158, kA158, kS158, kL159, kA159, kS159, kC161, kG161, kP161, kR161_0, kR161_1, kL162, kA162, kS162, kL163, kA163, kS163, kC165, kG165, kP165, kR165_0, kR165_1, kR165_2, kR165_3, kL166, kA166, kS166, kL167, kA167, kS167, kL168, kA168, kS168, kL169, kA169, kS169, kC170, kG170, kP170, kR170_0, kR170_1, kR170_2, kL171, kA171, kS171, kL172, kA172, kS172, kL173, kA173, kS173, kC174, kG174, kP174, kR174_0, kR174_1, kR174_2, kR174_3, kR174_4, kL175, kA175, kS175, kL176, kA176, kS176, kL177, kA177, kS177, kL178, kA178, kS178, kL179, kC180, kG180, kP180, kL181, kL182, kA182, kS182, kC183, kG183, kP183, kR183_1, kR183_3, kR183_5, kR183_6, kR183_7, kR183_8, kR183_9, kR183_21, kR183_26, kR183_27, kR183_30, kR183_31, kR183_33, kR183_34, kR183_36, kR183_37, kR183_38, kR183_39, kR183_40, kR183_41, kR183_42, kR183_43, kR183_44, kL184, kA184, kS184, kL185, kA185, kS185, kL186, kA186, kS186, kL187, kA187, kS187, kL188, kA188, kS188, kL189, kL190, kL191, kA191, kS191, kL192, kA192, kS192, kL193, kA193, kS193, kL194, kA194, kS194, kL195, kA195, kS195, kL196, kA196, kS196, kL197, kA197, kS197, kL198, kA198, kS198, kL199, kA199, kS199, kL200, kA200, kS200, kL201, kL202, kA202, kS202, kL203, kA203, kS203, kL204, kA204, kS204, kL205, kL206, kA206, kS206, e]
theorem xsw21 {β : Type} {k : Nat} {as : List (Option β)} {d : Option β} (hk : k < 2147483648) : xsw (nI k) 21 as d = if k < 21 then d else as.getD (k - 21) d := by
  unfold xsw
  rw [nI_toInt hk]
  by_cases h : k < 21
  · rw [if_pos (by omega), if_pos h]
  · rw [if_neg (by omega), if_neg h, show ((k : Int) - 21).toNat = k - 21 by omega, List.getD_eq_getElem?_getD]
theorem line_g (hS : Shp τ) (hN : TN J0 b m N) (hF : GF J0 J) (hg : GR J b m t 4) (hk0 : tKd b m t ≠ 0) : ∃ J', f_X12_line (xw τ J) 183 = some (xw τ J') ∧ ST J0 J' b m (t + 1) 4 := by
  have ht := GR_N hN hg
  have kb := tKd_b (b := b) (m := m) t
  have km := (hN.2.2.1 t ht).1
  have hN1 := hN.1
  have t403 : t < 403 := by omega
  have v6 : J 186 t = J0 186 t := hF _ _ (by omega)
  have g1 := hg.1
  -- a line that can't be
  have bad : dl 4 (tKd b m t) = none → ∃ J', f_X12_fail (xw τ J) 183 (1 : Int32) = some (xw τ J') ∧ ST J0 J' b m (t + 1) 4 := fun hd => by
    obtain ⟨z1, z2⟩ := GB_up (b := b) (m := m) (n := t) (r := 1) (pl := tSt b m t) hF (by omega) (by omega) ⟨4, hg.2.2.2, .inr (.inl ⟨rfl, rfl, hg.2.2.1, .inr ⟨hk0, hd⟩⟩)⟩
    exact ⟨_, fail12_g hS hN hF hg 1, z1, .inr z2⟩
  have ps : ∀ w', dl 4 (tKd b m t) = some w' → ∃ J1, f_X12_passes (xw τ J) 183 = some (xw τ J1) ∧ ST J0 J1 b m (t + 1) w' := fun w' hd => by
    obtain ⟨J1, p1, p2, p3⟩ := passes_g (τ := τ) hS hN hF hg hk0 hd
    refine ⟨J1, p1, p2, ?_⟩
    rcases p3 with q | q
    · exact .inl ⟨t + 1, by omega, q⟩
    · exact .inr q
  have lower : ∀ {J1 : Nat → Nat → Int32} {lo w : Nat}, t + 1 ≤ lo → ST J0 J1 b m lo w → ST J0 J1 b m (t + 1) w := fun h1 h2 => ⟨h2.1, h2.2.elim (fun ⟨t', q1, q2⟩ => .inl ⟨t', by omega, q2⟩) .inr⟩
  have start : ∀ z, (∀ v, J0 186 t = v → xsw v 21 [(xck (xw τ J) 183 12).bind fun _ => (f_X12_passes (xw τ J) 183).bind fun σ9 => (xck σ9 183 12).bind fun _ => (f_X12_mustJ σ9 183).bind fun σ12 => f_X12_line_j174 σ12 183, (xck (xw τ J) 183 12).bind fun _ => (f_X12_passes (xw τ J) 183).bind fun σ9 => (xck σ9 183 12).bind fun _ => (f_X12_mustJ σ9 183).bind fun σ12 => f_X12_line_j174 σ12 183, (xck (xw τ J) 183 12).bind fun _ => (f_X12_passes (xw τ J) 183).bind fun σ9 => (xck σ9 183 12).bind fun _ => (f_X12_mustJ σ9 183).bind fun σ12 => f_X12_line_j174 σ12 183, (xck (xw τ J) 183 12).bind fun _ => (f_X12_passes (xw τ J) 183).bind fun σ9 => (xck σ9 183 12).bind fun _ => (f_X12_mustWay σ9 183).bind fun σ12 => f_X12_line_j174 σ12 183, (xck (xw τ J) 183 12).bind fun _ => (f_X12_passes (xw τ J) 183).bind fun σ9 => (xck σ9 183 12).bind fun _ => (f_X12_must σ9 183 (2 : Int32)).bind fun σ12 => (xck σ12 183 12).bind fun _ => (f_X12_mustWay σ12 183).bind fun σ15 => (xck σ15 183 12).bind fun _ => (f_X12_mustJ σ15 183).bind fun σ18 => f_X12_line_j174 σ18 183, (xck (xw τ J) 183 12).bind fun _ => (f_X12_passes (xw τ J) 183).bind fun σ9 => (xck σ9 183 12).bind fun _ => (f_X12_must σ9 183 (2 : Int32)).bind fun σ12 => (xck σ12 183 12).bind fun _ => (f_X12_mustJ σ12 183).bind fun σ15 => f_X12_line_j174 σ15 183, (xck (xw τ J) 183 12).bind fun _ => (f_X12_passes (xw τ J) 183).bind fun σ9 => (xck σ9 183 12).bind fun _ => (f_X12_must σ9 183 (2 : Int32)).bind fun σ12 => (xck σ12 183 12).bind fun _ => (f_X12_is σ12 183 (28 : Int32)).bind fun v15 => if v15 = 0 then ((xck σ12 183 12).bind fun _ => (f_X12_must σ12 183 (29 : Int32)).bind fun σ18 => f_X12_line_j174 σ18 183) else (xck σ12 183 12).bind fun _ => (f_X12_passes σ12 183).bind fun σ18 => f_X12_line_j174 σ18 183, (xck (xw τ J) 183 12).bind fun _ => (f_X12_fail (xw τ J) 183 (1 : Int32)).bind fun σ9 => some σ9, (xck (xw τ J) 183 12).bind fun _ => (f_X12_fail (xw τ J) 183 (1 : Int32)).bind fun σ9 => some σ9, (xck (xw τ J) 183 12).bind fun _ => (f_X12_passes (xw τ J) 183).bind fun σ9 => (xck σ9 183 12).bind fun _ => (f_X12_must σ9 183 (2 : Int32)).bind fun σ12 => f_X12_line_j174 σ12 183] ((xck (xw τ J) 183 12).bind fun _ => (f_X12_fail (xw τ J) 183 (1 : Int32)).bind fun σ9 => some σ9) = z) → f_X12_line (xw τ J) 183 = z := by
    intro z hz
    rw [← hz _ rfl]
    unfold f_X12_line
    rw [xw_gR, kR183_5 hS, Option.bind_some, kG183 hS, Option.bind_some, g1, kA186 hS t403, Option.bind_some, v6]
  -- the kinds in the model's numbers
  have kv : tKd b m t ≠ 1 → J0 186 t = nI (kmN (tKd b m t)) := fun h => by
    rcases km with ⟨z, -⟩ | ⟨-, z⟩
    · exact absurd z h
    · exact z
  rcases (show tKd b m t ≤ 5 ∨ (6 ≤ tKd b m t ∧ tKd b m t ≤ 8) ∨ tKd b m t = 9 ∨ tKd b m t = 10 ∨ tKd b m t = 11 ∨ tKd b m t = 12 ∨ tKd b m t = 13 ∨ tKd b m t = 14 ∨ tKd b m t = 15 by omega) with h | h | h | h | h | h | h | h | h
  · have hd : dl 4 (tKd b m t) = none := by
      have d4 : ∀ k, k < 6 → dl 4 k = none := by decide
      exact d4 _ (by omega)
    obtain ⟨J', e, s⟩ := bad hd
    refine ⟨J', start _ (fun v hv => ?_), s⟩
    have e' : ((xck (xw τ J) 183 12).bind fun _ => (f_X12_fail (xw τ J) 183 (1 : Int32)).bind fun σ9 => some σ9) = some (xw τ J') := by rw [xw_ck, kC183 hS, Option.bind_some, e, Option.bind_some]
    have small : ∃ k, k < 21 ∧ v = nI k := by
      rcases km with ⟨-, z | z⟩ | ⟨z, y⟩
      · exact ⟨1, by omega, by rw [← hv, z]; rfl⟩
      · exact ⟨3, by omega, by rw [← hv, z]; rfl⟩
      · refine ⟨kmN (tKd b m t), ?_, by rw [← hv]; exact y⟩
        unfold kmN
        split
        · omega
        · split <;> omega
    obtain ⟨k, k1, rfl⟩ := small
    rw [xsw21 (by omega), if_pos k1]
    exact e'
  · obtain ⟨J1, p1, s1⟩ := ps 5 (by
      have d4 : ∀ k, k < 9 → 6 ≤ k → dl 4 k = some 5 := by decide
      exact d4 _ (by omega) h.1)
    obtain ⟨J2, p2, s2⟩ := mustJ_s (τ := τ) hS hN s1
    obtain ⟨J3, p3, s3⟩ := line_j (τ := τ) hS hN s2
    refine ⟨J3, start _ (fun v hv => ?_), lower (by omega) s3⟩
    have e : ((xck (xw τ J) 183 12).bind fun _ => (f_X12_passes (xw τ J) 183).bind fun σ9 => (xck σ9 183 12).bind fun _ => (f_X12_mustJ σ9 183).bind fun σ12 => f_X12_line_j174 σ12 183) = some (xw τ J3) := by
      simp (disch := first | assumption | omega) only [Option.bind_some, Option.map_some, xw_gR, xw_gN, xw_al, xw_ck, xw_uI, xw_ur, xup_at, xur_at, if_true, if_false, reduceIte, and_true, true_and, and_false, false_and, not_true_eq_false, not_false_eq_true, Nat.reduceEqDiff, eq_self, Nat.reduceAdd, Nat.reduceMul, kC1, kG1, kP1, kR1_0, kR1_1, kR1_2, kR1_3, kR1_4, kR1_5, kR1_6, kR1_7, kR1_8, kR1_9, kR1_10, kR1_11, kR1_12, kR1_13, kC2, kG2, kP2, kR2_0, kR2_1, kC3, kG3, kP3, kR3_0, kR3_1, kR3_2, kR3_3, kL4, kA4, kS4, kL5, kA5, kS5, kL6, kA6, kS6, kL7, kA7, kS7, kC8, kG8, kP8, kR8_0, kR8_1, kL9, kA9, kS9, kL10, kA10, kS10, kC11, kG11, kP11, kR11_0, kR11_1, kR11_2, kR11_3, kL12, kA12, kS12, kL13, kA13, kS13, kL14, kA14, kS14, kL15, kA15, kS15, kC16, kG16, kP16, kR16_0, kR16_1, kL17, kA17, kS17, kL18, kA18, kS18, kC19, kG19, kP19, kR19_0, kL20, kL141, kL146, kA146, kS146, kL151, kA151, kS151, kL156, kA156, kS156, kC157, kG157, kP157, kR157_0, kR157_1, kL158, kA158, kS158, kL159, kA159, kS159, kC161, kG161, kP161, kR161_0, kR161_1, kL162, kA162, kS162, kL163, kA163, kS163, kC165, kG165, kP165, kR165_0, kR165_1, kR165_2, kR165_3, kL166, kA166, kS166, kL167, kA167, kS167, kL168, kA168, kS168, kL169, kA169, kS169, kC170, kG170, kP170, kR170_0, kR170_1, kR170_2, kL171, kA171, kS171, kL172, kA172, kS172, kL173, kA173, kS173, kC174, kG174, kP174, kR174_0, kR174_1, kR174_2, kR174_3, kR174_4, kL175, kA175, kS175, kL176, kA176, kS176, kL177, kA177, kS177, kL178, kA178, kS178, kL179, kC180, kG180, kP180, kL181, kL182, kA182, kS182, kC183, kG183, kP183, kR183_1, kR183_3, kR183_5, kR183_6, kR183_7, kR183_8, kR183_9, kR183_21, kR183_26, kR183_27, kR183_30, kR183_31, kR183_33, kR183_34, kR183_36, kR183_37, kR183_38, kR183_39, kR183_40, kR183_41, kR183_42, kR183_43, kR183_44, kL184, kA184, kS184, kL185, kA185, kS185, kL186, kA186, kS186, kL187, kA187, kS187, kL188, kA188, kS188, kL189, kL190, kL191, kA191, kS191, kL192, kA192, kS192, kL193, kA193, kS193, kL194, kA194, kS194, kL195, kA195, kS195, kL196, kA196, kS196, kL197, kA197, kS197, kL198, kA198, kS198, kL199, kA199, kS199, kL200, kA200, kS200, kL201, kL202, kA202, kS202, kL203, kA203, kS203, kL204, kA204, kS204, kL205, kL206, kA206, kS206, p1, p2, p3]
    have hv' : v = nI (15 + tKd b m t) := by
      rw [← hv, kv (by omega)]
      unfold kmN
      rw [if_neg (by omega), if_pos (by omega)]
      congr 1
      omega
    rw [hv', xsw21 (by omega), if_neg (by omega)]
    rcases (show tKd b m t = 6 ∨ tKd b m t = 7 ∨ tKd b m t = 8 by omega) with z | z | z <;> rw [z] <;> exact e
  · obtain ⟨J1, p1, s1⟩ := ps 7 (by rw [h]; rfl)
    obtain ⟨J2, p2, s2⟩ := mustWay_s (τ := τ) hS hN s1 (by omega) (w' := 3) rfl rfl (by decide)
    obtain ⟨J3, p3, s3⟩ := line_j (τ := τ) hS hN s2
    refine ⟨J3, start _ (fun v hv => ?_), lower (by omega) s3⟩
    have e : ((xck (xw τ J) 183 12).bind fun _ => (f_X12_passes (xw τ J) 183).bind fun σ9 => (xck σ9 183 12).bind fun _ => (f_X12_mustWay σ9 183).bind fun σ12 => f_X12_line_j174 σ12 183) = some (xw τ J3) := by
      simp (disch := first | assumption | omega) only [Option.bind_some, Option.map_some, xw_gR, xw_gN, xw_al, xw_ck, xw_uI, xw_ur, xup_at, xur_at, if_true, if_false, reduceIte, and_true, true_and, and_false, false_and, not_true_eq_false, not_false_eq_true, Nat.reduceEqDiff, eq_self, Nat.reduceAdd, Nat.reduceMul, kC1, kG1, kP1, kR1_0, kR1_1, kR1_2, kR1_3, kR1_4, kR1_5, kR1_6, kR1_7, kR1_8, kR1_9, kR1_10, kR1_11, kR1_12, kR1_13, kC2, kG2, kP2, kR2_0, kR2_1, kC3, kG3, kP3, kR3_0, kR3_1, kR3_2, kR3_3, kL4, kA4, kS4, kL5, kA5, kS5, kL6, kA6, kS6, kL7, kA7, kS7, kC8, kG8, kP8, kR8_0, kR8_1, kL9, kA9, kS9, kL10, kA10, kS10, kC11, kG11, kP11, kR11_0, kR11_1, kR11_2, kR11_3, kL12, kA12, kS12, kL13, kA13, kS13, kL14, kA14, kS14, kL15, kA15, kS15, kC16, kG16, kP16, kR16_0, kR16_1, kL17, kA17, kS17, kL18, kA18, kS18, kC19, kG19, kP19, kR19_0, kL20, kL141, kL146, kA146, kS146, kL151, kA151, kS151, kL156, kA156, kS156, kC157, kG157, kP157, kR157_0, kR157_1, kL158, kA158, kS158, kL159, kA159, kS159, kC161, kG161, kP161, kR161_0, kR161_1, kL162, kA162, kS162, kL163, kA163, kS163, kC165, kG165, kP165, kR165_0, kR165_1, kR165_2, kR165_3, kL166, kA166, kS166, kL167, kA167, kS167, kL168, kA168, kS168, kL169, kA169, kS169, kC170, kG170, kP170, kR170_0, kR170_1, kR170_2, kL171, kA171, kS171, kL172, kA172, kS172, kL173, kA173, kS173, kC174, kG174, kP174, kR174_0, kR174_1, kR174_2, kR174_3, kR174_4, kL175, kA175, kS175, kL176, kA176, kS176, kL177, kA177, kS177, kL178, kA178, kS178, kL179, kC180, kG180, kP180, kL181, kL182, kA182, kS182, kC183, kG183, kP183, kR183_1, kR183_3, kR183_5, kR183_6, kR183_7, kR183_8, kR183_9, kR183_21, kR183_26, kR183_27, kR183_30, kR183_31, kR183_33, kR183_34, kR183_36, kR183_37, kR183_38, kR183_39, kR183_40, kR183_41, kR183_42, kR183_43, kR183_44, kL184, kA184, kS184, kL185, kA185, kS185, kL186, kA186, kS186, kL187, kA187, kS187, kL188, kA188, kS188, kL189, kL190, kL191, kA191, kS191, kL192, kA192, kS192, kL193, kA193, kS193, kL194, kA194, kS194, kL195, kA195, kS195, kL196, kA196, kS196, kL197, kA197, kS197, kL198, kA198, kS198, kL199, kA199, kS199, kL200, kA200, kS200, kL201, kL202, kA202, kS202, kL203, kA203, kS203, kL204, kA204, kS204, kL205, kL206, kA206, kS206, p1, p2, p3]
    have hv' : v = nI 24 := by rw [← hv, kv (by omega), h]; rfl
    rw [hv', xsw21 (by omega), if_neg (by omega)]
    exact e
  · obtain ⟨J1, p1, s1⟩ := ps 8 (by rw [h]; rfl)
    obtain ⟨J2, p2, s2⟩ := must_s (τ := τ) hS hN s1 (k' := 2) (w' := 9) (by omega) (by omega) (by omega) (by omega) rfl (by decide)
    have p2 : f_X12_must (xw τ J1) 183 (2 : Int32) = some (xw τ J2) := p2
    obtain ⟨J3, p3, s3⟩ := mustWay_s (τ := τ) hS hN s2 (by omega) (w' := 5) rfl rfl (by decide)
    obtain ⟨J4, p4, s4⟩ := mustJ_s (τ := τ) hS hN s3
    obtain ⟨J5, p5, s5⟩ := line_j (τ := τ) hS hN s4
    refine ⟨J5, start _ (fun v hv => ?_), lower (by omega) s5⟩
    have e : ((xck (xw τ J) 183 12).bind fun _ => (f_X12_passes (xw τ J) 183).bind fun σ9 => (xck σ9 183 12).bind fun _ => (f_X12_must σ9 183 (2 : Int32)).bind fun σ12 => (xck σ12 183 12).bind fun _ => (f_X12_mustWay σ12 183).bind fun σ15 => (xck σ15 183 12).bind fun _ => (f_X12_mustJ σ15 183).bind fun σ18 => f_X12_line_j174 σ18 183) = some (xw τ J5) := by
      simp (disch := first | assumption | omega) only [Option.bind_some, Option.map_some, xw_gR, xw_gN, xw_al, xw_ck, xw_uI, xw_ur, xup_at, xur_at, if_true, if_false, reduceIte, and_true, true_and, and_false, false_and, not_true_eq_false, not_false_eq_true, Nat.reduceEqDiff, eq_self, Nat.reduceAdd, Nat.reduceMul, kC1, kG1, kP1, kR1_0, kR1_1, kR1_2, kR1_3, kR1_4, kR1_5, kR1_6, kR1_7, kR1_8, kR1_9, kR1_10, kR1_11, kR1_12, kR1_13, kC2, kG2, kP2, kR2_0, kR2_1, kC3, kG3, kP3, kR3_0, kR3_1, kR3_2, kR3_3, kL4, kA4, kS4, kL5, kA5, kS5, kL6, kA6, kS6, kL7, kA7, kS7, kC8, kG8, kP8, kR8_0, kR8_1, kL9, kA9, kS9, kL10, kA10, kS10, kC11, kG11, kP11, kR11_0, kR11_1, kR11_2, kR11_3, kL12, kA12, kS12, kL13, kA13, kS13, kL14, kA14, kS14, kL15, kA15, kS15, kC16, kG16, kP16, kR16_0, kR16_1, kL17, kA17, kS17, kL18, kA18, kS18, kC19, kG19, kP19, kR19_0, kL20, kL141, kL146, kA146, kS146, kL151, kA151, kS151, kL156, kA156, kS156, kC157, kG157, kP157, kR157_0, kR157_1, kL158, kA158, kS158, kL159, kA159, kS159, kC161, kG161, kP161, kR161_0, kR161_1, kL162, kA162, kS162, kL163, kA163, kS163, kC165, kG165, kP165, kR165_0, kR165_1, kR165_2, kR165_3, kL166, kA166, kS166, kL167, kA167, kS167, kL168, kA168, kS168, kL169, kA169, kS169, kC170, kG170, kP170, kR170_0, kR170_1, kR170_2, kL171, kA171, kS171, kL172, kA172, kS172, kL173, kA173, kS173, kC174, kG174, kP174, kR174_0, kR174_1, kR174_2, kR174_3, kR174_4, kL175, kA175, kS175, kL176, kA176, kS176, kL177, kA177, kS177, kL178, kA178, kS178, kL179, kC180, kG180, kP180, kL181, kL182, kA182, kS182, kC183, kG183, kP183, kR183_1, kR183_3, kR183_5, kR183_6, kR183_7, kR183_8, kR183_9, kR183_21, kR183_26, kR183_27, kR183_30, kR183_31, kR183_33, kR183_34, kR183_36, kR183_37, kR183_38, kR183_39, kR183_40, kR183_41, kR183_42, kR183_43, kR183_44, kL184, kA184, kS184, kL185, kA185, kS185, kL186, kA186, kS186, kL187, kA187, kS187, kL188, kA188, kS188, kL189, kL190, kL191, kA191, kS191, kL192, kA192, kS192, kL193, kA193, kS193, kL194, kA194, kS194, kL195, kA195, kS195, kL196, kA196, kS196, kL197, kA197, kS197, kL198, kA198, kS198, kL199, kA199, kS199, kL200, kA200, kS200, kL201, kL202, kA202, kS202, kL203, kA203, kS203, kL204, kA204, kS204, kL205, kL206, kA206, kS206, p1, p2, p3, p4, p5]
    have hv' : v = nI 25 := by rw [← hv, kv (by omega), h]; rfl
    rw [hv', xsw21 (by omega), if_neg (by omega)]
    exact e
  · obtain ⟨J1, p1, s1⟩ := ps 10 (by rw [h]; rfl)
    obtain ⟨J2, p2, s2⟩ := must_s (τ := τ) hS hN s1 (k' := 2) (w' := 5) (by omega) (by omega) (by omega) (by omega) rfl (by decide)
    have p2 : f_X12_must (xw τ J1) 183 (2 : Int32) = some (xw τ J2) := p2
    obtain ⟨J3, p3, s3⟩ := mustJ_s (τ := τ) hS hN s2
    obtain ⟨J4, p4, s4⟩ := line_j (τ := τ) hS hN s3
    refine ⟨J4, start _ (fun v hv => ?_), lower (by omega) s4⟩
    have e : ((xck (xw τ J) 183 12).bind fun _ => (f_X12_passes (xw τ J) 183).bind fun σ9 => (xck σ9 183 12).bind fun _ => (f_X12_must σ9 183 (2 : Int32)).bind fun σ12 => (xck σ12 183 12).bind fun _ => (f_X12_mustJ σ12 183).bind fun σ15 => f_X12_line_j174 σ15 183) = some (xw τ J4) := by
      simp (disch := first | assumption | omega) only [Option.bind_some, Option.map_some, xw_gR, xw_gN, xw_al, xw_ck, xw_uI, xw_ur, xup_at, xur_at, if_true, if_false, reduceIte, and_true, true_and, and_false, false_and, not_true_eq_false, not_false_eq_true, Nat.reduceEqDiff, eq_self, Nat.reduceAdd, Nat.reduceMul, kC1, kG1, kP1, kR1_0, kR1_1, kR1_2, kR1_3, kR1_4, kR1_5, kR1_6, kR1_7, kR1_8, kR1_9, kR1_10, kR1_11, kR1_12, kR1_13, kC2, kG2, kP2, kR2_0, kR2_1, kC3, kG3, kP3, kR3_0, kR3_1, kR3_2, kR3_3, kL4, kA4, kS4, kL5, kA5, kS5, kL6, kA6, kS6, kL7, kA7, kS7, kC8, kG8, kP8, kR8_0, kR8_1, kL9, kA9, kS9, kL10, kA10, kS10, kC11, kG11, kP11, kR11_0, kR11_1, kR11_2, kR11_3, kL12, kA12, kS12, kL13, kA13, kS13, kL14, kA14, kS14, kL15, kA15, kS15, kC16, kG16, kP16, kR16_0, kR16_1, kL17, kA17, kS17, kL18, kA18, kS18, kC19, kG19, kP19, kR19_0, kL20, kL141, kL146, kA146, kS146, kL151, kA151, kS151, kL156, kA156, kS156, kC157, kG157, kP157, kR157_0, kR157_1, kL158, kA158, kS158, kL159, kA159, kS159, kC161, kG161, kP161, kR161_0, kR161_1, kL162, kA162, kS162, kL163, kA163, kS163, kC165, kG165, kP165, kR165_0, kR165_1, kR165_2, kR165_3, kL166, kA166, kS166, kL167, kA167, kS167, kL168, kA168, kS168, kL169, kA169, kS169, kC170, kG170, kP170, kR170_0, kR170_1, kR170_2, kL171, kA171, kS171, kL172, kA172, kS172, kL173, kA173, kS173, kC174, kG174, kP174, kR174_0, kR174_1, kR174_2, kR174_3, kR174_4, kL175, kA175, kS175, kL176, kA176, kS176, kL177, kA177, kS177, kL178, kA178, kS178, kL179, kC180, kG180, kP180, kL181, kL182, kA182, kS182, kC183, kG183, kP183, kR183_1, kR183_3, kR183_5, kR183_6, kR183_7, kR183_8, kR183_9, kR183_21, kR183_26, kR183_27, kR183_30, kR183_31, kR183_33, kR183_34, kR183_36, kR183_37, kR183_38, kR183_39, kR183_40, kR183_41, kR183_42, kR183_43, kR183_44, kL184, kA184, kS184, kL185, kA185, kS185, kL186, kA186, kS186, kL187, kA187, kS187, kL188, kA188, kS188, kL189, kL190, kL191, kA191, kS191, kL192, kA192, kS192, kL193, kA193, kS193, kL194, kA194, kS194, kL195, kA195, kS195, kL196, kA196, kS196, kL197, kA197, kS197, kL198, kA198, kS198, kL199, kA199, kS199, kL200, kA200, kS200, kL201, kL202, kA202, kS202, kL203, kA203, kS203, kL204, kA204, kS204, kL205, kL206, kA206, kS206, p1, p2, p3, p4]
    have hv' : v = nI 26 := by rw [← hv, kv (by omega), h]; rfl
    rw [hv', xsw21 (by omega), if_neg (by omega)]
    exact e
  · obtain ⟨J1, p1, s1⟩ := ps 11 (by rw [h]; rfl)
    obtain ⟨J2, p2, s2⟩ := must_s (τ := τ) hS hN s1 (k' := 2) (w' := 12) (by omega) (by omega) (by omega) (by omega) rfl (by decide)
    have p2 : f_X12_must (xw τ J1) 183 (2 : Int32) = some (xw τ J2) := p2
    obtain ⟨J3, p3, s3⟩ := must2_s (τ := τ) hS hN s2 (k1 := 13) (k2 := 14) (w' := 3) (by omega) (by omega) (by omega) (by omega) (by omega) rfl rfl (by decide)
    obtain ⟨J4, p4, s4⟩ := line_j (τ := τ) hS hN s3
    refine ⟨J4, start _ (fun v hv => ?_), lower (by omega) s4⟩
    have e : ((xck (xw τ J) 183 12).bind fun _ => (f_X12_passes (xw τ J) 183).bind fun σ9 => (xck σ9 183 12).bind fun _ => (f_X12_must σ9 183 (2 : Int32)).bind fun σ12 => (xck σ12 183 12).bind fun _ => (f_X12_is σ12 183 (28 : Int32)).bind fun v15 => if v15 = 0 then ((xck σ12 183 12).bind fun _ => (f_X12_must σ12 183 (29 : Int32)).bind fun σ18 => f_X12_line_j174 σ18 183) else (xck σ12 183 12).bind fun _ => (f_X12_passes σ12 183).bind fun σ18 => f_X12_line_j174 σ18 183) = some (xw τ J4) := by
      rcases p3 with ⟨a1, a2⟩ | ⟨a1, a2⟩
      · have a1 : f_X12_is (xw τ J2) 183 (28 : Int32) = some 1 := a1
        simp (disch := first | assumption | omega) only [Option.bind_some, Option.map_some, xw_gR, xw_gN, xw_al, xw_ck, xw_uI, xw_ur, xup_at, xur_at, if_true, if_false, reduceIte, and_true, true_and, and_false, false_and, not_true_eq_false, not_false_eq_true, Nat.reduceEqDiff, eq_self, Nat.reduceAdd, Nat.reduceMul, kC1, kG1, kP1, kR1_0, kR1_1, kR1_2, kR1_3, kR1_4, kR1_5, kR1_6, kR1_7, kR1_8, kR1_9, kR1_10, kR1_11, kR1_12, kR1_13, kC2, kG2, kP2, kR2_0, kR2_1, kC3, kG3, kP3, kR3_0, kR3_1, kR3_2, kR3_3, kL4, kA4, kS4, kL5, kA5, kS5, kL6, kA6, kS6, kL7, kA7, kS7, kC8, kG8, kP8, kR8_0, kR8_1, kL9, kA9, kS9, kL10, kA10, kS10, kC11, kG11, kP11, kR11_0, kR11_1, kR11_2, kR11_3, kL12, kA12, kS12, kL13, kA13, kS13, kL14, kA14, kS14, kL15, kA15, kS15, kC16, kG16, kP16, kR16_0, kR16_1, kL17, kA17, kS17, kL18, kA18, kS18, kC19, kG19, kP19, kR19_0, kL20, kL141, kL146, kA146, kS146, kL151, kA151, kS151, kL156, kA156, kS156, kC157, kG157, kP157, kR157_0, kR157_1, kL158, kA158, kS158, kL159, kA159, kS159, kC161, kG161, kP161, kR161_0, kR161_1, kL162, kA162, kS162, kL163, kA163, kS163, kC165, kG165, kP165, kR165_0, kR165_1, kR165_2, kR165_3, kL166, kA166, kS166, kL167, kA167, kS167, kL168, kA168, kS168, kL169, kA169, kS169, kC170, kG170, kP170, kR170_0, kR170_1, kR170_2, kL171, kA171, kS171, kL172, kA172, kS172, kL173, kA173, kS173, kC174, kG174, kP174, kR174_0, kR174_1, kR174_2, kR174_3, kR174_4, kL175, kA175, kS175, kL176, kA176, kS176, kL177, kA177, kS177, kL178, kA178, kS178, kL179, kC180, kG180, kP180, kL181, kL182, kA182, kS182, kC183, kG183, kP183, kR183_1, kR183_3, kR183_5, kR183_6, kR183_7, kR183_8, kR183_9, kR183_21, kR183_26, kR183_27, kR183_30, kR183_31, kR183_33, kR183_34, kR183_36, kR183_37, kR183_38, kR183_39, kR183_40, kR183_41, kR183_42, kR183_43, kR183_44, kL184, kA184, kS184, kL185, kA185, kS185, kL186, kA186, kS186, kL187, kA187, kS187, kL188, kA188, kS188, kL189, kL190, kL191, kA191, kS191, kL192, kA192, kS192, kL193, kA193, kS193, kL194, kA194, kS194, kL195, kA195, kS195, kL196, kA196, kS196, kL197, kA197, kS197, kL198, kA198, kS198, kL199, kA199, kS199, kL200, kA200, kS200, kL201, kL202, kA202, kS202, kL203, kA203, kS203, kL204, kA204, kS204, kL205, kL206, kA206, kS206, p1, p2, a1, one0, a2, p4]
      · have a1 : f_X12_is (xw τ J2) 183 (28 : Int32) = some 0 := a1
        have a2 : f_X12_must (xw τ J2) 183 (29 : Int32) = some (xw τ J3) := a2
        simp (disch := first | assumption | omega) only [Option.bind_some, Option.map_some, xw_gR, xw_gN, xw_al, xw_ck, xw_uI, xw_ur, xup_at, xur_at, if_true, if_false, reduceIte, and_true, true_and, and_false, false_and, not_true_eq_false, not_false_eq_true, Nat.reduceEqDiff, eq_self, Nat.reduceAdd, Nat.reduceMul, kC1, kG1, kP1, kR1_0, kR1_1, kR1_2, kR1_3, kR1_4, kR1_5, kR1_6, kR1_7, kR1_8, kR1_9, kR1_10, kR1_11, kR1_12, kR1_13, kC2, kG2, kP2, kR2_0, kR2_1, kC3, kG3, kP3, kR3_0, kR3_1, kR3_2, kR3_3, kL4, kA4, kS4, kL5, kA5, kS5, kL6, kA6, kS6, kL7, kA7, kS7, kC8, kG8, kP8, kR8_0, kR8_1, kL9, kA9, kS9, kL10, kA10, kS10, kC11, kG11, kP11, kR11_0, kR11_1, kR11_2, kR11_3, kL12, kA12, kS12, kL13, kA13, kS13, kL14, kA14, kS14, kL15, kA15, kS15, kC16, kG16, kP16, kR16_0, kR16_1, kL17, kA17, kS17, kL18, kA18, kS18, kC19, kG19, kP19, kR19_0, kL20, kL141, kL146, kA146, kS146, kL151, kA151, kS151, kL156, kA156, kS156, kC157, kG157, kP157, kR157_0, kR157_1, kL158, kA158, kS158, kL159, kA159, kS159, kC161, kG161, kP161, kR161_0, kR161_1, kL162, kA162, kS162, kL163, kA163, kS163, kC165, kG165, kP165, kR165_0, kR165_1, kR165_2, kR165_3, kL166, kA166, kS166, kL167, kA167, kS167, kL168, kA168, kS168, kL169, kA169, kS169, kC170, kG170, kP170, kR170_0, kR170_1, kR170_2, kL171, kA171, kS171, kL172, kA172, kS172, kL173, kA173, kS173, kC174, kG174, kP174, kR174_0, kR174_1, kR174_2, kR174_3, kR174_4, kL175, kA175, kS175, kL176, kA176, kS176, kL177, kA177, kS177, kL178, kA178, kS178, kL179, kC180, kG180, kP180, kL181, kL182, kA182, kS182, kC183, kG183, kP183, kR183_1, kR183_3, kR183_5, kR183_6, kR183_7, kR183_8, kR183_9, kR183_21, kR183_26, kR183_27, kR183_30, kR183_31, kR183_33, kR183_34, kR183_36, kR183_37, kR183_38, kR183_39, kR183_40, kR183_41, kR183_42, kR183_43, kR183_44, kL184, kA184, kS184, kL185, kA185, kS185, kL186, kA186, kS186, kL187, kA187, kS187, kL188, kA188, kS188, kL189, kL190, kL191, kA191, kS191, kL192, kA192, kS192, kL193, kA193, kS193, kL194, kA194, kS194, kL195, kA195, kS195, kL196, kA196, kS196, kL197, kA197, kS197, kL198, kA198, kS198, kL199, kA199, kS199, kL200, kA200, kS200, kL201, kL202, kA202, kS202, kL203, kA203, kS203, kL204, kA204, kS204, kL205, kL206, kA206, kS206, p1, p2, a1, a2, p4]
    have hv' : v = nI 27 := by rw [← hv, kv (by omega), h]; rfl
    rw [hv', xsw21 (by omega), if_neg (by omega)]
    exact e
  · obtain ⟨J', e, s⟩ := bad (by rw [h]; rfl)
    refine ⟨J', start _ (fun v hv => ?_), s⟩
    have e' : ((xck (xw τ J) 183 12).bind fun _ => (f_X12_fail (xw τ J) 183 (1 : Int32)).bind fun σ9 => some σ9) = some (xw τ J') := by rw [xw_ck, kC183 hS, Option.bind_some, e, Option.bind_some]
    have hv' : v = nI 28 := by rw [← hv, kv (by omega), h]; rfl
    rw [hv', xsw21 (by omega), if_neg (by omega)]
    exact e'
  · obtain ⟨J', e, s⟩ := bad (by rw [h]; rfl)
    refine ⟨J', start _ (fun v hv => ?_), s⟩
    have e' : ((xck (xw τ J) 183 12).bind fun _ => (f_X12_fail (xw τ J) 183 (1 : Int32)).bind fun σ9 => some σ9) = some (xw τ J') := by rw [xw_ck, kC183 hS, Option.bind_some, e, Option.bind_some]
    have hv' : v = nI 29 := by rw [← hv, kv (by omega), h]; rfl
    rw [hv', xsw21 (by omega), if_neg (by omega)]
    exact e'
  · obtain ⟨J1, p1, s1⟩ := ps 13 (by rw [h]; rfl)
    obtain ⟨J2, p2, s2⟩ := must_s (τ := τ) hS hN s1 (k' := 2) (w' := 3) (by omega) (by omega) (by omega) (by omega) rfl (by decide)
    have p2 : f_X12_must (xw τ J1) 183 (2 : Int32) = some (xw τ J2) := p2
    obtain ⟨J3, p3, s3⟩ := line_j (τ := τ) hS hN s2
    refine ⟨J3, start _ (fun v hv => ?_), lower (by omega) s3⟩
    have e : ((xck (xw τ J) 183 12).bind fun _ => (f_X12_passes (xw τ J) 183).bind fun σ9 => (xck σ9 183 12).bind fun _ => (f_X12_must σ9 183 (2 : Int32)).bind fun σ12 => f_X12_line_j174 σ12 183) = some (xw τ J3) := by
      simp (disch := first | assumption | omega) only [Option.bind_some, Option.map_some, xw_gR, xw_gN, xw_al, xw_ck, xw_uI, xw_ur, xup_at, xur_at, if_true, if_false, reduceIte, and_true, true_and, and_false, false_and, not_true_eq_false, not_false_eq_true, Nat.reduceEqDiff, eq_self, Nat.reduceAdd, Nat.reduceMul, kC1, kG1, kP1, kR1_0, kR1_1, kR1_2, kR1_3, kR1_4, kR1_5, kR1_6, kR1_7, kR1_8, kR1_9, kR1_10, kR1_11, kR1_12, kR1_13, kC2, kG2, kP2, kR2_0, kR2_1, kC3, kG3, kP3, kR3_0, kR3_1, kR3_2, kR3_3, kL4, kA4, kS4, kL5, kA5, kS5, kL6, kA6, kS6, kL7, kA7, kS7, kC8, kG8, kP8, kR8_0, kR8_1, kL9, kA9, kS9, kL10, kA10, kS10, kC11, kG11, kP11, kR11_0, kR11_1, kR11_2, kR11_3, kL12, kA12, kS12, kL13, kA13, kS13, kL14, kA14, kS14, kL15, kA15, kS15, kC16, kG16, kP16, kR16_0, kR16_1, kL17, kA17, kS17, kL18, kA18, kS18, kC19, kG19, kP19, kR19_0, kL20, kL141, kL146, kA146, kS146, kL151, kA151, kS151, kL156, kA156, kS156, kC157, kG157, kP157, kR157_0, kR157_1, kL158, kA158, kS158, kL159, kA159, kS159, kC161, kG161, kP161, kR161_0, kR161_1, kL162, kA162, kS162, kL163, kA163, kS163, kC165, kG165, kP165, kR165_0, kR165_1, kR165_2, kR165_3, kL166, kA166, kS166, kL167, kA167, kS167, kL168, kA168, kS168, kL169, kA169, kS169, kC170, kG170, kP170, kR170_0, kR170_1, kR170_2, kL171, kA171, kS171, kL172, kA172, kS172, kL173, kA173, kS173, kC174, kG174, kP174, kR174_0, kR174_1, kR174_2, kR174_3, kR174_4, kL175, kA175, kS175, kL176, kA176, kS176, kL177, kA177, kS177, kL178, kA178, kS178, kL179, kC180, kG180, kP180, kL181, kL182, kA182, kS182, kC183, kG183, kP183, kR183_1, kR183_3, kR183_5, kR183_6, kR183_7, kR183_8, kR183_9, kR183_21, kR183_26, kR183_27, kR183_30, kR183_31, kR183_33, kR183_34, kR183_36, kR183_37, kR183_38, kR183_39, kR183_40, kR183_41, kR183_42, kR183_43, kR183_44, kL184, kA184, kS184, kL185, kA185, kS185, kL186, kA186, kS186, kL187, kA187, kS187, kL188, kA188, kS188, kL189, kL190, kL191, kA191, kS191, kL192, kA192, kS192, kL193, kA193, kS193, kL194, kA194, kS194, kL195, kA195, kS195, kL196, kA196, kS196, kL197, kA197, kS197, kL198, kA198, kS198, kL199, kA199, kS199, kL200, kA200, kS200, kL201, kL202, kA202, kS202, kL203, kA203, kS203, kL204, kA204, kS204, kL205, kL206, kA206, kS206, p1, p2, p3]
    have hv' : v = nI 30 := by rw [← hv, kv (by omega), h]; rfl
    rw [hv', xsw21 (by omega), if_neg (by omega)]
    exact e
theorem gram_l (hS : Shp τ) (hN : TN J0 b m N) : ∀ k lo J, 401 - lo ≤ k → ST J0 J b m lo 4 → ∃ J', GF J0 J' ∧ (((∃ n, cutR b m n 0 0) ∧ J' 183 12 = 0) ∨ GB J' b m) ∧ ∀ z, f_X12_read_j103 (xw τ J') 183 = some z → xloop (f_X12_read_b81 183) (xw τ J) = some z := by
  intro k
  induction k with
  | zero =>
    intro lo J hlo hs
    obtain ⟨hF, ⟨t, ht, hg⟩ | hb⟩ := hs
    · have := hg.2.2.1
      omega
    · refine ⟨J, hF, .inr hb, fun z hz => xloop_end ?_⟩
      obtain ⟨n, r, pl, r0, r3, -, g1, g2⟩ := hb
      have q : (nI r = 0) = False := eq_false (nI_ne0 (by omega) (by omega))
      simp only [f_X12_read_b81]
      simp (disch := first | assumption | omega) only [Option.bind_some, Option.map_some, xw_gR, xw_gN, xw_al, xw_ck, xw_uI, xw_ur, xup_at, xur_at, if_true, if_false, reduceIte, and_true, true_and, and_false, false_and, not_true_eq_false, not_false_eq_true, Nat.reduceEqDiff, eq_self, Nat.reduceAdd, Nat.reduceMul, kC1, kG1, kP1, kR1_0, kR1_1, kR1_2, kR1_3, kR1_4, kR1_5, kR1_6, kR1_7, kR1_8, kR1_9, kR1_10, kR1_11, kR1_12, kR1_13, kC2, kG2, kP2, kR2_0, kR2_1, kC3, kG3, kP3, kR3_0, kR3_1, kR3_2, kR3_3, kL4, kA4, kS4, kL5, kA5, kS5, kL6, kA6, kS6, kL7, kA7, kS7, kC8, kG8, kP8, kR8_0, kR8_1, kL9, kA9, kS9, kL10, kA10, kS10, kC11, kG11, kP11, kR11_0, kR11_1, kR11_2, kR11_3, kL12, kA12, kS12, kL13, kA13, kS13, kL14, kA14, kS14, kL15, kA15, kS15, kC16, kG16, kP16, kR16_0, kR16_1, kL17, kA17, kS17, kL18, kA18, kS18, kC19, kG19, kP19, kR19_0, kL20, kL141, kL146, kA146, kS146, kL151, kA151, kS151, kL156, kA156, kS156, kC157, kG157, kP157, kR157_0, kR157_1, kL158, kA158, kS158, kL159, kA159, kS159, kC161, kG161, kP161, kR161_0, kR161_1, kL162, kA162, kS162, kL163, kA163, kS163, kC165, kG165, kP165, kR165_0, kR165_1, kR165_2, kR165_3, kL166, kA166, kS166, kL167, kA167, kS167, kL168, kA168, kS168, kL169, kA169, kS169, kC170, kG170, kP170, kR170_0, kR170_1, kR170_2, kL171, kA171, kS171, kL172, kA172, kS172, kL173, kA173, kS173, kC174, kG174, kP174, kR174_0, kR174_1, kR174_2, kR174_3, kR174_4, kL175, kA175, kS175, kL176, kA176, kS176, kL177, kA177, kS177, kL178, kA178, kS178, kL179, kC180, kG180, kP180, kL181, kL182, kA182, kS182, kC183, kG183, kP183, kR183_1, kR183_3, kR183_5, kR183_6, kR183_7, kR183_8, kR183_9, kR183_21, kR183_26, kR183_27, kR183_30, kR183_31, kR183_33, kR183_34, kR183_36, kR183_37, kR183_38, kR183_39, kR183_40, kR183_41, kR183_42, kR183_43, kR183_44, kL184, kA184, kS184, kL185, kA185, kS185, kL186, kA186, kS186, kL187, kA187, kS187, kL188, kA188, kS188, kL189, kL190, kL191, kA191, kS191, kL192, kA192, kS192, kL193, kA193, kS193, kL194, kA194, kS194, kL195, kA195, kS195, kL196, kA196, kS196, kL197, kA197, kS197, kL198, kA198, kS198, kL199, kA199, kS199, kL200, kA200, kS200, kL201, kL202, kA202, kS202, kL203, kA203, kS203, kL204, kA204, kS204, kL205, kL206, kA206, kS206, g1, q, hz]
  | succ k ih =>
    intro lo J hlo hs
    obtain ⟨hF, ⟨t, ht, hg⟩ | hb⟩ := hs
    · have is := is12_ok (τ := τ) hS hN hF hg (k' := 0) (by omega) (by omega)
      by_cases hk : tKd b m t = 0
      · rw [if_pos hk] at is
        have is : f_X12_is (xw τ J) 183 (0 : Int32) = some 1 := is
        refine ⟨J, hF, .inl ⟨⟨t, 4, hg.2.2.2, .inl ⟨rfl, rfl, hg.2.2.1, hk, rfl⟩⟩, hg.2.1⟩, fun z hz => xloop_end ?_⟩
        simp only [f_X12_read_b81]
        simp (disch := first | assumption | omega) only [Option.bind_some, Option.map_some, xw_gR, xw_gN, xw_al, xw_ck, xw_uI, xw_ur, xup_at, xur_at, if_true, if_false, reduceIte, and_true, true_and, and_false, false_and, not_true_eq_false, not_false_eq_true, Nat.reduceEqDiff, eq_self, Nat.reduceAdd, Nat.reduceMul, kC1, kG1, kP1, kR1_0, kR1_1, kR1_2, kR1_3, kR1_4, kR1_5, kR1_6, kR1_7, kR1_8, kR1_9, kR1_10, kR1_11, kR1_12, kR1_13, kC2, kG2, kP2, kR2_0, kR2_1, kC3, kG3, kP3, kR3_0, kR3_1, kR3_2, kR3_3, kL4, kA4, kS4, kL5, kA5, kS5, kL6, kA6, kS6, kL7, kA7, kS7, kC8, kG8, kP8, kR8_0, kR8_1, kL9, kA9, kS9, kL10, kA10, kS10, kC11, kG11, kP11, kR11_0, kR11_1, kR11_2, kR11_3, kL12, kA12, kS12, kL13, kA13, kS13, kL14, kA14, kS14, kL15, kA15, kS15, kC16, kG16, kP16, kR16_0, kR16_1, kL17, kA17, kS17, kL18, kA18, kS18, kC19, kG19, kP19, kR19_0, kL20, kL141, kL146, kA146, kS146, kL151, kA151, kS151, kL156, kA156, kS156, kC157, kG157, kP157, kR157_0, kR157_1, kL158, kA158, kS158, kL159, kA159, kS159, kC161, kG161, kP161, kR161_0, kR161_1, kL162, kA162, kS162, kL163, kA163, kS163, kC165, kG165, kP165, kR165_0, kR165_1, kR165_2, kR165_3, kL166, kA166, kS166, kL167, kA167, kS167, kL168, kA168, kS168, kL169, kA169, kS169, kC170, kG170, kP170, kR170_0, kR170_1, kR170_2, kL171, kA171, kS171, kL172, kA172, kS172, kL173, kA173, kS173, kC174, kG174, kP174, kR174_0, kR174_1, kR174_2, kR174_3, kR174_4, kL175, kA175, kS175, kL176, kA176, kS176, kL177, kA177, kS177, kL178, kA178, kS178, kL179, kC180, kG180, kP180, kL181, kL182, kA182, kS182, kC183, kG183, kP183, kR183_1, kR183_3, kR183_5, kR183_6, kR183_7, kR183_8, kR183_9, kR183_21, kR183_26, kR183_27, kR183_30, kR183_31, kR183_33, kR183_34, kR183_36, kR183_37, kR183_38, kR183_39, kR183_40, kR183_41, kR183_42, kR183_43, kR183_44, kL184, kA184, kS184, kL185, kA185, kS185, kL186, kA186, kS186, kL187, kA187, kS187, kL188, kA188, kS188, kL189, kL190, kL191, kA191, kS191, kL192, kA192, kS192, kL193, kA193, kS193, kL194, kA194, kS194, kL195, kA195, kS195, kL196, kA196, kS196, kL197, kA197, kS197, kL198, kA198, kS198, kL199, kA199, kS199, kL200, kA200, kS200, kL201, kL202, kA202, kS202, kL203, kA203, kS203, kL204, kA204, kS204, kL205, kL206, kA206, kS206, hg.2.1, is, one0, hz]
      · rw [if_neg hk] at is
        have is : f_X12_is (xw τ J) 183 (0 : Int32) = some 0 := is
        obtain ⟨J1, e1, s1⟩ := line_g (τ := τ) hS hN hF hg hk
        obtain ⟨J', h1, h2, h3⟩ := ih (t + 1) J1 (by omega) s1
        refine ⟨J', h1, h2, fun z hz => ?_⟩
        rw [← h3 z hz]
        refine xloop_step ?_
        simp only [f_X12_read_b81]
        simp (disch := first | assumption | omega) only [Option.bind_some, Option.map_some, xw_gR, xw_gN, xw_al, xw_ck, xw_uI, xw_ur, xup_at, xur_at, if_true, if_false, reduceIte, and_true, true_and, and_false, false_and, not_true_eq_false, not_false_eq_true, Nat.reduceEqDiff, eq_self, Nat.reduceAdd, Nat.reduceMul, kC1, kG1, kP1, kR1_0, kR1_1, kR1_2, kR1_3, kR1_4, kR1_5, kR1_6, kR1_7, kR1_8, kR1_9, kR1_10, kR1_11, kR1_12, kR1_13, kC2, kG2, kP2, kR2_0, kR2_1, kC3, kG3, kP3, kR3_0, kR3_1, kR3_2, kR3_3, kL4, kA4, kS4, kL5, kA5, kS5, kL6, kA6, kS6, kL7, kA7, kS7, kC8, kG8, kP8, kR8_0, kR8_1, kL9, kA9, kS9, kL10, kA10, kS10, kC11, kG11, kP11, kR11_0, kR11_1, kR11_2, kR11_3, kL12, kA12, kS12, kL13, kA13, kS13, kL14, kA14, kS14, kL15, kA15, kS15, kC16, kG16, kP16, kR16_0, kR16_1, kL17, kA17, kS17, kL18, kA18, kS18, kC19, kG19, kP19, kR19_0, kL20, kL141, kL146, kA146, kS146, kL151, kA151, kS151, kL156, kA156, kS156, kC157, kG157, kP157, kR157_0, kR157_1, kL158, kA158, kS158, kL159, kA159, kS159, kC161, kG161, kP161, kR161_0, kR161_1, kL162, kA162, kS162, kL163, kA163, kS163, kC165, kG165, kP165, kR165_0, kR165_1, kR165_2, kR165_3, kL166, kA166, kS166, kL167, kA167, kS167, kL168, kA168, kS168, kL169, kA169, kS169, kC170, kG170, kP170, kR170_0, kR170_1, kR170_2, kL171, kA171, kS171, kL172, kA172, kS172, kL173, kA173, kS173, kC174, kG174, kP174, kR174_0, kR174_1, kR174_2, kR174_3, kR174_4, kL175, kA175, kS175, kL176, kA176, kS176, kL177, kA177, kS177, kL178, kA178, kS178, kL179, kC180, kG180, kP180, kL181, kL182, kA182, kS182, kC183, kG183, kP183, kR183_1, kR183_3, kR183_5, kR183_6, kR183_7, kR183_8, kR183_9, kR183_21, kR183_26, kR183_27, kR183_30, kR183_31, kR183_33, kR183_34, kR183_36, kR183_37, kR183_38, kR183_39, kR183_40, kR183_41, kR183_42, kR183_43, kR183_44, kL184, kA184, kS184, kL185, kA185, kS185, kL186, kA186, kS186, kL187, kA187, kS187, kL188, kA188, kS188, kL189, kL190, kL191, kA191, kS191, kL192, kA192, kS192, kL193, kA193, kS193, kL194, kA194, kS194, kL195, kA195, kS195, kL196, kA196, kS196, kL197, kA197, kS197, kL198, kA198, kS198, kL199, kA199, kS199, kL200, kA200, kS200, kL201, kL202, kA202, kS202, kL203, kA203, kS203, kL204, kA204, kS204, kL205, kL206, kA206, kS206, hg.2.1, is, e1]
    · refine ⟨J, hF, .inr hb, fun z hz => xloop_end ?_⟩
      obtain ⟨n, r, pl, r0, r3, -, g1, g2⟩ := hb
      have q : (nI r = 0) = False := eq_false (nI_ne0 (by omega) (by omega))
      simp only [f_X12_read_b81]
      simp (disch := first | assumption | omega) only [Option.bind_some, Option.map_some, xw_gR, xw_gN, xw_al, xw_ck, xw_uI, xw_ur, xup_at, xur_at, if_true, if_false, reduceIte, and_true, true_and, and_false, false_and, not_true_eq_false, not_false_eq_true, Nat.reduceEqDiff, eq_self, Nat.reduceAdd, Nat.reduceMul, kC1, kG1, kP1, kR1_0, kR1_1, kR1_2, kR1_3, kR1_4, kR1_5, kR1_6, kR1_7, kR1_8, kR1_9, kR1_10, kR1_11, kR1_12, kR1_13, kC2, kG2, kP2, kR2_0, kR2_1, kC3, kG3, kP3, kR3_0, kR3_1, kR3_2, kR3_3, kL4, kA4, kS4, kL5, kA5, kS5, kL6, kA6, kS6, kL7, kA7, kS7, kC8, kG8, kP8, kR8_0, kR8_1, kL9, kA9, kS9, kL10, kA10, kS10, kC11, kG11, kP11, kR11_0, kR11_1, kR11_2, kR11_3, kL12, kA12, kS12, kL13, kA13, kS13, kL14, kA14, kS14, kL15, kA15, kS15, kC16, kG16, kP16, kR16_0, kR16_1, kL17, kA17, kS17, kL18, kA18, kS18, kC19, kG19, kP19, kR19_0, kL20, kL141, kL146, kA146, kS146, kL151, kA151, kS151, kL156, kA156, kS156, kC157, kG157, kP157, kR157_0, kR157_1, kL158, kA158, kS158, kL159, kA159, kS159, kC161, kG161, kP161, kR161_0, kR161_1, kL162, kA162, kS162, kL163, kA163, kS163, kC165, kG165, kP165, kR165_0, kR165_1, kR165_2, kR165_3, kL166, kA166, kS166, kL167, kA167, kS167, kL168, kA168, kS168, kL169, kA169, kS169, kC170, kG170, kP170, kR170_0, kR170_1, kR170_2, kL171, kA171, kS171, kL172, kA172, kS172, kL173, kA173, kS173, kC174, kG174, kP174, kR174_0, kR174_1, kR174_2, kR174_3, kR174_4, kL175, kA175, kS175, kL176, kA176, kS176, kL177, kA177, kS177, kL178, kA178, kS178, kL179, kC180, kG180, kP180, kL181, kL182, kA182, kS182, kC183, kG183, kP183, kR183_1, kR183_3, kR183_5, kR183_6, kR183_7, kR183_8, kR183_9, kR183_21, kR183_26, kR183_27, kR183_30, kR183_31, kR183_33, kR183_34, kR183_36, kR183_37, kR183_38, kR183_39, kR183_40, kR183_41, kR183_42, kR183_43, kR183_44, kL184, kA184, kS184, kL185, kA185, kS185, kL186, kA186, kS186, kL187, kA187, kS187, kL188, kA188, kS188, kL189, kL190, kL191, kA191, kS191, kL192, kA192, kS192, kL193, kA193, kS193, kL194, kA194, kS194, kL195, kA195, kS195, kL196, kA196, kS196, kL197, kA197, kS197, kL198, kA198, kS198, kL199, kA199, kS199, kL200, kA200, kS200, kL201, kL202, kA202, kS202, kL203, kA203, kS203, kL204, kA204, kS204, kL205, kL206, kA206, kS206, g1, q, hz]
end GRAM
end
section
/-! the lines, what they tell -/
def lsB (b : Nat → Int32) (m k : Nat) : Bool := decide (4 ≤ k) && decide (tKd b m (k - 1) = 4)
def jnT (b : Nat → Int32) (m t : Nat) : Nat := if tKd b m t = 3 then t + 1 else t
def jvT (b : Nat → Int32) (m t : Nat) : Int := if tKd b m t = 3 then -(tNu b m (t + 1) : Int) else (tNu b m t : Int)
def jlT (b : Nat → Int32) (m t : Nat) : Nat := if tKd b m t = 3 then 2 else 1
def isJt (b : Nat → Int32) (m t : Nat) : Prop := (tKd b m t = 3 ∧ tKd b m (t + 1) = 2) ∨ tKd b m t = 2
theorem dl3 : ∀ k, k < 16 → dl 3 k = none ∨ (k = 4 ∧ dl 3 k = some 4) := by decide
theorem dl5 : ∀ k, k < 16 → dl 5 k = none ∨ (k = 3 ∧ dl 5 k = some 6) ∨ (k = 2 ∧ dl 5 k = some 3) := by decide
theorem dl6 : ∀ k, k < 16 → dl 6 k = none ∨ (k = 2 ∧ dl 6 k = some 3) := by decide
theorem dl7 : ∀ k, k < 16 → dl 7 k = none ∨ ((k = 6 ∨ k = 7) ∧ dl 7 k = some 3) := by decide
theorem dl8 : ∀ k, k < 16 → dl 8 k = none ∨ (k = 2 ∧ dl 8 k = some 9) := by decide
theorem dl9 : ∀ k, k < 16 → dl 9 k = none ∨ ((k = 6 ∨ k = 7) ∧ dl 9 k = some 5) := by decide
theorem dl10 : ∀ k, k < 16 → dl 10 k = none ∨ (k = 2 ∧ dl 10 k = some 5) := by decide
theorem dl11 : ∀ k, k < 16 → dl 11 k = none ∨ (k = 2 ∧ dl 11 k = some 12) := by decide
theorem dl12 : ∀ k, k < 16 → dl 12 k = none ∨ ((k = 13 ∨ k = 14) ∧ dl 12 k = some 3) := by decide
theorem dl13 : ∀ k, k < 16 → dl 13 k = none ∨ (k = 2 ∧ dl 13 k = some 3) := by decide
theorem dl4 : ∀ k, k < 16 → dl 4 k = none ∨ ((k = 6 ∨ k = 7 ∨ k = 8) ∧ dl 4 k = some 5) ∨ (k = 9 ∧ dl 4 k = some 7) ∨ (k = 10 ∧ dl 4 k = some 8) ∨ (k = 11 ∧ dl 4 k = some 10) ∨ (k = 12 ∧ dl 4 k = some 11) ∨ (k = 15 ∧ dl 4 k = some 13) := by decide
theorem dl0 : ∀ k, k < 16 → dl 0 k = none ∨ (k = 5 ∧ dl 0 k = some 1) := by decide
theorem dl1 : ∀ k, k < 16 → dl 1 k = none ∨ (k = 2 ∧ dl 1 k = some 2) := by decide
theorem dl2 : ∀ k, k < 16 → dl 2 k = none ∨ (k = 2 ∧ dl 2 k = some 3) := by decide
theorem dl_4 : ∀ v, v < 14 → ∀ k, k < 16 → (dl v k = some 4 → k = 4) ∧ (k = 4 → dl v k = none ∨ dl v k = some 4) := by decide
section LINES
variable {b : Nat → Int32} {m T : Nat}
/-- the text that the grammar lets pass -/
def OKT (b : Nat → Int32) (m T : Nat) : Prop := ws b m T = some 4 ∧ T ≤ 400 ∧ tKd b m T = 0
theorem OKT_of (h : cutR b m T 0 0) : OKT b m T := by
  obtain ⟨w, h1, h2⟩ := h
  rcases h2 with ⟨-, -, a, c, rfl⟩ | ⟨a, -⟩ | ⟨a, -⟩
  · exact ⟨h1, a, c⟩
  · cases a
  · cases a
theorem ws_go (hT : OKT b m T) {t w : Nat} (h : ws b m t = some w) (ht : t ≤ T) (hw : w ≠ 4) : t < T ∧ tKd b m t ≠ 0 ∧ tKd b m t < 16 ∧ ∃ u, dl w (tKd b m t) = some u ∧ ws b m (t + 1) = some u := by
  have hne : t ≠ T := fun z => by
    rw [z, hT.1] at h
    cases h
    exact hw rfl
  have hlt : t < T := by omega
  obtain ⟨v, v1, v2, u, v3, v4⟩ := ws_pre T 4 hT.1 t hlt
  rw [h] at v1
  cases v1
  exact ⟨hlt, v2, by have := tKd_b (b := b) (m := m) t; omega, u, v3, v4⟩
theorem end_at (hT : OKT b m T) {t : Nat} (h : ws b m t = some 3) (ht : t ≤ T) : tKd b m t = 4 ∧ ws b m (t + 1) = some 4 ∧ t + 1 ≤ T := by
  obtain ⟨h1, h2, h3, u, h4, h5⟩ := ws_go hT h ht (by omega)
  rcases dl3 _ h3 with z | ⟨z1, z2⟩
  · rw [z] at h4; cases h4
  · rw [z2] at h4; cases h4
    exact ⟨z1, h5, by omega⟩
theorem J_at (hT : OKT b m T) {t : Nat} (h : ws b m t = some 5) (ht : t ≤ T) : isJt b m t ∧ tKd b m (t + jlT b m t) = 4 ∧ ws b m (t + jlT b m t + 1) = some 4 ∧ t + jlT b m t + 1 ≤ T := by
  obtain ⟨h1, h2, h3, u, h4, h5⟩ := ws_go hT h ht (by omega)
  rcases dl5 _ h3 with z | ⟨z1, z2⟩ | ⟨z1, z2⟩
  · rw [z] at h4; cases h4
  · rw [z2] at h4; cases h4
    obtain ⟨k1, k2, k3, u', k4, k5⟩ := ws_go hT h5 (by omega) (by omega)
    rcases dl6 _ k3 with y | ⟨y1, y2⟩
    · rw [y] at k4; cases k4
    · rw [y2] at k4; cases k4
      have e := end_at hT k5 (by omega)
      unfold jlT
      rw [if_pos z1]
      exact ⟨.inl ⟨z1, y1⟩, e⟩
  · rw [z2] at h4; cases h4
    have e := end_at hT h5 (by omega)
    unfold jlT
    rw [if_neg (by omega)]
    exact ⟨.inr z1, e⟩
/-- the shapes of a line -/
def LN1 (b : Nat → Int32) (m t : Nat) : Prop := (tKd b m t = 6 ∨ tKd b m t = 7 ∨ tKd b m t = 8) ∧ isJt b m (t + 1)
def LN2 (b : Nat → Int32) (m t : Nat) : Prop := tKd b m t = 9 ∧ (tKd b m (t + 1) = 6 ∨ tKd b m (t + 1) = 7)
def LN3 (b : Nat → Int32) (m t : Nat) : Prop := tKd b m t = 10 ∧ tKd b m (t + 1) = 2 ∧ (tKd b m (t + 2) = 6 ∨ tKd b m (t + 2) = 7) ∧ isJt b m (t + 3)
def LN4 (b : Nat → Int32) (m t : Nat) : Prop := tKd b m t = 11 ∧ tKd b m (t + 1) = 2 ∧ isJt b m (t + 2)
def LN5 (b : Nat → Int32) (m t : Nat) : Prop := tKd b m t = 12 ∧ tKd b m (t + 1) = 2 ∧ (tKd b m (t + 2) = 13 ∨ tKd b m (t + 2) = 14)
def LN6 (b : Nat → Int32) (m t : Nat) : Prop := tKd b m t = 15 ∧ tKd b m (t + 1) = 2
def lnE (b : Nat → Int32) (m t : Nat) : Nat := if tKd b m t = 9 ∨ tKd b m t = 15 then t + 2 else if tKd b m t = 10 then t + 3 + jlT b m (t + 3) else if tKd b m t = 11 then t + 2 + jlT b m (t + 2) else if tKd b m t = 12 then t + 3 else t + 1 + jlT b m (t + 1)
theorem line_at (hT : OKT b m T) {t : Nat} (h : ws b m t = some 4) (ht : t < T) : (LN1 b m t ∨ LN2 b m t ∨ LN3 b m t ∨ LN4 b m t ∨ LN5 b m t ∨ LN6 b m t) ∧ tKd b m (lnE b m t) = 4 ∧ ws b m (lnE b m t + 1) = some 4 ∧ lnE b m t + 1 ≤ T ∧ t < lnE b m t := by
  obtain ⟨v, v1, v2, u, v3, v4⟩ := ws_pre T 4 hT.1 t ht
  rw [h] at v1
  cases v1
  have k16 : tKd b m t < 16 := by have := tKd_b (b := b) (m := m) t; omega
  have jl1 : ∀ t, 1 ≤ jlT b m t := fun t => by unfold jlT; split <;> omega
  rcases dl4 _ k16 with z | ⟨z1, z2⟩ | ⟨z1, z2⟩ | ⟨z1, z2⟩ | ⟨z1, z2⟩ | ⟨z1, z2⟩ | ⟨z1, z2⟩
  · rw [z] at v3; cases v3
  · rw [z2] at v3; cases v3
    obtain ⟨a1, a2, a3, a4⟩ := J_at hT v4 (by omega)
    have e : lnE b m t = t + 1 + jlT b m (t + 1) := by
      unfold lnE
      rw [if_neg (by omega), if_neg (by omega), if_neg (by omega), if_neg (by omega)]
    rw [e]
    have := jl1 (t + 1)
    exact ⟨.inl ⟨z1, a1⟩, a2, a3, a4, by omega⟩
  · rw [z2] at v3; cases v3
    obtain ⟨k1, k2, k3, u', k4, k5⟩ := ws_go hT v4 (by omega) (by omega)
    rcases dl7 _ k3 with y | ⟨y1, y2⟩
    · rw [y] at k4; cases k4
    · rw [y2] at k4; cases k4
      obtain ⟨a1, a2, a3⟩ := end_at hT k5 (by omega)
      have e : lnE b m t = t + 2 := by unfold lnE; rw [if_pos (by omega)]
      rw [e]
      exact ⟨.inr (.inl ⟨z1, y1⟩), a1, a2, a3, by omega⟩
  · rw [z2] at v3; cases v3
    obtain ⟨k1, k2, k3, u', k4, k5⟩ := ws_go hT v4 (by omega) (by omega)
    rcases dl8 _ k3 with y | ⟨y1, y2⟩
    · rw [y] at k4; cases k4
    · rw [y2] at k4; cases k4
      obtain ⟨q1, q2, q3, u', q4, q5⟩ := ws_go hT k5 (by omega) (by omega)
      rcases dl9 _ q3 with x | ⟨x1, x2⟩
      · rw [x] at q4; cases q4
      · rw [x2] at q4; cases q4
        obtain ⟨a1, a2, a3, a4⟩ := J_at hT q5 (by omega)
        have e : lnE b m t = t + 3 + jlT b m (t + 3) := by unfold lnE; rw [if_neg (by omega), if_pos z1]
        rw [e]
        have := jl1 (t + 3)
        exact ⟨.inr (.inr (.inl ⟨z1, y1, x1, a1⟩)), a2, a3, a4, by omega⟩
  · rw [z2] at v3; cases v3
    obtain ⟨k1, k2, k3, u', k4, k5⟩ := ws_go hT v4 (by omega) (by omega)
    rcases dl10 _ k3 with y | ⟨y1, y2⟩
    · rw [y] at k4; cases k4
    · rw [y2] at k4; cases k4
      obtain ⟨a1, a2, a3, a4⟩ := J_at hT k5 (by omega)
      have e : lnE b m t = t + 2 + jlT b m (t + 2) := by unfold lnE; rw [if_neg (by omega), if_neg (by omega), if_pos z1]
      rw [e]
      have := jl1 (t + 2)
      exact ⟨.inr (.inr (.inr (.inl ⟨z1, y1, a1⟩))), a2, a3, a4, by omega⟩
  · rw [z2] at v3; cases v3
    obtain ⟨k1, k2, k3, u', k4, k5⟩ := ws_go hT v4 (by omega) (by omega)
    rcases dl11 _ k3 with y | ⟨y1, y2⟩
    · rw [y] at k4; cases k4
    · rw [y2] at k4; cases k4
      obtain ⟨q1, q2, q3, u', q4, q5⟩ := ws_go hT k5 (by omega) (by omega)
      rcases dl12 _ q3 with x | ⟨x1, x2⟩
      · rw [x] at q4; cases q4
      · rw [x2] at q4; cases q4
        obtain ⟨a1, a2, a3⟩ := end_at hT q5 (by omega)
        have e : lnE b m t = t + 3 := by unfold lnE; rw [if_neg (by omega), if_neg (by omega), if_neg (by omega), if_pos z1]
        rw [e]
        exact ⟨.inr (.inr (.inr (.inr (.inl ⟨z1, y1, x1⟩)))), a1, a2, a3, by omega⟩
  · rw [z2] at v3; cases v3
    obtain ⟨k1, k2, k3, u', k4, k5⟩ := ws_go hT v4 (by omega) (by omega)
    rcases dl13 _ k3 with y | ⟨y1, y2⟩
    · rw [y] at k4; cases k4
    · rw [y2] at k4; cases k4
      obtain ⟨a1, a2, a3⟩ := end_at hT k5 (by omega)
      have e : lnE b m t = t + 2 := by unfold lnE; rw [if_pos (by omega)]
      rw [e]
      exact ⟨.inr (.inr (.inr (.inr (.inr ⟨z1, y1⟩)))), a1, a2, a3, by omega⟩
/-- the head of the text -/
theorem head_at (hT : OKT b m T) : 4 ≤ T ∧ tKd b m 0 = 5 ∧ tKd b m 1 = 2 ∧ tKd b m 2 = 2 ∧ tKd b m 3 = 4 ∧ ws b m 4 = some 4 := by
  obtain ⟨h1, h2, h3, u, h4, h5⟩ := ws_go hT (t := 0) (w := 0) rfl (by omega) (by omega)
  rcases dl0 _ h3 with z | ⟨z1, z2⟩
  · rw [z] at h4; cases h4
  · rw [z2] at h4; cases h4
    obtain ⟨k1, k2, k3, u', k4, k5⟩ := ws_go hT h5 (by omega) (by omega)
    rcases dl1 _ k3 with y | ⟨y1, y2⟩
    · rw [y] at k4; cases k4
    · rw [y2] at k4; cases k4
      obtain ⟨q1, q2, q3, u', q4, q5⟩ := ws_go hT k5 (by omega) (by omega)
      rcases dl2 _ q3 with x | ⟨x1, x2⟩
      · rw [x] at q4; cases q4
      · rw [x2] at q4; cases q4
        obtain ⟨a1, a2, a3⟩ := end_at hT q5 (by omega)
        exact ⟨by omega, z1, y1, x1, a1, a2⟩
theorem ls_ws (hT : OKT b m T) {k : Nat} (h4 : 4 ≤ k) (hk : k ≤ T) : lsB b m k = true ↔ ws b m k = some 4 := by
  obtain ⟨v, v1, v2, u, v3, v4⟩ := ws_pre T 4 hT.1 (k - 1) (by omega)
  have v14 := ws_b (k - 1) v v1
  have k16 : tKd b m (k - 1) < 16 := by have := tKd_b (b := b) (m := m) (k - 1); omega
  have d := dl_4 v v14 _ k16
  rw [show k - 1 + 1 = k by omega] at v4
  unfold lsB
  rw [decide_eq_true h4, Bool.true_and, decide_eq_true_eq, v4]
  constructor
  · intro z
    rcases d.2 z with y | y
    · rw [y] at v3; cases v3
    · rw [y] at v3; exact v3.symm
  · intro z
    cases z
    exact d.1 v3
/-- inside a line no line begins -/
theorem ls_no (hT : OKT b m T) {t : Nat} (h : ws b m t = some 4) (ht : t < T) {i : Nat} (h1 : t < i) (h2 : i ≤ lnE b m t) : lsB b m i = false := by
  have hnot : tKd b m (i - 1) ≠ 4 := by
    obtain ⟨hl, -⟩ := line_at hT h ht
    have jb : ∀ s, isJt b m s → (tKd b m s = 3 ∧ jlT b m s = 2 ∧ tKd b m (s + 1) = 2) ∨ (tKd b m s = 2 ∧ jlT b m s = 1) := fun s hs => by
      unfold jlT
      rcases hs with ⟨a1, a2⟩ | a1
      · left; rw [if_pos a1]; exact ⟨a1, rfl, a2⟩
      · right; rw [if_neg (by omega)]; exact ⟨a1, rfl⟩
    unfold lnE at h2
    rcases hl with ⟨a1, a2⟩ | ⟨a1, a2⟩ | ⟨a1, a2, a3, a4⟩ | ⟨a1, a2, a3⟩ | ⟨a1, a2, a3⟩ | ⟨a1, a2⟩
    · rw [if_neg (by omega), if_neg (by omega), if_neg (by omega), if_neg (by omega)] at h2
      rcases jb _ a2 with ⟨c1, c2, c3⟩ | ⟨c1, c2⟩
      · rw [c2] at h2
        rcases (show i - 1 = t ∨ i - 1 = t + 1 ∨ i - 1 = t + 1 + 1 by omega) with e | e | e <;> rw [e] <;> omega
      · rw [c2] at h2
        rcases (show i - 1 = t ∨ i - 1 = t + 1 by omega) with e | e <;> rw [e] <;> omega
    · rw [if_pos (by omega)] at h2
      rcases (show i - 1 = t ∨ i - 1 = t + 1 by omega) with e | e <;> rw [e] <;> omega
    · rw [if_neg (by omega), if_pos a1] at h2
      rcases jb _ a4 with ⟨c1, c2, c3⟩ | ⟨c1, c2⟩
      · rw [c2] at h2
        rcases (show i - 1 = t ∨ i - 1 = t + 1 ∨ i - 1 = t + 2 ∨ i - 1 = t + 3 ∨ i - 1 = t + 3 + 1 by omega) with e | e | e | e | e <;> rw [e] <;> omega
      · rw [c2] at h2
        rcases (show i - 1 = t ∨ i - 1 = t + 1 ∨ i - 1 = t + 2 ∨ i - 1 = t + 3 by omega) with e | e | e | e <;> rw [e] <;> omega
    · rw [if_neg (by omega), if_neg (by omega), if_pos a1] at h2
      rcases jb _ a3 with ⟨c1, c2, c3⟩ | ⟨c1, c2⟩
      · rw [c2] at h2
        rcases (show i - 1 = t ∨ i - 1 = t + 1 ∨ i - 1 = t + 2 ∨ i - 1 = t + 2 + 1 by omega) with e | e | e | e <;> rw [e] <;> omega
      · rw [c2] at h2
        rcases (show i - 1 = t ∨ i - 1 = t + 1 ∨ i - 1 = t + 2 by omega) with e | e | e <;> rw [e] <;> omega
    · rw [if_neg (by omega), if_neg (by omega), if_neg (by omega), if_pos a1] at h2
      rcases (show i - 1 = t ∨ i - 1 = t + 1 ∨ i - 1 = t + 2 by omega) with e | e | e <;> rw [e] <;> omega
    · rw [if_pos (by omega)] at h2
      rcases (show i - 1 = t ∨ i - 1 = t + 1 by omega) with e | e <;> rw [e] <;> omega
  unfold lsB
  rw [decide_eq_false hnot, Bool.and_false]
end LINES
/-- what was told so far, token by token -/
def foldL {α : Type} (b : Nat → Int32) (m : Nat) (a0 : α) (f : Nat → α → α) : Nat → α
  | 0 => a0
  | k + 1 => if lsB b m k then f k (foldL b m a0 f k) else foldL b m a0 f k
theorem foldL_4 {α : Type} {b : Nat → Int32} {m : Nat} (a0 : α) (f : Nat → α → α) : ∀ k, k ≤ 4 → foldL b m a0 f k = a0
  | 0, _ => rfl
  | k + 1, h => by
    rw [foldL]
    have : lsB b m k = false := by unfold lsB; rw [decide_eq_false (by omega), Bool.false_and]
    rw [this, if_neg (by decide)]
    exact foldL_4 a0 f k (by omega)
theorem foldL_no {α : Type} {b : Nat → Int32} {m : Nat} (a0 : α) (f : Nat → α → α) {t : Nat} : ∀ e, t ≤ e → (∀ i, t ≤ i → i < e → lsB b m i = false) → foldL b m a0 f e = foldL b m a0 f t
  | 0, h, _ => by rw [show t = 0 by omega]
  | e + 1, h, hn => by
    by_cases z : t = e + 1
    · rw [z]
    · rw [foldL, hn e (by omega) (by omega), if_neg (by decide)]
      exact foldL_no a0 f e (by omega) (fun i h1 h2 => hn i h1 (by omega))
/-- over a whole line -/
theorem foldL_line {α : Type} {b : Nat → Int32} {m T : Nat} (a0 : α) (f : Nat → α → α) (hT : OKT b m T) {t : Nat} (h4 : 4 ≤ t) (h : ws b m t = some 4) (ht : t < T) : foldL b m a0 f (lnE b m t + 1) = f t (foldL b m a0 f t) := by
  have hl := (line_at hT h ht).2.2.2.2
  rw [foldL_no a0 f (t := t + 1) (lnE b m t + 1) (by omega) (fun i h1 h2 => ls_no hT h ht (by omega) (by omega)), foldL, (ls_ws hT h4 (by omega)).mpr h, if_pos rfl]
end
section
/-! what a text means, what is wrong with it -/
section MEAN
variable {b : Nat → Int32} {m T w l r : Nat}
def aLL (b : Nat → Int32) (m c : Nat) : Nat → Int := foldL b m 0 (fun k a => if tKd b m k = c then jvT b m (k + 1) else a)
def sDD (b : Nat → Int32) (m : Nat) : Nat → Nat := foldL b m 0 (fun k a => if tKd b m k = 15 then tNu b m (k + 1) else a)
def tpl (b : Nat → Int32) (m k : Nat) : Nat := if tKd b m (k + 2) = 7 then 16 + tNu b m (k + 1) else tNu b m (k + 1)
def tII (b : Nat → Int32) (m t : Nat) : Nat → Option Int := foldL b m none (fun k a => if tKd b m k = 10 ∧ tpl b m k = t then some (jvT b m (k + 3)) else a)
def pUU (b : Nat → Int32) (m i : Nat) : Nat → Option Int := foldL b m none (fun k a => if tKd b m k = 11 ∧ tNu b m (k + 1) = i then some (jvT b m (k + 2)) else a)
def pII (b : Nat → Int32) (m i : Nat) : Nat → Nat := foldL b m 0 (fun k a => if tKd b m k = 12 ∧ tNu b m (k + 1) = i then (if tKd b m (k + 2) = 13 then 1 else 2) else a)
def szF (w l : Nat) : Option (Nat × Nat) := if w < 1 ∨ 4 < w then some (3, 1) else if l < 1 ∨ 16 < l ∨ 16 < w * l then some (3, 2) else none
def badS (b : Nat → Int32) (m w l r k : Nat) : Bool := decide (w * l ≤ tNu b m (k + 1)) || (decide (tKd b m k = 10) && (gTo (w, l, r) (tpl b m k)).isNone)
def linF (b : Nat → Int32) (m w l r k : Nat) : Option (Nat × Nat) := if tKd b m k = 6 ∨ tKd b m k = 7 ∨ tKd b m k = 8 then (if 3 < tNu b m (jnT b m (k + 1)) then some (3, jnT b m (k + 1)) else none) else if tKd b m k = 10 then (if badS b m w l r k then some (4, k + 1) else if 3 < tNu b m (jnT b m (k + 3)) then some (3, jnT b m (k + 3)) else none) else if tKd b m k = 11 then (if badS b m w l r k then some (4, k + 1) else if 3 < tNu b m (jnT b m (k + 2)) then some (3, jnT b m (k + 2)) else none) else if tKd b m k = 12 then (if badS b m w l r k then some (4, k + 1) else none) else none
def fFF (b : Nat → Int32) (m w l r : Nat) : Nat → Option (Nat × Nat) := foldL b m (szF w l) (fun k a => match a with
  | some x => some x
  | none => linF b m w l r k)
/-- a wrong token of a line, as the model meets it -/
def clL (b : Nat → Int32) (m : Nat) (β : Nat → Bool) (k c j : Nat) : Prop := ((tKd b m k = 6 ∨ tKd b m k = 7 ∨ tKd b m k = 8) ∧ 3 < tNu b m (jnT b m (k + 1)) ∧ c = 3 ∧ j = jnT b m (k + 1)) ∨ ((tKd b m k = 10 ∨ tKd b m k = 11 ∨ tKd b m k = 12) ∧ β k = true ∧ c = 4 ∧ j = k + 1) ∨ (tKd b m k = 10 ∧ 3 < tNu b m (jnT b m (k + 3)) ∧ c = 3 ∧ j = jnT b m (k + 3)) ∨ (tKd b m k = 11 ∧ 3 < tNu b m (jnT b m (k + 2)) ∧ c = 3 ∧ j = jnT b m (k + 2))
theorem jn_b (t : Nat) : t ≤ jnT b m t ∧ jnT b m t < t + jlT b m t := by
  unfold jnT jlT
  split <;> omega
theorem fF_none : ∀ e, fFF b m w l r e = none → szF w l = none ∧ ∀ k, k < e → lsB b m k = true → linF b m w l r k = none
  | 0, h => ⟨h, fun k hk => by omega⟩
  | e + 1, h => by
    unfold fFF at h
    rw [foldL] at h
    by_cases hl : lsB b m e = true
    · rw [if_pos hl] at h
      cases hf : fFF b m w l r e with
      | some x =>
        unfold fFF at hf
        rw [hf] at h; cases h
      | none =>
        obtain ⟨h1, h2⟩ := fF_none e hf
        unfold fFF at hf
        rw [hf] at h
        refine ⟨h1, fun k hk hk2 => ?_⟩
        by_cases z : k = e
        · rw [z]; exact h
        · exact h2 k (by omega) hk2
    · rw [if_neg hl] at h
      obtain ⟨h1, h2⟩ := fF_none e h
      refine ⟨h1, fun k hk hk2 => ?_⟩
      by_cases z : k = e
      · rw [z] at hk2; exact absurd hk2 hl
      · exact h2 k (by omega) hk2
theorem fF_some {x : Nat × Nat} : ∀ e, fFF b m w l r e = some x → szF w l = some x ∨ (szF w l = none ∧ ∃ k, k < e ∧ lsB b m k = true ∧ linF b m w l r k = some x ∧ fFF b m w l r k = none)
  | 0, h => .inl h
  | e + 1, h => by
    have h' := h
    unfold fFF at h
    rw [foldL] at h
    by_cases hl : lsB b m e = true
    · rw [if_pos hl] at h
      cases hf : fFF b m w l r e with
      | some y =>
        have hf' := hf
        unfold fFF at hf
        rw [hf] at h
        have h : some y = some x := h
        rw [h] at hf'
        rcases fF_some e hf' with z | ⟨z, k, k1, k2, k3, k4⟩
        · exact .inl z
        · exact .inr ⟨z, k, by omega, k2, k3, k4⟩
      | none =>
        have h1 := fF_none e hf
        have hf' := hf
        unfold fFF at hf
        rw [hf] at h
        exact .inr ⟨h1.1, e, by omega, hl, h, hf'⟩
    · rw [if_neg hl] at h
      rcases fF_some e h with z | ⟨z, k, k1, k2, k3, k4⟩
      · exact .inl z
      · exact .inr ⟨z, k, by omega, k2, k3, k4⟩
theorem lsB_4 {k : Nat} (h : lsB b m k = true) : 4 ≤ k := by
  unfold lsB at h
  simp only [Bool.and_eq_true, decide_eq_true_eq] at h
  exact h.1
/-- the first wrong token of a line lies in it, and no other of its wrong ones lies before it -/
theorem lin_in (hT : OKT b m T) {k c j : Nat} (hk : k < T) (hl : lsB b m k = true) (h : linF b m w l r k = some (c, j)) : k < j ∧ j < lnE b m k ∧ (c = 3 ∨ c = 4) ∧ clL b m (badS b m w l r) k c j ∧ ∀ c' j', clL b m (badS b m w l r) k c' j' → j < j' ∨ (j = j' ∧ c' = c) := by
  have hws := (ls_ws hT (lsB_4 hl) (by omega)).mp hl
  obtain ⟨hline, -, -, -, -⟩ := line_at hT hws hk
  have j1 := jn_b (b := b) (m := m) (k + 1)
  have j2 := jn_b (b := b) (m := m) (k + 2)
  have j3 := jn_b (b := b) (m := m) (k + 3)
  unfold linF at h
  unfold lnE clL
  by_cases a1 : tKd b m k = 6 ∨ tKd b m k = 7 ∨ tKd b m k = 8
  · rw [if_pos a1] at h
    rw [if_neg (by omega), if_neg (by omega), if_neg (by omega), if_neg (by omega)]
    split at h
    · next q =>
      cases h
      refine ⟨by omega, by omega, .inl rfl, .inl ⟨a1, q, rfl, rfl⟩, fun c' j' hc => ?_⟩
      rcases hc with ⟨-, -, z1, z2⟩ | ⟨z, -⟩ | ⟨z, -⟩ | ⟨z, -⟩ <;> omega
    · cases h
  · rw [if_neg a1] at h
    by_cases a2 : tKd b m k = 10
    · rw [if_pos a2] at h
      rw [if_neg (by omega), if_pos a2]
      split at h
      · next q =>
        cases h
        refine ⟨by omega, by omega, .inr rfl, .inr (.inl ⟨.inl a2, q, rfl, rfl⟩), fun c' j' hc => ?_⟩
        rcases hc with ⟨z, -⟩ | ⟨-, -, z1, z2⟩ | ⟨-, -, z1, z2⟩ | ⟨z, -⟩ <;> omega
      · next q =>
        split at h
        · next q2 =>
          cases h
          refine ⟨by omega, by omega, .inl rfl, .inr (.inr (.inl ⟨a2, q2, rfl, rfl⟩)), fun c' j' hc => ?_⟩
          rcases hc with ⟨z, -⟩ | ⟨-, z, -⟩ | ⟨-, -, z1, z2⟩ | ⟨z, -⟩
          · omega
          · exact absurd z q
          · omega
          · omega
        · cases h
    · rw [if_neg a2] at h
      by_cases a3 : tKd b m k = 11
      · rw [if_pos a3] at h
        rw [if_neg (by omega), if_neg a2, if_pos a3]
        split at h
        · next q =>
          cases h
          refine ⟨by omega, by omega, .inr rfl, .inr (.inl ⟨.inr (.inl a3), q, rfl, rfl⟩), fun c' j' hc => ?_⟩
          rcases hc with ⟨z, -⟩ | ⟨-, -, z1, z2⟩ | ⟨z, -⟩ | ⟨-, -, z1, z2⟩ <;> omega
        · next q =>
          split at h
          · next q2 =>
            cases h
            refine ⟨by omega, by omega, .inl rfl, .inr (.inr (.inr ⟨a3, q2, rfl, rfl⟩)), fun c' j' hc => ?_⟩
            rcases hc with ⟨z, -⟩ | ⟨-, z, -⟩ | ⟨z, -⟩ | ⟨-, -, z1, z2⟩
            · omega
            · exact absurd z q
            · omega
            · omega
          · cases h
      · rw [if_neg a3] at h
        by_cases a4 : tKd b m k = 12
        · rw [if_pos a4] at h
          rw [if_neg (by omega), if_neg a2, if_neg a3, if_pos a4]
          split at h
          · next q =>
            cases h
            refine ⟨by omega, by omega, .inr rfl, .inr (.inl ⟨.inr (.inr a4), q, rfl, rfl⟩), fun c' j' hc => ?_⟩
            rcases hc with ⟨z, -⟩ | ⟨-, -, z1, z2⟩ | ⟨z, -⟩ | ⟨z, -⟩ <;> omega
          · cases h
        · rw [if_neg a4] at h; cases h
theorem lin_cl {k c j : Nat} (h : linF b m w l r k = none) : ¬ clL b m (badS b m w l r) k c j := by
  intro hc
  unfold linF at h
  rcases hc with ⟨a1, a2, -⟩ | ⟨a1, a2, -⟩ | ⟨a1, a2, -⟩ | ⟨a1, a2, -⟩
  · rw [if_pos a1, if_pos a2] at h; cases h
  · rw [if_neg (by omega)] at h
    rcases a1 with z | z | z
    · rw [if_pos z, if_pos a2] at h; cases h
    · rw [if_neg (by omega), if_pos z, if_pos a2] at h; cases h
    · rw [if_neg (by omega), if_neg (by omega), if_pos z, if_pos a2] at h; cases h
  · rw [if_neg (by omega), if_pos a1] at h
    split at h
    · cases h
    · cases h
  · rw [if_neg (by omega), if_neg (by omega), if_pos a1] at h
    split at h
    · cases h
    · cases h
theorem szF_in {c j : Nat} (h : szF w l = some (c, j)) : c = 3 ∧ (j = 1 ∨ j = 2) := by
  unfold szF at h
  split at h
  · cases h; omega
  · split at h
    · cases h; omega
    · cases h
theorem cl_low {β : Nat → Bool} {k c j : Nat} (h : clL b m β k c j) : k < j := by
  have j1 := jn_b (b := b) (m := m) (k + 1)
  have j2 := jn_b (b := b) (m := m) (k + 2)
  have j3 := jn_b (b := b) (m := m) (k + 3)
  rcases h with ⟨-, -, -, z⟩ | ⟨-, -, -, z⟩ | ⟨-, -, -, z⟩ | ⟨-, -, -, z⟩ <;> omega
/-- of all wrong tokens the class's is the first -/
theorem ff_first (hT : OKT b m T) {c i : Nat} (h : fFF b m w l r T = some (c, i)) {β : Nat → Bool} (hβ : szF w l = none → β = badS b m w l r) {k c' j' : Nat} (hk : k < T) (hl : lsB b m k = true) (hc : clL b m β k c' j') : i < j' ∨ (i = j' ∧ c' = c) := by
  have low := cl_low hc
  have k4 := lsB_4 hl
  rcases fF_some T h with z | ⟨z, k0, k1, k2, k3, k4'⟩
  · have := szF_in z
    omega
  · rw [hβ z] at hc
    have hin := lin_in hT k1 k2 k3
    rcases Nat.lt_trichotomy k k0 with y | y | y
    · have := (fF_none k0 k4').2 k y hl
      exact absurd hc (lin_cl this)
    · rw [y] at hc
      exact hin.2.2.2.2 c' j' hc
    · have hws := (ls_ws hT (lsB_4 k2) (by omega)).mp k2
      have : lnE b m k0 < k := by
        apply Classical.byContradiction
        intro q
        have := ls_no hT hws k1 y (by omega)
        rw [hl] at this; cases this
      omega
theorem ff_reach (hT : OKT b m T) {c i : Nat} (h : fFF b m w l r T = some (c, i)) (hz : szF w l = none) : ∃ k, k < T ∧ lsB b m k = true ∧ clL b m (badS b m w l r) k c i := by
  rcases fF_some T h with z | ⟨z, k0, k1, k2, k3, -⟩
  · rw [hz] at z; cases z
  · exact ⟨k0, k1, k2, (lin_in hT k1 k2 k3).2.2.2.1⟩
theorem ff_in (hT : OKT b m T) {c i : Nat} (h : fFF b m w l r T = some (c, i)) : (c = 3 ∨ c = 4) ∧ 0 < i ∧ i < T := by
  have h4 := (head_at hT).1
  rcases fF_some T h with z | ⟨z, k0, k1, k2, k3, -⟩
  · have := szF_in z
    omega
  · have hin := lin_in hT k1 k2 k3
    have hws := (ls_ws hT (lsB_4 k2) (by omega)).mp k2
    have := (line_at hT hws k1).2.2.2.1
    exact ⟨hin.2.2.1, by omega, by omega⟩
end MEAN
end
section
/-! the class takes tokens -/
theorem bt_1 : ∀ j, j < 32 → bt 1 j = decide (j = 0) := by decide +kernel
theorem bit_bt {x : Int32} {t : Nat} (ht : t < 32) : f_X11_bitOf x (nI t) = some (if bt x t then 1 else 0) := by
  unfold f_X11_bitOf
  congr 1
  apply b_ext
  intro i hi
  rw [b_and, b_sshr t ht x hi, bt_1 i hi]
  by_cases h : i = 0
  · rw [h, Nat.add_zero, if_pos ht, decide_eq_true rfl, Bool.and_true]
    cases bt x t <;> decide
  · rw [decide_eq_false h, Bool.and_false]
    cases bt x t
    · exact (b_0 i).symm
    · rw [if_pos rfl, bt_1 i hi, decide_eq_false h]
theorem bt_set {x : Int32} {n i : Nat} (hn : n < 32) (hi : i < 32) : bt (x ||| ((1 : Int32) <<< (nI n &&& 31))) i = (bt x i || decide (i = n)) := by
  rw [b_or, b_shl n hn 1 hi]
  congr 1
  by_cases h : n ≤ i
  · rw [decide_eq_true h, Bool.true_and, bt_1 _ (by omega)]
    by_cases z : i = n
    · rw [decide_eq_true z, decide_eq_true (by omega)]
    · rw [decide_eq_false z, decide_eq_false (by omega)]
  · rw [decide_eq_false h, Bool.false_and, decide_eq_false (by omega)]
section TAKE
variable {σ : XS} {J : Nat → Nat → Int32} {b : Nat → Int32} {m T : Nat}
/-- the class's tokens at hand -/
def CT (J : Nat → Nat → Int32) (b : Nat → Int32) (m T : Nat) : Prop := OKT b m T ∧ J 3 5 = nI T ∧ TKC J b m T
theorem CT_c {J' : Nat → Nat → Int32} (h : ∀ a q, a ≠ 2 → a ≠ 8 → a ≠ 9 → a ≠ 10 → J' a q = J a q) (H : CT J b m T) : CT J' b m T := by
  obtain ⟨h1, h2, h3⟩ := H
  refine ⟨h1, by rw [h _ _ (by omega) (by omega) (by omega) (by omega)]; exact h2, fun i hi => ?_⟩
  rw [h 5 i (by omega) (by omega) (by omega) (by omega), h 7 i (by omega) (by omega) (by omega) (by omega), h 6 i (by omega) (by omega) (by omega) (by omega)]
  exact h3 i hi
theorem kindAt_ok (hS : Shp σ) (hC : CT J b m T) {i : Nat} (hi : i ≤ T) : f_X8_kindAt (xw σ J) 3 (nI i) = some (nI (tKd b m i)) := by
  obtain ⟨h1, h2, h3⟩ := hC
  have hT := h1.2.1
  unfold f_X8_kindAt
  rw [if_neg (nI_pos (by omega))]
  by_cases z : i = T
  · have q1 : (nI T ≤ nI i) = True := by rw [nn_le (by omega) (by omega)]; exact eq_true (by omega)
    simp (disch := first | assumption | omega) only [Option.bind_some, Option.map_some, xw_gR, xw_gN, xw_al, xw_ck, xw_uI, xw_ur, xup_at, xur_at, if_true, if_false, reduceIte, and_true, true_and, and_false, false_and, not_true_eq_false, not_false_eq_true, Nat.reduceEqDiff, eq_self, Nat.reduceAdd, Nat.reduceMul, kC1, kG1, kP1, kR1_0, kR1_1, kR1_2, kR1_3, kR1_4, kR1_5, kR1_6, kR1_7, kR1_8, kR1_9, kR1_10, kR1_11, kR1_12, kR1_13, kC2, kG2, kP2, kR2_0, kR2_1, kC3, kG3, kP3, kR3_0, kR3_1, kR3_2, kR3_3, kL4, kA4, kS4, kL5, kA5, kS5, kL6, kA6, kS6, kL7, kA7, kS7, kC8, kG8, kP8, kR8_0, kR8_1, kL9, kA9, kS9, kL10, kA10, kS10, kC11, kG11, kP11, kR11_0, kR11_1, kR11_2, kR11_3, kL12, kA12, kS12, kL13, kA13, kS13, kL14, kA14, kS14, kL15, kA15, kS15, kC16, kG16, kP16, kR16_0, kR16_1, kL17, kA17, kS17, kL18, kA18, kS18, kC19, kG19, kP19, kR19_0, kL20, kL141, kL146, kA146, kS146, kL151, kA151, kS151, kL156, kA156, kS156, kC157, kG157, kP157, kR157_0, kR157_1, kL158, kA158, kS158, kL159, kA159, kS159, kC161, kG161, kP161, kR161_0, kR161_1, kL162, kA162, kS162, kL163, kA163, kS163, kC165, kG165, kP165, kR165_0, kR165_1, kR165_2, kR165_3, kL166, kA166, kS166, kL167, kA167, kS167, kL168, kA168, kS168, kL169, kA169, kS169, kC170, kG170, kP170, kR170_0, kR170_1, kR170_2, kL171, kA171, kS171, kL172, kA172, kS172, kL173, kA173, kS173, kC174, kG174, kP174, kR174_0, kR174_1, kR174_2, kR174_3, kR174_4, kL175, kA175, kS175, kL176, kA176, kS176, kL177, kA177, kS177, kL178, kA178, kS178, kL179, kC180, kG180, kP180, kL181, kL182, kA182, kS182, kC183, kG183, kP183, kR183_1, kR183_3, kR183_5, kR183_6, kR183_7, kR183_8, kR183_9, kR183_21, kR183_26, kR183_27, kR183_30, kR183_31, kR183_33, kR183_34, kR183_36, kR183_37, kR183_38, kR183_39, kR183_40, kR183_41, kR183_42, kR183_43, kR183_44, kL184, kA184, kS184, kL185, kA185, kS185, kL186, kA186, kS186, kL187, kA187, kS187, kL188, kA188, kS188, kL189, kL190, kL191, kA191, kS191, kL192, kA192, kS192, kL193, kA193, kS193, kL194, kA194, kS194, kL195, kA195, kS195, kL196, kA196, kS196, kL197, kA197, kS197, kL198, kA198, kS198, kL199, kA199, kS199, kL200, kA200, kS200, kL201, kL202, kA202, kS202, kL203, kA203, kS203, kL204, kA204, kS204, kL205, kL206, kA206, kS206, h2, q1]
    rw [z, h1.2.2]; rfl
  · have q1 : (nI T ≤ nI i) = False := by rw [nn_le (by omega) (by omega)]; exact eq_false (by omega)
    have q2 : (nI 400 ≤ nI i) = False := by rw [nn_le (by omega) (by omega)]; exact eq_false (by omega)
    have i4 : i < 400 := by omega
    simp (disch := first | assumption | omega) only [Option.bind_some, Option.map_some, xw_gR, xw_gN, xw_al, xw_ck, xw_uI, xw_ur, xup_at, xur_at, if_true, if_false, reduceIte, and_true, true_and, and_false, false_and, not_true_eq_false, not_false_eq_true, Nat.reduceEqDiff, eq_self, Nat.reduceAdd, Nat.reduceMul, kC1, kG1, kP1, kR1_0, kR1_1, kR1_2, kR1_3, kR1_4, kR1_5, kR1_6, kR1_7, kR1_8, kR1_9, kR1_10, kR1_11, kR1_12, kR1_13, kC2, kG2, kP2, kR2_0, kR2_1, kC3, kG3, kP3, kR3_0, kR3_1, kR3_2, kR3_3, kL4, kA4, kS4, kL5, kA5, kS5, kL6, kA6, kS6, kL7, kA7, kS7, kC8, kG8, kP8, kR8_0, kR8_1, kL9, kA9, kS9, kL10, kA10, kS10, kC11, kG11, kP11, kR11_0, kR11_1, kR11_2, kR11_3, kL12, kA12, kS12, kL13, kA13, kS13, kL14, kA14, kS14, kL15, kA15, kS15, kC16, kG16, kP16, kR16_0, kR16_1, kL17, kA17, kS17, kL18, kA18, kS18, kC19, kG19, kP19, kR19_0, kL20, kL141, kL146, kA146, kS146, kL151, kA151, kS151, kL156, kA156, kS156, kC157, kG157, kP157, kR157_0, kR157_1, kL158, kA158, kS158, kL159, kA159, kS159, kC161, kG161, kP161, kR161_0, kR161_1, kL162, kA162, kS162, kL163, kA163, kS163, kC165, kG165, kP165, kR165_0, kR165_1, kR165_2, kR165_3, kL166, kA166, kS166, kL167, kA167, kS167, kL168, kA168, kS168, kL169, kA169, kS169, kC170, kG170, kP170, kR170_0, kR170_1, kR170_2, kL171, kA171, kS171, kL172, kA172, kS172, kL173, kA173, kS173, kC174, kG174, kP174, kR174_0, kR174_1, kR174_2, kR174_3, kR174_4, kL175, kA175, kS175, kL176, kA176, kS176, kL177, kA177, kS177, kL178, kA178, kS178, kL179, kC180, kG180, kP180, kL181, kL182, kA182, kS182, kC183, kG183, kP183, kR183_1, kR183_3, kR183_5, kR183_6, kR183_7, kR183_8, kR183_9, kR183_21, kR183_26, kR183_27, kR183_30, kR183_31, kR183_33, kR183_34, kR183_36, kR183_37, kR183_38, kR183_39, kR183_40, kR183_41, kR183_42, kR183_43, kR183_44, kL184, kA184, kS184, kL185, kA185, kS185, kL186, kA186, kS186, kL187, kA187, kS187, kL188, kA188, kS188, kL189, kL190, kL191, kA191, kS191, kL192, kA192, kS192, kL193, kA193, kS193, kL194, kA194, kS194, kL195, kA195, kS195, kL196, kA196, kS196, kL197, kA197, kS197, kL198, kA198, kS198, kL199, kA199, kS199, kL200, kA200, kS200, kL201, kL202, kA202, kS202, kL203, kA203, kS203, kL204, kA204, kS204, kL205, kL206, kA206, kS206, h2, q1, q2, (h3 i (by omega)).1]
theorem numAt_ok (hS : Shp σ) (hC : CT J b m T) {i : Nat} (hi : i < T) (hk : tKd b m i = 2) : f_X8_numberAt (xw σ J) 3 (nI i) = some (nI (tNu b m i)) := by
  obtain ⟨h1, h2, h3⟩ := hC
  have hT := h1.2.1
  unfold f_X8_numberAt
  rw [if_neg (nI_pos (by omega))]
  have q1 : (nI T ≤ nI i) = False := by rw [nn_le (by omega) (by omega)]; exact eq_false (by omega)
  have q2 : (nI 400 ≤ nI i) = False := by rw [nn_le (by omega) (by omega)]; exact eq_false (by omega)
  have i4 : i < 400 := by omega
  simp (disch := first | assumption | omega) only [Option.bind_some, Option.map_some, xw_gR, xw_gN, xw_al, xw_ck, xw_uI, xw_ur, xup_at, xur_at, if_true, if_false, reduceIte, and_true, true_and, and_false, false_and, not_true_eq_false, not_false_eq_true, Nat.reduceEqDiff, eq_self, Nat.reduceAdd, Nat.reduceMul, kC1, kG1, kP1, kR1_0, kR1_1, kR1_2, kR1_3, kR1_4, kR1_5, kR1_6, kR1_7, kR1_8, kR1_9, kR1_10, kR1_11, kR1_12, kR1_13, kC2, kG2, kP2, kR2_0, kR2_1, kC3, kG3, kP3, kR3_0, kR3_1, kR3_2, kR3_3, kL4, kA4, kS4, kL5, kA5, kS5, kL6, kA6, kS6, kL7, kA7, kS7, kC8, kG8, kP8, kR8_0, kR8_1, kL9, kA9, kS9, kL10, kA10, kS10, kC11, kG11, kP11, kR11_0, kR11_1, kR11_2, kR11_3, kL12, kA12, kS12, kL13, kA13, kS13, kL14, kA14, kS14, kL15, kA15, kS15, kC16, kG16, kP16, kR16_0, kR16_1, kL17, kA17, kS17, kL18, kA18, kS18, kC19, kG19, kP19, kR19_0, kL20, kL141, kL146, kA146, kS146, kL151, kA151, kS151, kL156, kA156, kS156, kC157, kG157, kP157, kR157_0, kR157_1, kL158, kA158, kS158, kL159, kA159, kS159, kC161, kG161, kP161, kR161_0, kR161_1, kL162, kA162, kS162, kL163, kA163, kS163, kC165, kG165, kP165, kR165_0, kR165_1, kR165_2, kR165_3, kL166, kA166, kS166, kL167, kA167, kS167, kL168, kA168, kS168, kL169, kA169, kS169, kC170, kG170, kP170, kR170_0, kR170_1, kR170_2, kL171, kA171, kS171, kL172, kA172, kS172, kL173, kA173, kS173, kC174, kG174, kP174, kR174_0, kR174_1, kR174_2, kR174_3, kR174_4, kL175, kA175, kS175, kL176, kA176, kS176, kL177, kA177, kS177, kL178, kA178, kS178, kL179, kC180, kG180, kP180, kL181, kL182, kA182, kS182, kC183, kG183, kP183, kR183_1, kR183_3, kR183_5, kR183_6, kR183_7, kR183_8, kR183_9, kR183_21, kR183_26, kR183_27, kR183_30, kR183_31, kR183_33, kR183_34, kR183_36, kR183_37, kR183_38, kR183_39, kR183_40, kR183_41, kR183_42, kR183_43, kR183_44, kL184, kA184, kS184, kL185, kA185, kS185, kL186, kA186, kS186, kL187, kA187, kS187, kL188, kA188, kS188, kL189, kL190, kL191, kA191, kS191, kL192, kA192, kS192, kL193, kA193, kS193, kL194, kA194, kS194, kL195, kA195, kS195, kL196, kA196, kS196, kL197, kA197, kS197, kL198, kA198, kS198, kL199, kA199, kS199, kL200, kA200, kS200, kL201, kL202, kA202, kS202, kL203, kA203, kS203, kL204, kA204, kS204, kL205, kL206, kA206, kS206, h2, q1, q2, (h3 i hi).2.2 hk]
theorem plAt_ok (hS : Shp σ) (hC : CT J b m T) {i : Nat} (hi : i < T) : f_X8_placeAt (xw σ J) 3 (nI i) = some (nI (tSt b m i)) := by
  obtain ⟨h1, h2, h3⟩ := hC
  have hT := h1.2.1
  unfold f_X8_placeAt
  rw [if_neg (nI_pos (by omega))]
  have q1 : (nI T ≤ nI i) = False := by rw [nn_le (by omega) (by omega)]; exact eq_false (by omega)
  have q2 : (nI 400 ≤ nI i) = False := by rw [nn_le (by omega) (by omega)]; exact eq_false (by omega)
  have i4 : i < 400 := by omega
  simp (disch := first | assumption | omega) only [Option.bind_some, Option.map_some, xw_gR, xw_gN, xw_al, xw_ck, xw_uI, xw_ur, xup_at, xur_at, if_true, if_false, reduceIte, and_true, true_and, and_false, false_and, not_true_eq_false, not_false_eq_true, Nat.reduceEqDiff, eq_self, Nat.reduceAdd, Nat.reduceMul, kC1, kG1, kP1, kR1_0, kR1_1, kR1_2, kR1_3, kR1_4, kR1_5, kR1_6, kR1_7, kR1_8, kR1_9, kR1_10, kR1_11, kR1_12, kR1_13, kC2, kG2, kP2, kR2_0, kR2_1, kC3, kG3, kP3, kR3_0, kR3_1, kR3_2, kR3_3, kL4, kA4, kS4, kL5, kA5, kS5, kL6, kA6, kS6, kL7, kA7, kS7, kC8, kG8, kP8, kR8_0, kR8_1, kL9, kA9, kS9, kL10, kA10, kS10, kC11, kG11, kP11, kR11_0, kR11_1, kR11_2, kR11_3, kL12, kA12, kS12, kL13, kA13, kS13, kL14, kA14, kS14, kL15, kA15, kS15, kC16, kG16, kP16, kR16_0, kR16_1, kL17, kA17, kS17, kL18, kA18, kS18, kC19, kG19, kP19, kR19_0, kL20, kL141, kL146, kA146, kS146, kL151, kA151, kS151, kL156, kA156, kS156, kC157, kG157, kP157, kR157_0, kR157_1, kL158, kA158, kS158, kL159, kA159, kS159, kC161, kG161, kP161, kR161_0, kR161_1, kL162, kA162, kS162, kL163, kA163, kS163, kC165, kG165, kP165, kR165_0, kR165_1, kR165_2, kR165_3, kL166, kA166, kS166, kL167, kA167, kS167, kL168, kA168, kS168, kL169, kA169, kS169, kC170, kG170, kP170, kR170_0, kR170_1, kR170_2, kL171, kA171, kS171, kL172, kA172, kS172, kL173, kA173, kS173, kC174, kG174, kP174, kR174_0, kR174_1, kR174_2, kR174_3, kR174_4, kL175, kA175, kS175, kL176, kA176, kS176, kL177, kA177, kS177, kL178, kA178, kS178, kL179, kC180, kG180, kP180, kL181, kL182, kA182, kS182, kC183, kG183, kP183, kR183_1, kR183_3, kR183_5, kR183_6, kR183_7, kR183_8, kR183_9, kR183_21, kR183_26, kR183_27, kR183_30, kR183_31, kR183_33, kR183_34, kR183_36, kR183_37, kR183_38, kR183_39, kR183_40, kR183_41, kR183_42, kR183_43, kR183_44, kL184, kA184, kS184, kL185, kA185, kS185, kL186, kA186, kS186, kL187, kA187, kS187, kL188, kA188, kS188, kL189, kL190, kL191, kA191, kS191, kL192, kA192, kS192, kL193, kA193, kS193, kL194, kA194, kS194, kL195, kA195, kS195, kL196, kA196, kS196, kL197, kA197, kS197, kL198, kA198, kS198, kL199, kA199, kS199, kL200, kA200, kS200, kL201, kL202, kA202, kS202, kL203, kA203, kS203, kL204, kA204, kS204, kL205, kL206, kA206, kS206, h2, q1, q2, (h3 i hi).2.1]
theorem tkKind (hS : Shp σ) (hC : CT J b m T) {c : Nat} (hc : c ≤ T) (h4 : J 2 4 = nI c) : f_X1_takeKind (xw σ J) 2 = some (nI (tKd b m c), xw σ (xup J 2 4 (nI (c + 1)))) := by
  have k := kindAt_ok (σ := σ) hS hC hc
  unfold f_X1_takeKind
  simp (disch := first | assumption | omega) only [Option.bind_some, Option.map_some, xw_gR, xw_gN, xw_al, xw_ck, xw_uI, xw_ur, xup_at, xur_at, if_true, if_false, reduceIte, and_true, true_and, and_false, false_and, not_true_eq_false, not_false_eq_true, Nat.reduceEqDiff, eq_self, Nat.reduceAdd, Nat.reduceMul, kC1, kG1, kP1, kR1_0, kR1_1, kR1_2, kR1_3, kR1_4, kR1_5, kR1_6, kR1_7, kR1_8, kR1_9, kR1_10, kR1_11, kR1_12, kR1_13, kC2, kG2, kP2, kR2_0, kR2_1, kC3, kG3, kP3, kR3_0, kR3_1, kR3_2, kR3_3, kL4, kA4, kS4, kL5, kA5, kS5, kL6, kA6, kS6, kL7, kA7, kS7, kC8, kG8, kP8, kR8_0, kR8_1, kL9, kA9, kS9, kL10, kA10, kS10, kC11, kG11, kP11, kR11_0, kR11_1, kR11_2, kR11_3, kL12, kA12, kS12, kL13, kA13, kS13, kL14, kA14, kS14, kL15, kA15, kS15, kC16, kG16, kP16, kR16_0, kR16_1, kL17, kA17, kS17, kL18, kA18, kS18, kC19, kG19, kP19, kR19_0, kL20, kL141, kL146, kA146, kS146, kL151, kA151, kS151, kL156, kA156, kS156, kC157, kG157, kP157, kR157_0, kR157_1, kL158, kA158, kS158, kL159, kA159, kS159, kC161, kG161, kP161, kR161_0, kR161_1, kL162, kA162, kS162, kL163, kA163, kS163, kC165, kG165, kP165, kR165_0, kR165_1, kR165_2, kR165_3, kL166, kA166, kS166, kL167, kA167, kS167, kL168, kA168, kS168, kL169, kA169, kS169, kC170, kG170, kP170, kR170_0, kR170_1, kR170_2, kL171, kA171, kS171, kL172, kA172, kS172, kL173, kA173, kS173, kC174, kG174, kP174, kR174_0, kR174_1, kR174_2, kR174_3, kR174_4, kL175, kA175, kS175, kL176, kA176, kS176, kL177, kA177, kS177, kL178, kA178, kS178, kL179, kC180, kG180, kP180, kL181, kL182, kA182, kS182, kC183, kG183, kP183, kR183_1, kR183_3, kR183_5, kR183_6, kR183_7, kR183_8, kR183_9, kR183_21, kR183_26, kR183_27, kR183_30, kR183_31, kR183_33, kR183_34, kR183_36, kR183_37, kR183_38, kR183_39, kR183_40, kR183_41, kR183_42, kR183_43, kR183_44, kL184, kA184, kS184, kL185, kA185, kS185, kL186, kA186, kS186, kL187, kA187, kS187, kL188, kA188, kS188, kL189, kL190, kL191, kA191, kS191, kL192, kA192, kS192, kL193, kA193, kS193, kL194, kA194, kS194, kL195, kA195, kS195, kL196, kA196, kS196, kL197, kA197, kS197, kL198, kA198, kS198, kL199, kA199, kS199, kL200, kA200, kS200, kL201, kL202, kA202, kS202, kL203, kA203, kS203, kL204, kA204, kS204, kL205, kL206, kA206, kS206, h4, k]
  rw [nI_succ]
theorem tkInt (hS : Shp σ) (hC : CT J b m T) {c : Nat} (hc : c < T) (hk : tKd b m c = 2) (h4 : J 2 4 = nI c) : f_X1_takeInt (xw σ J) 2 = some (nI (tNu b m c), xw σ (xup J 2 4 (nI (c + 1)))) := by
  have k := numAt_ok (σ := σ) hS hC hc hk
  unfold f_X1_takeInt
  simp (disch := first | assumption | omega) only [Option.bind_some, Option.map_some, xw_gR, xw_gN, xw_al, xw_ck, xw_uI, xw_ur, xup_at, xur_at, if_true, if_false, reduceIte, and_true, true_and, and_false, false_and, not_true_eq_false, not_false_eq_true, Nat.reduceEqDiff, eq_self, Nat.reduceAdd, Nat.reduceMul, kC1, kG1, kP1, kR1_0, kR1_1, kR1_2, kR1_3, kR1_4, kR1_5, kR1_6, kR1_7, kR1_8, kR1_9, kR1_10, kR1_11, kR1_12, kR1_13, kC2, kG2, kP2, kR2_0, kR2_1, kC3, kG3, kP3, kR3_0, kR3_1, kR3_2, kR3_3, kL4, kA4, kS4, kL5, kA5, kS5, kL6, kA6, kS6, kL7, kA7, kS7, kC8, kG8, kP8, kR8_0, kR8_1, kL9, kA9, kS9, kL10, kA10, kS10, kC11, kG11, kP11, kR11_0, kR11_1, kR11_2, kR11_3, kL12, kA12, kS12, kL13, kA13, kS13, kL14, kA14, kS14, kL15, kA15, kS15, kC16, kG16, kP16, kR16_0, kR16_1, kL17, kA17, kS17, kL18, kA18, kS18, kC19, kG19, kP19, kR19_0, kL20, kL141, kL146, kA146, kS146, kL151, kA151, kS151, kL156, kA156, kS156, kC157, kG157, kP157, kR157_0, kR157_1, kL158, kA158, kS158, kL159, kA159, kS159, kC161, kG161, kP161, kR161_0, kR161_1, kL162, kA162, kS162, kL163, kA163, kS163, kC165, kG165, kP165, kR165_0, kR165_1, kR165_2, kR165_3, kL166, kA166, kS166, kL167, kA167, kS167, kL168, kA168, kS168, kL169, kA169, kS169, kC170, kG170, kP170, kR170_0, kR170_1, kR170_2, kL171, kA171, kS171, kL172, kA172, kS172, kL173, kA173, kS173, kC174, kG174, kP174, kR174_0, kR174_1, kR174_2, kR174_3, kR174_4, kL175, kA175, kS175, kL176, kA176, kS176, kL177, kA177, kS177, kL178, kA178, kS178, kL179, kC180, kG180, kP180, kL181, kL182, kA182, kS182, kC183, kG183, kP183, kR183_1, kR183_3, kR183_5, kR183_6, kR183_7, kR183_8, kR183_9, kR183_21, kR183_26, kR183_27, kR183_30, kR183_31, kR183_33, kR183_34, kR183_36, kR183_37, kR183_38, kR183_39, kR183_40, kR183_41, kR183_42, kR183_43, kR183_44, kL184, kA184, kS184, kL185, kA185, kS185, kL186, kA186, kS186, kL187, kA187, kS187, kL188, kA188, kS188, kL189, kL190, kL191, kA191, kS191, kL192, kA192, kS192, kL193, kA193, kS193, kL194, kA194, kS194, kL195, kA195, kS195, kL196, kA196, kS196, kL197, kA197, kS197, kL198, kA198, kS198, kL199, kA199, kS199, kL200, kA200, kS200, kL201, kL202, kA202, kS202, kL203, kA203, kS203, kL204, kA204, kS204, kL205, kL206, kA206, kS206, h4, k]
  rw [nI_succ]
theorem blame_0 (hS : Shp σ) (h : J 2 2 = 0) (x y : Int32) : f_X1_blame (xw σ J) 2 x y = some (xw σ (xup (xup J 2 2 x) 2 3 y)) := by
  unfold f_X1_blame
  simp (disch := first | assumption | omega) only [Option.bind_some, Option.map_some, xw_gR, xw_gN, xw_al, xw_ck, xw_uI, xw_ur, xup_at, xur_at, if_true, if_false, reduceIte, and_true, true_and, and_false, false_and, not_true_eq_false, not_false_eq_true, Nat.reduceEqDiff, eq_self, Nat.reduceAdd, Nat.reduceMul, kC1, kG1, kP1, kR1_0, kR1_1, kR1_2, kR1_3, kR1_4, kR1_5, kR1_6, kR1_7, kR1_8, kR1_9, kR1_10, kR1_11, kR1_12, kR1_13, kC2, kG2, kP2, kR2_0, kR2_1, kC3, kG3, kP3, kR3_0, kR3_1, kR3_2, kR3_3, kL4, kA4, kS4, kL5, kA5, kS5, kL6, kA6, kS6, kL7, kA7, kS7, kC8, kG8, kP8, kR8_0, kR8_1, kL9, kA9, kS9, kL10, kA10, kS10, kC11, kG11, kP11, kR11_0, kR11_1, kR11_2, kR11_3, kL12, kA12, kS12, kL13, kA13, kS13, kL14, kA14, kS14, kL15, kA15, kS15, kC16, kG16, kP16, kR16_0, kR16_1, kL17, kA17, kS17, kL18, kA18, kS18, kC19, kG19, kP19, kR19_0, kL20, kL141, kL146, kA146, kS146, kL151, kA151, kS151, kL156, kA156, kS156, kC157, kG157, kP157, kR157_0, kR157_1, kL158, kA158, kS158, kL159, kA159, kS159, kC161, kG161, kP161, kR161_0, kR161_1, kL162, kA162, kS162, kL163, kA163, kS163, kC165, kG165, kP165, kR165_0, kR165_1, kR165_2, kR165_3, kL166, kA166, kS166, kL167, kA167, kS167, kL168, kA168, kS168, kL169, kA169, kS169, kC170, kG170, kP170, kR170_0, kR170_1, kR170_2, kL171, kA171, kS171, kL172, kA172, kS172, kL173, kA173, kS173, kC174, kG174, kP174, kR174_0, kR174_1, kR174_2, kR174_3, kR174_4, kL175, kA175, kS175, kL176, kA176, kS176, kL177, kA177, kS177, kL178, kA178, kS178, kL179, kC180, kG180, kP180, kL181, kL182, kA182, kS182, kC183, kG183, kP183, kR183_1, kR183_3, kR183_5, kR183_6, kR183_7, kR183_8, kR183_9, kR183_21, kR183_26, kR183_27, kR183_30, kR183_31, kR183_33, kR183_34, kR183_36, kR183_37, kR183_38, kR183_39, kR183_40, kR183_41, kR183_42, kR183_43, kR183_44, kL184, kA184, kS184, kL185, kA185, kS185, kL186, kA186, kS186, kL187, kA187, kS187, kL188, kA188, kS188, kL189, kL190, kL191, kA191, kS191, kL192, kA192, kS192, kL193, kA193, kS193, kL194, kA194, kS194, kL195, kA195, kS195, kL196, kA196, kS196, kL197, kA197, kS197, kL198, kA198, kS198, kL199, kA199, kS199, kL200, kA200, kS200, kL201, kL202, kA202, kS202, kL203, kA203, kS203, kL204, kA204, kS204, kL205, kL206, kA206, kS206, h]
theorem blame_1 (hS : Shp σ) (h : J 2 2 ≠ 0) (x y : Int32) : f_X1_blame (xw σ J) 2 x y = some (xw σ J) := by
  unfold f_X1_blame
  simp (disch := first | assumption | omega) only [Option.bind_some, Option.map_some, xw_gR, xw_gN, xw_al, xw_ck, xw_uI, xw_ur, xup_at, xur_at, if_true, if_false, reduceIte, and_true, true_and, and_false, false_and, not_true_eq_false, not_false_eq_true, Nat.reduceEqDiff, eq_self, Nat.reduceAdd, Nat.reduceMul, kC1, kG1, kP1, kR1_0, kR1_1, kR1_2, kR1_3, kR1_4, kR1_5, kR1_6, kR1_7, kR1_8, kR1_9, kR1_10, kR1_11, kR1_12, kR1_13, kC2, kG2, kP2, kR2_0, kR2_1, kC3, kG3, kP3, kR3_0, kR3_1, kR3_2, kR3_3, kL4, kA4, kS4, kL5, kA5, kS5, kL6, kA6, kS6, kL7, kA7, kS7, kC8, kG8, kP8, kR8_0, kR8_1, kL9, kA9, kS9, kL10, kA10, kS10, kC11, kG11, kP11, kR11_0, kR11_1, kR11_2, kR11_3, kL12, kA12, kS12, kL13, kA13, kS13, kL14, kA14, kS14, kL15, kA15, kS15, kC16, kG16, kP16, kR16_0, kR16_1, kL17, kA17, kS17, kL18, kA18, kS18, kC19, kG19, kP19, kR19_0, kL20, kL141, kL146, kA146, kS146, kL151, kA151, kS151, kL156, kA156, kS156, kC157, kG157, kP157, kR157_0, kR157_1, kL158, kA158, kS158, kL159, kA159, kS159, kC161, kG161, kP161, kR161_0, kR161_1, kL162, kA162, kS162, kL163, kA163, kS163, kC165, kG165, kP165, kR165_0, kR165_1, kR165_2, kR165_3, kL166, kA166, kS166, kL167, kA167, kS167, kL168, kA168, kS168, kL169, kA169, kS169, kC170, kG170, kP170, kR170_0, kR170_1, kR170_2, kL171, kA171, kS171, kL172, kA172, kS172, kL173, kA173, kS173, kC174, kG174, kP174, kR174_0, kR174_1, kR174_2, kR174_3, kR174_4, kL175, kA175, kS175, kL176, kA176, kS176, kL177, kA177, kS177, kL178, kA178, kS178, kL179, kC180, kG180, kP180, kL181, kL182, kA182, kS182, kC183, kG183, kP183, kR183_1, kR183_3, kR183_5, kR183_6, kR183_7, kR183_8, kR183_9, kR183_21, kR183_26, kR183_27, kR183_30, kR183_31, kR183_33, kR183_34, kR183_36, kR183_37, kR183_38, kR183_39, kR183_40, kR183_41, kR183_42, kR183_43, kR183_44, kL184, kA184, kS184, kL185, kA185, kS185, kL186, kA186, kS186, kL187, kA187, kS187, kL188, kA188, kS188, kL189, kL190, kL191, kA191, kS191, kL192, kA192, kS192, kL193, kA193, kS193, kL194, kA194, kS194, kL195, kA195, kS195, kL196, kA196, kS196, kL197, kA197, kS197, kL198, kA198, kS198, kL199, kA199, kS199, kL200, kA200, kS200, kL201, kL202, kA202, kS202, kL203, kA203, kS203, kL204, kA204, kS204, kL205, kL206, kA206, kS206, h]
/-- the fault of a draft behind one more blame -/
def blI (J : Nat → Nat → Int32) (bad : Bool) (x y : Int32) : Nat → Nat → Int32 := if bad = true ∧ J 2 2 = 0 then xup (xup J 2 2 x) 2 3 y else J
theorem blI_out {bad : Bool} {x y : Int32} {a q : Nat} (h : ¬ (a = 2 ∧ (q = 2 ∨ q = 3))) : blI J bad x y a q = J a q := by
  unfold blI
  split
  · rw [xup_at, if_neg (by omega), xup_at, if_neg (by omega)]
  · rfl
theorem blI_f {x y : Int32} : blI J false x y = J := by
  unfold blI
  rw [if_neg (fun z => by cases z.1)]
theorem blI_n {bad : Bool} {x y : Int32} (h : J 2 2 ≠ 0) : blI J bad x y = J := by
  unfold blI
  rw [if_neg (fun z => h z.2)]
theorem blI_t {x y : Int32} (h : J 2 2 = 0) : blI J true x y = xup (xup J 2 2 x) 2 3 y := by
  unfold blI
  rw [if_pos ⟨rfl, h⟩]
theorem blame_b (hS : Shp σ) (x y : Int32) : f_X1_blame (xw σ J) 2 x y = some (xw σ (blI J true x y)) := by
  by_cases h : J 2 2 = 0
  · rw [blI_t h]; exact blame_0 hS h x y
  · rw [blI_n h]; exact blame_1 hS h x y
theorem takeJ_ok (hS : Shp σ) (hC : CT J b m T) {c : Nat} (hJ : isJt b m c) (hc : c + jlT b m c ≤ T) (h4 : J 2 4 = nI c) : f_X1_takeJ (xw σ J) 2 = some (iI (jvT b m c), xw σ (blI (xup J 2 4 (nI (c + jlT b m c))) (decide (3 < tNu b m (jnT b m c))) 3 (nI (tSt b m (jnT b m c))))) := by
  have hT := hC.1.2.1
  -- from the number on
  have num : ∀ (J1 : Nat → Nat → Int32) (p : Nat) (x : Int32), CT J1 b m T → J1 2 4 = nI p → p < T → tKd b m p = 2 → f_X1_takeJ_j30 (xw σ J1) 2 x = some (if x = 0 then nI (tNu b m p) else -nI (tNu b m p), xw σ (blI (xup J1 2 4 (nI (p + 1))) (decide (3 < tNu b m p)) 3 (nI (tSt b m p)))) := by
    intro J1 p x hC1 h41 hp hk
    have hv := tNu_b hk
    have ti := tkInt (σ := σ) hS hC1 hp hk h41
    have hC2 : CT (xup J1 2 4 (nI (p + 1))) b m T := CT_c (fun a q h1 _ _ _ => by rw [xup_at, if_neg (by omega)]) hC1
    have pl := plAt_ok (σ := σ) hS hC2 hp
    have u4 : xup J1 2 4 (nI (p + 1)) 2 4 = nI (p + 1) := by rw [xup_at, if_pos ⟨rfl, rfl⟩]
    have q3 : (nI (tNu b m p) ≤ (3 : Int32)) = (tNu b m p ≤ 3) := by rw [show (3 : Int32) = nI 3 from rfl, nn_le (by omega) (by omega)]
    have e1 : nI (p + 1) - (1 : Int32) = nI p := by rw [show (1 : Int32) = nI 1 from rfl, nn_sub (by omega), Nat.add_sub_cancel]
    have j58 : ∀ J2, f_X1_takeJ_j58 (xw σ J2) x (nI (tNu b m p)) = some (if x = 0 then nI (tNu b m p) else -nI (tNu b m p), xw σ J2) := fun J2 => by
      unfold f_X1_takeJ_j58
      by_cases z : x = 0
      · rw [if_pos z, if_pos z]
      · rw [if_neg z, if_neg z]
    unfold f_X1_takeJ_j30
    rw [xw_ck, kC2 hS, Option.bind_some, ti, Option.bind_some]
    dsimp only
    simp only [q3]
    by_cases hle : tNu b m p ≤ 3
    · rw [if_pos hle, j58, decide_eq_false (by omega), blI_f]
    · rw [if_neg hle, decide_eq_true (by omega)]
      rw [xw_gR, kR2_0 hS, Option.bind_some, kG2 hS, Option.bind_some, u4, e1, xw_ck, kC3 hS, Option.bind_some, pl, Option.bind_some, xw_ck, kC2 hS, Option.bind_some, blame_b hS, Option.bind_some, j58]
  have k := kindAt_ok (σ := σ) hS hC (show c ≤ T by omega)
  unfold f_X1_takeJ
  rw [xw_gR, kR2_0 hS, Option.bind_some, kG2 hS, Option.bind_some, h4, xw_ck, kC3 hS, Option.bind_some, k, Option.bind_some]
  have q3 : (nI (tKd b m c) = (3 : Int32)) = (tKd b m c = 3) := nn_eq (b := 3) (by have := tKd_b (b := b) (m := m) c; omega) (by decide)
  simp only [q3]
  rcases hJ with ⟨a1, a2⟩ | a1
  · have ejl : jlT b m c = 2 := by unfold jlT; rw [if_pos a1]
    have ejn : jnT b m c = c + 1 := by unfold jnT; rw [if_pos a1]
    have ejv : jvT b m c = -(tNu b m (c + 1) : Int) := by unfold jvT; rw [if_pos a1]
    rw [if_pos a1, ejl, ejn, ejv]
    unfold f_X1_takeJ_j20
    rw [if_neg (by decide), xw_ck, kC2 hS, Option.bind_some, tkKind hS hC (by omega) h4, Option.bind_some]
    dsimp only
    rw [num _ (c + 1) 1 (CT_c (fun a q h1 _ _ _ => by rw [xup_at, if_neg (by omega)]) hC) (by rw [xup_at, if_pos ⟨rfl, rfl⟩]) (by omega) a2, if_neg (by decide), xup2, iI_n, iI_neg]
  · have n3 : ¬ tKd b m c = 3 := by omega
    have ejl : jlT b m c = 1 := by unfold jlT; rw [if_neg n3]
    have ejn : jnT b m c = c := by unfold jnT; rw [if_neg n3]
    have ejv : jvT b m c = (tNu b m c : Int) := by unfold jvT; rw [if_neg n3]
    rw [if_neg n3, ejl, ejn, ejv]
    unfold f_X1_takeJ_j20
    rw [if_pos rfl, num J c 0 hC h4 (by omega) a1, if_pos rfl, iI_n]
theorem takeSite_ok (hS : Shp σ) (hC : CT J b m T) {c w l : Nat} (hc : c < T) (hk : tKd b m c = 2) (h4 : J 2 4 = nI c) (h5 : J 2 5 = nI w) (h6 : J 2 6 = nI l) (hwl : w * l < 2147483648) : f_X1_takeSite (xw σ J) 2 = some (nI (tNu b m c), xw σ (blI (xup J 2 4 (nI (c + 1))) (decide (w * l ≤ tNu b m c)) 4 (nI (tSt b m c)))) := by
  have hv := tNu_b hk
  have hT := hC.1.2.1
  have ti := tkInt (σ := σ) hS hC hc hk h4
  have hC2 : CT (xup J 2 4 (nI (c + 1))) b m T := CT_c (fun a q h1 _ _ _ => by rw [xup_at, if_neg (by omega)]) hC
  have pl := plAt_ok (σ := σ) hS hC2 hc
  have u4 : xup J 2 4 (nI (c + 1)) 2 4 = nI (c + 1) := by rw [xup_at, if_pos ⟨rfl, rfl⟩]
  have u5 : xup J 2 4 (nI (c + 1)) 2 5 = nI w := by rw [xup_at, if_neg (by omega)]; exact h5
  have u6 : xup J 2 4 (nI (c + 1)) 2 6 = nI l := by rw [xup_at, if_neg (by omega)]; exact h6
  have e1 : nI (c + 1) - (1 : Int32) = nI c := by rw [show (1 : Int32) = nI 1 from rfl, nn_sub (by omega), Nat.add_sub_cancel]
  have q : (nI (tNu b m c) < nI w * nI l) = (tNu b m c < w * l) := by rw [nn_mul, nn_lt (by omega) hwl]
  unfold f_X1_takeSite
  rw [xw_ck, kC2 hS, Option.bind_some, ti, Option.bind_some]
  dsimp only
  rw [kG2 hS, Option.bind_some, u5, kG2 hS, Option.bind_some, u6]
  simp only [q]
  by_cases hlt : tNu b m c < w * l
  · rw [if_pos hlt, decide_eq_false (by omega), blI_f]
  · rw [if_neg hlt, decide_eq_true (by omega), xw_gR, kR2_0 hS, Option.bind_some, kG2 hS, Option.bind_some, u4, e1, xw_ck, kC3 hS, Option.bind_some, pl, Option.bind_some, xw_ck, kC2 hS, Option.bind_some, blame_b hS, Option.bind_some]
theorem setPin8 (hS : Shp σ) {i p u : Nat} (hp : J 8 2 = nI p) (hu : J 8 3 = nI u) (hi : i < 32) (v : Int32) : f_X6_setPin (xw σ J) 8 (nI i) v = some (xw σ (xup (xup J 8 2 (nI (pN p i v))) 8 3 (nI (uN2 u i v)))) := by
  unfold f_X6_setPin f_X6_setPin_j26 pN uN2
  by_cases h0 : v = 0
  · subst h0
    simp (disch := first | assumption | omega) only [Option.bind_some, Option.map_some, xw_gR, xw_gN, xw_al, xw_ck, xw_uI, xw_ur, xup_at, xur_at, if_true, if_false, reduceIte, and_true, true_and, and_false, false_and, not_true_eq_false, not_false_eq_true, Nat.reduceEqDiff, eq_self, Nat.reduceAdd, Nat.reduceMul, kC1, kG1, kP1, kR1_0, kR1_1, kR1_2, kR1_3, kR1_4, kR1_5, kR1_6, kR1_7, kR1_8, kR1_9, kR1_10, kR1_11, kR1_12, kR1_13, kC2, kG2, kP2, kR2_0, kR2_1, kC3, kG3, kP3, kR3_0, kR3_1, kR3_2, kR3_3, kL4, kA4, kS4, kL5, kA5, kS5, kL6, kA6, kS6, kL7, kA7, kS7, kC8, kG8, kP8, kR8_0, kR8_1, kL9, kA9, kS9, kL10, kA10, kS10, kC11, kG11, kP11, kR11_0, kR11_1, kR11_2, kR11_3, kL12, kA12, kS12, kL13, kA13, kS13, kL14, kA14, kS14, kL15, kA15, kS15, kC16, kG16, kP16, kR16_0, kR16_1, kL17, kA17, kS17, kL18, kA18, kS18, kC19, kG19, kP19, kR19_0, kL20, kL141, kL146, kA146, kS146, kL151, kA151, kS151, kL156, kA156, kS156, kC157, kG157, kP157, kR157_0, kR157_1, kL158, kA158, kS158, kL159, kA159, kS159, kC161, kG161, kP161, kR161_0, kR161_1, kL162, kA162, kS162, kL163, kA163, kS163, kC165, kG165, kP165, kR165_0, kR165_1, kR165_2, kR165_3, kL166, kA166, kS166, kL167, kA167, kS167, kL168, kA168, kS168, kL169, kA169, kS169, kC170, kG170, kP170, kR170_0, kR170_1, kR170_2, kL171, kA171, kS171, kL172, kA172, kS172, kL173, kA173, kS173, kC174, kG174, kP174, kR174_0, kR174_1, kR174_2, kR174_3, kR174_4, kL175, kA175, kS175, kL176, kA176, kS176, kL177, kA177, kS177, kL178, kA178, kS178, kL179, kC180, kG180, kP180, kL181, kL182, kA182, kS182, kC183, kG183, kP183, kR183_1, kR183_3, kR183_5, kR183_6, kR183_7, kR183_8, kR183_9, kR183_21, kR183_26, kR183_27, kR183_30, kR183_31, kR183_33, kR183_34, kR183_36, kR183_37, kR183_38, kR183_39, kR183_40, kR183_41, kR183_42, kR183_43, kR183_44, kL184, kA184, kS184, kL185, kA185, kS185, kL186, kA186, kS186, kL187, kA187, kS187, kL188, kA188, kS188, kL189, kL190, kL191, kA191, kS191, kL192, kA192, kS192, kL193, kA193, kS193, kL194, kA194, kS194, kL195, kA195, kS195, kL196, kA196, kS196, kL197, kA197, kS197, kL198, kA198, kS198, kL199, kA199, kS199, kL200, kA200, kS200, kL201, kL202, kA202, kS202, kL203, kA203, kS203, kL204, kA204, kS204, kL205, kL206, kA206, kS206, hp, hu, nn_one, nn_andn, show ((0 : Int32) = 1) = False from eq_false (by decide)]
  · by_cases h1 : v = 1
    · subst h1
      simp (disch := first | assumption | omega) only [Option.bind_some, Option.map_some, xw_gR, xw_gN, xw_al, xw_ck, xw_uI, xw_ur, xup_at, xur_at, if_true, if_false, reduceIte, and_true, true_and, and_false, false_and, not_true_eq_false, not_false_eq_true, Nat.reduceEqDiff, eq_self, Nat.reduceAdd, Nat.reduceMul, kC1, kG1, kP1, kR1_0, kR1_1, kR1_2, kR1_3, kR1_4, kR1_5, kR1_6, kR1_7, kR1_8, kR1_9, kR1_10, kR1_11, kR1_12, kR1_13, kC2, kG2, kP2, kR2_0, kR2_1, kC3, kG3, kP3, kR3_0, kR3_1, kR3_2, kR3_3, kL4, kA4, kS4, kL5, kA5, kS5, kL6, kA6, kS6, kL7, kA7, kS7, kC8, kG8, kP8, kR8_0, kR8_1, kL9, kA9, kS9, kL10, kA10, kS10, kC11, kG11, kP11, kR11_0, kR11_1, kR11_2, kR11_3, kL12, kA12, kS12, kL13, kA13, kS13, kL14, kA14, kS14, kL15, kA15, kS15, kC16, kG16, kP16, kR16_0, kR16_1, kL17, kA17, kS17, kL18, kA18, kS18, kC19, kG19, kP19, kR19_0, kL20, kL141, kL146, kA146, kS146, kL151, kA151, kS151, kL156, kA156, kS156, kC157, kG157, kP157, kR157_0, kR157_1, kL158, kA158, kS158, kL159, kA159, kS159, kC161, kG161, kP161, kR161_0, kR161_1, kL162, kA162, kS162, kL163, kA163, kS163, kC165, kG165, kP165, kR165_0, kR165_1, kR165_2, kR165_3, kL166, kA166, kS166, kL167, kA167, kS167, kL168, kA168, kS168, kL169, kA169, kS169, kC170, kG170, kP170, kR170_0, kR170_1, kR170_2, kL171, kA171, kS171, kL172, kA172, kS172, kL173, kA173, kS173, kC174, kG174, kP174, kR174_0, kR174_1, kR174_2, kR174_3, kR174_4, kL175, kA175, kS175, kL176, kA176, kS176, kL177, kA177, kS177, kL178, kA178, kS178, kL179, kC180, kG180, kP180, kL181, kL182, kA182, kS182, kC183, kG183, kP183, kR183_1, kR183_3, kR183_5, kR183_6, kR183_7, kR183_8, kR183_9, kR183_21, kR183_26, kR183_27, kR183_30, kR183_31, kR183_33, kR183_34, kR183_36, kR183_37, kR183_38, kR183_39, kR183_40, kR183_41, kR183_42, kR183_43, kR183_44, kL184, kA184, kS184, kL185, kA185, kS185, kL186, kA186, kS186, kL187, kA187, kS187, kL188, kA188, kS188, kL189, kL190, kL191, kA191, kS191, kL192, kA192, kS192, kL193, kA193, kS193, kL194, kA194, kS194, kL195, kA195, kS195, kL196, kA196, kS196, kL197, kA197, kS197, kL198, kA198, kS198, kL199, kA199, kS199, kL200, kA200, kS200, kL201, kL202, kA202, kS202, kL203, kA203, kS203, kL204, kA204, kS204, kL205, kL206, kA206, kS206, hp, hu, nn_one, fa_or, one0]
    · simp (disch := first | assumption | omega) only [Option.bind_some, Option.map_some, xw_gR, xw_gN, xw_al, xw_ck, xw_uI, xw_ur, xup_at, xur_at, if_true, if_false, reduceIte, and_true, true_and, and_false, false_and, not_true_eq_false, not_false_eq_true, Nat.reduceEqDiff, eq_self, Nat.reduceAdd, Nat.reduceMul, kC1, kG1, kP1, kR1_0, kR1_1, kR1_2, kR1_3, kR1_4, kR1_5, kR1_6, kR1_7, kR1_8, kR1_9, kR1_10, kR1_11, kR1_12, kR1_13, kC2, kG2, kP2, kR2_0, kR2_1, kC3, kG3, kP3, kR3_0, kR3_1, kR3_2, kR3_3, kL4, kA4, kS4, kL5, kA5, kS5, kL6, kA6, kS6, kL7, kA7, kS7, kC8, kG8, kP8, kR8_0, kR8_1, kL9, kA9, kS9, kL10, kA10, kS10, kC11, kG11, kP11, kR11_0, kR11_1, kR11_2, kR11_3, kL12, kA12, kS12, kL13, kA13, kS13, kL14, kA14, kS14, kL15, kA15, kS15, kC16, kG16, kP16, kR16_0, kR16_1, kL17, kA17, kS17, kL18, kA18, kS18, kC19, kG19, kP19, kR19_0, kL20, kL141, kL146, kA146, kS146, kL151, kA151, kS151, kL156, kA156, kS156, kC157, kG157, kP157, kR157_0, kR157_1, kL158, kA158, kS158, kL159, kA159, kS159, kC161, kG161, kP161, kR161_0, kR161_1, kL162, kA162, kS162, kL163, kA163, kS163, kC165, kG165, kP165, kR165_0, kR165_1, kR165_2, kR165_3, kL166, kA166, kS166, kL167, kA167, kS167, kL168, kA168, kS168, kL169, kA169, kS169, kC170, kG170, kP170, kR170_0, kR170_1, kR170_2, kL171, kA171, kS171, kL172, kA172, kS172, kL173, kA173, kS173, kC174, kG174, kP174, kR174_0, kR174_1, kR174_2, kR174_3, kR174_4, kL175, kA175, kS175, kL176, kA176, kS176, kL177, kA177, kS177, kL178, kA178, kS178, kL179, kC180, kG180, kP180, kL181, kL182, kA182, kS182, kC183, kG183, kP183, kR183_1, kR183_3, kR183_5, kR183_6, kR183_7, kR183_8, kR183_9, kR183_21, kR183_26, kR183_27, kR183_30, kR183_31, kR183_33, kR183_34, kR183_36, kR183_37, kR183_38, kR183_39, kR183_40, kR183_41, kR183_42, kR183_43, kR183_44, kL184, kA184, kS184, kL185, kA185, kS185, kL186, kA186, kS186, kL187, kA187, kS187, kL188, kA188, kS188, kL189, kL190, kL191, kA191, kS191, kL192, kA192, kS192, kL193, kA193, kS193, kL194, kA194, kS194, kL195, kA195, kS195, kL196, kA196, kS196, kL197, kA197, kS197, kL198, kA198, kS198, kL199, kA199, kS199, kL200, kA200, kS200, kL201, kL202, kA202, kS202, kL203, kA203, kS203, kL204, kA204, kS204, kL205, kL206, kA206, kS206, hp, hu, nn_one, nn_andn, fa_or, h0, h1]
end TAKE
end
section
/-! the class takes a line -/
theorem xsw6 {β : Type} {k : Nat} {as : List (Option β)} {d : Option β} (hk : k < 2147483648) : xsw (nI k) 6 as d = if k < 6 then d else as.getD (k - 6) d := by
  unfold xsw
  rw [nI_toInt hk]
  by_cases h : k < 6
  · rw [if_pos (by omega), if_pos h]
  · rw [if_neg (by omega), if_neg h, show ((k : Int) - 6).toNat = k - 6 by omega, List.getD_eq_getElem?_getD]
def DRb (J0 J : Nat → Nat → Int32) : Prop := ∀ a q, ¬ (a = 2 ∨ (8 ≤ a ∧ a ≤ 10)) → J a q = J0 a q
/-- the draft, all lines before c taken, none of them wrong -/
def DR (J0 J : Nat → Nat → Int32) (b : Nat → Int32) (m w l r c : Nat) : Prop := DRb J0 J ∧ J 2 2 = 0 ∧ J 2 3 = -1 ∧ J 2 4 = nI c ∧ (J 2 5 = nI w ∧ J 2 6 = nI l ∧ J 2 7 = nI r) ∧ (J 2 8 = iI (aLL b m 6 c) ∧ J 2 9 = iI (aLL b m 7 c) ∧ J 2 10 = iI (aLL b m 8 c)) ∧ (∀ t, t < 32 → bt (J 2 11) t = (tII b m t c).isSome ∧ J 9 t = iI ((tII b m t c).getD 0)) ∧ (∀ i, i < 16 → bt (J 2 12) i = (pUU b m i c).isSome ∧ J 10 i = iI ((pUU b m i c).getD 0)) ∧ (∃ p u, J 8 2 = nI p ∧ J 8 3 = nI u ∧ (∀ i, p.testBit i = (decide (i < 16) && decide (pII b m i c ≠ 0))) ∧ ∀ i, u.testBit i = (decide (i < 16) && decide (pII b m i c = 1))) ∧ J 8 4 = 0 ∧ J 8 5 = nI (sDD b m c)
/-- the draft with its fault -/
def DF (J0 J : Nat → Nat → Int32) (b : Nat → Int32) (m c j : Nat) : Prop := DRb J0 J ∧ J 2 2 = nI c ∧ J 2 3 = nI (tSt b m j)
section TELL
variable {σ : XS} {J0 J : Nat → Nat → Int32} {b : Nat → Int32} {m T w l r c : Nat}
theorem DR_next {J' : Nat → Nat → Int32} (hT : OKT b m T) (h4c : 4 ≤ c) (hws : ws b m c = some 4) (hc : c < T) (hD : DR J0 J b m w l r c) (hb : DRb J0 J') (h2 : J' 2 2 = 0) (h3 : J' 2 3 = -1) (h4 : J' 2 4 = nI (lnE b m c + 1)) (h5 : ∀ q, 5 ≤ q → q ≤ 7 → J' 2 q = J 2 q)
    (h8 : J' 2 8 = iI (if tKd b m c = 6 then jvT b m (c + 1) else aLL b m 6 c)) (h9 : J' 2 9 = iI (if tKd b m c = 7 then jvT b m (c + 1) else aLL b m 7 c)) (h10 : J' 2 10 = iI (if tKd b m c = 8 then jvT b m (c + 1) else aLL b m 8 c))
    (ht : ∀ t, t < 32 → bt (J' 2 11) t = (if tKd b m c = 10 ∧ tpl b m c = t then some (jvT b m (c + 3)) else tII b m t c).isSome ∧ J' 9 t = iI ((if tKd b m c = 10 ∧ tpl b m c = t then some (jvT b m (c + 3)) else tII b m t c).getD 0))
    (hu : ∀ i, i < 16 → bt (J' 2 12) i = (if tKd b m c = 11 ∧ tNu b m (c + 1) = i then some (jvT b m (c + 2)) else pUU b m i c).isSome ∧ J' 10 i = iI ((if tKd b m c = 11 ∧ tNu b m (c + 1) = i then some (jvT b m (c + 2)) else pUU b m i c).getD 0))
    (hp : ∃ p u, J' 8 2 = nI p ∧ J' 8 3 = nI u ∧ (∀ i, p.testBit i = (decide (i < 16) && decide ((if tKd b m c = 12 ∧ tNu b m (c + 1) = i then (if tKd b m (c + 2) = 13 then 1 else 2) else pII b m i c) ≠ 0))) ∧ ∀ i, u.testBit i = (decide (i < 16) && decide ((if tKd b m c = 12 ∧ tNu b m (c + 1) = i then (if tKd b m (c + 2) = 13 then 1 else 2) else pII b m i c) = 1)))
    (h84 : J' 8 4 = 0) (h85 : J' 8 5 = nI (if tKd b m c = 15 then tNu b m (c + 1) else sDD b m c)) : DR J0 J' b m w l r (lnE b m c + 1) := by
  obtain ⟨-, -, -, -, ⟨d5, d6, d7⟩, -⟩ := hD
  have eA : ∀ k, aLL b m k (lnE b m c + 1) = if tKd b m c = k then jvT b m (c + 1) else aLL b m k c := fun k => foldL_line _ _ hT h4c hws hc
  have eT : ∀ t, tII b m t (lnE b m c + 1) = if tKd b m c = 10 ∧ tpl b m c = t then some (jvT b m (c + 3)) else tII b m t c := fun t => foldL_line _ _ hT h4c hws hc
  have eU : ∀ i, pUU b m i (lnE b m c + 1) = if tKd b m c = 11 ∧ tNu b m (c + 1) = i then some (jvT b m (c + 2)) else pUU b m i c := fun i => foldL_line _ _ hT h4c hws hc
  have eP : ∀ i, pII b m i (lnE b m c + 1) = if tKd b m c = 12 ∧ tNu b m (c + 1) = i then (if tKd b m (c + 2) = 13 then 1 else 2) else pII b m i c := fun i => foldL_line _ _ hT h4c hws hc
  have eS : sDD b m (lnE b m c + 1) = if tKd b m c = 15 then tNu b m (c + 1) else sDD b m c := foldL_line _ _ hT h4c hws hc
  refine ⟨hb, h2, h3, h4, ⟨(h5 5 (by omega) (by omega)).trans d5, (h5 6 (by omega) (by omega)).trans d6, (h5 7 (by omega) (by omega)).trans d7⟩, ⟨by rw [eA]; exact h8, by rw [eA]; exact h9, by rw [eA]; exact h10⟩, fun t h => by rw [eT]; exact ht t h, fun i h => by rw [eU]; exact hu i h, ?_, h84, by rw [eS]; exact h85⟩
  obtain ⟨p, u, p1, p2, p3, p4⟩ := hp
  exact ⟨p, u, p1, p2, fun i => by rw [eP]; exact p3 i, fun i => by rw [eP]; exact p4 i⟩
theorem j133_ok (hS : Shp σ) {J1 : Nat → Nat → Int32} (hC : CT J1 b m T) {e : Nat} (he : e ≤ T) (h4 : J1 2 4 = nI e) : f_X1_takeTell_j133 (xw σ J1) 2 = some (xw σ (xup J1 2 4 (nI (e + 1)))) := by
  unfold f_X1_takeTell_j133
  rw [xw_ck, kC2 hS, Option.bind_some, tkKind hS hC he h4, Option.bind_some]
/-- no other line's things change -/
theorem DR_same {J' : Nat → Nat → Int32} (hT : OKT b m T) (h4c : 4 ≤ c) (hws : ws b m c = some 4) (hc : c < T) (hD : DR J0 J b m w l r c) (hk : tKd b m c = 6 ∨ tKd b m c = 7 ∨ tKd b m c = 8 ∨ tKd b m c = 9 ∨ tKd b m c = 15) (h4 : J' 2 4 = nI (lnE b m c + 1)) (hf : ∀ a q, ¬ (a = 2 ∧ (q = 4 ∨ q = 8 ∨ q = 9 ∨ q = 10)) → ¬ (a = 8 ∧ q = 5) → J' a q = J a q)
    (h8 : J' 2 8 = iI (if tKd b m c = 6 then jvT b m (c + 1) else aLL b m 6 c)) (h9 : J' 2 9 = iI (if tKd b m c = 7 then jvT b m (c + 1) else aLL b m 7 c)) (h10 : J' 2 10 = iI (if tKd b m c = 8 then jvT b m (c + 1) else aLL b m 8 c)) (h85 : J' 8 5 = nI (if tKd b m c = 15 then tNu b m (c + 1) else sDD b m c)) : DR J0 J' b m w l r (lnE b m c + 1) := by
  obtain ⟨d1, d2, d3, d4, d5, d6, d7, d8, d9, d10, d11⟩ := id hD
  refine DR_next hT h4c hws hc hD (fun a q h => by rw [hf a q (by omega) (by omega)]; exact d1 a q h) (by rw [hf _ _ (by omega) (by omega)]; exact d2) (by rw [hf _ _ (by omega) (by omega)]; exact d3) h4 (fun q h1 h2 => hf _ _ (by omega) (by omega)) h8 h9 h10 (fun t ht => ?_) (fun i hi => ?_) ?_ (by rw [hf _ _ (by omega) (by omega)]; exact d10) h85
  · rw [if_neg (by omega), hf _ _ (by omega) (by omega), hf 9 t (by omega) (by omega)]; exact d7 t ht
  · rw [if_neg (by omega), hf _ _ (by omega) (by omega), hf 10 i (by omega) (by omega)]; exact d8 i hi
  · obtain ⟨p, u, p1, p2, p3, p4⟩ := d9
    refine ⟨p, u, by rw [hf _ _ (by omega) (by omega)]; exact p1, by rw [hf _ _ (by omega) (by omega)]; exact p2, fun i => ?_, fun i => ?_⟩
    · rw [if_neg (by omega)]; exact p3 i
    · rw [if_neg (by omega)]; exact p4 i
theorem tell1 (hS : Shp σ) (hC : CT J0 b m T) (h4c : 4 ≤ c) (hws : ws b m c = some 4) (hc : c < T) (hD : DR J0 J b m w l r c) (hL : LN1 b m c) : ∃ J', f_X1_takeTell (xw σ J) 2 = some (xw σ J') ∧ (linF b m w l r c = none → DR J0 J' b m w l r (lnE b m c + 1)) ∧ ∀ x j, linF b m w l r c = some (x, j) → DF J0 J' b m x j := by
  obtain ⟨d1, d2, d3, d4, d5, d6, d7, d8, d9, d10, d11⟩ := id hD
  obtain ⟨hk, hJ⟩ := hL
  have hT := hC.1
  have hend := (line_at hT hws hc).2.2.2.1
  have hE : lnE b m c = c + 1 + jlT b m (c + 1) := by
    unfold lnE
    rw [if_neg (by omega), if_neg (by omega), if_neg (by omega), if_neg (by omega)]
  have T4 := hT.2.1
  have hCJ : CT J b m T := CT_c (fun a q h1 h2 h3 h4 => d1 a q (by omega)) hC
  obtain ⟨J1, hJ1⟩ : ∃ J1, J1 = xup J 2 4 (nI (c + 1)) := ⟨_, rfl⟩
  have hC1 : CT J1 b m T := CT_c (fun a q h1 _ _ _ => by rw [hJ1, xup_at, if_neg (by omega)]) hCJ
  have tk := tkKind (σ := σ) hS hCJ (show c ≤ T by omega) d4
  rw [← hJ1] at tk
  have tj := takeJ_ok (σ := σ) (J := J1) hS hC1 hJ (by omega) (by rw [hJ1, xup_at, if_pos ⟨rfl, rfl⟩])
  obtain ⟨J2, hJ2⟩ : ∃ J2, J2 = blI (xup J1 2 4 (nI (c + 1 + jlT b m (c + 1)))) (decide (3 < tNu b m (jnT b m (c + 1)))) 3 (nI (tSt b m (jnT b m (c + 1)))) := ⟨_, rfl⟩
  rw [← hJ2] at tj
  have u2 : ∀ a q, ¬ (a = 2 ∧ (q = 2 ∨ q = 3)) → ¬ (a = 2 ∧ q = 4) → J2 a q = J a q := fun a q h1 h2 => by rw [hJ2, blI_out h1, xup_at, if_neg h2, hJ1, xup_at, if_neg h2]
  have c2 : J2 2 4 = nI (lnE b m c) := by rw [hJ2, blI_out (by omega), xup_at, if_pos ⟨rfl, rfl⟩, hE]
  -- the field that takes the J
  obtain ⟨f, hf⟩ : ∃ f, f = tKd b m c + 2 := ⟨_, rfl⟩
  have hCf : CT (xup J2 2 f (iI (jvT b m (c + 1)))) b m T := CT_c (fun a q h1 h2 h3 h4 => by rw [xup_at, if_neg (by omega)]; exact u2 a q (by omega) (by omega)) hCJ
  have jo := j133_ok (σ := σ) (J1 := xup J2 2 f (iI (jvT b m (c + 1)))) hS hCf (show lnE b m c ≤ T by omega) (by rw [xup_at, if_neg (by omega)]; exact c2)
  refine ⟨xup (xup J2 2 f (iI (jvT b m (c + 1)))) 2 4 (nI (lnE b m c + 1)), ?_, fun hno => ?_, fun x j hx1 => ?_⟩
  rotate_left
  · -- nothing wrong
    show DR J0 (xup (xup J2 2 f (iI (jvT b m (c + 1)))) 2 4 (nI (lnE b m c + 1))) b m w l r (lnE b m c + 1)
    have hle : ¬ 3 < tNu b m (jnT b m (c + 1)) := fun z => by
      unfold linF at hno
      rw [if_pos hk, if_pos z] at hno; cases hno
    have e2 : J2 = xup J1 2 4 (nI (c + 1 + jlT b m (c + 1))) := by rw [hJ2, decide_eq_false hle, blI_f]
    have v2 : ∀ a q, ¬ (a = 2 ∧ q = 4) → J2 a q = J a q := fun a q h => by rw [e2, xup_at, if_neg h, hJ1, xup_at, if_neg h]
    have ff : ∀ q, 8 ≤ q → q ≤ 10 → xup (xup J2 2 f (iI (jvT b m (c + 1)))) 2 4 (nI (lnE b m c + 1)) 2 q = if q = f then iI (jvT b m (c + 1)) else J 2 q := fun q h1 h2 => by
      rw [xup_at, if_neg (by omega), xup_at]
      by_cases z : q = f
      · rw [if_pos ⟨rfl, z⟩, if_pos z]
      · rw [if_neg (by omega), if_neg z]; exact v2 _ _ (by omega)
    refine DR_same hT h4c hws hc hD (by omega) (by rw [xup_at, if_pos ⟨rfl, rfl⟩]) (fun a q h1 h2 => by rw [xup_at, if_neg (by omega), xup_at, if_neg (by omega)]; exact v2 a q (by omega)) ?_ ?_ ?_ ?_
    · rw [ff 8 (by omega) (by omega)]
      by_cases z : tKd b m c = 6
      · rw [if_pos (by omega), if_pos z]
      · rw [if_neg (by omega), if_neg z]; exact d6.1
    · rw [ff 9 (by omega) (by omega)]
      by_cases z : tKd b m c = 7
      · rw [if_pos (by omega), if_pos z]
      · rw [if_neg (by omega), if_neg z]; exact d6.2.1
    · rw [ff 10 (by omega) (by omega)]
      by_cases z : tKd b m c = 8
      · rw [if_pos (by omega), if_pos z]
      · rw [if_neg (by omega), if_neg z]; exact d6.2.2
    · rw [if_neg (by omega), xup_at, if_neg (by omega), xup_at, if_neg (by omega), v2 _ _ (by omega)]; exact d11
  · -- too large a J
    show DF J0 (xup (xup J2 2 f (iI (jvT b m (c + 1)))) 2 4 (nI (lnE b m c + 1))) b m x j
    unfold linF at hx1
    rw [if_pos hk] at hx1
    split at hx1
    · next q =>
      cases hx1
      have j0 : xup J1 2 4 (nI (c + 1 + jlT b m (c + 1))) 2 2 = 0 := by rw [xup_at, if_neg (by omega), hJ1, xup_at, if_neg (by omega)]; exact d2
      have e2 := blI_t (J := xup J1 2 4 (nI (c + 1 + jlT b m (c + 1)))) (x := 3) (y := nI (tSt b m (jnT b m (c + 1)))) j0
      rw [decide_eq_true q] at hJ2
      refine ⟨fun a p h => ?_, ?_, ?_⟩
      · rw [xup_at, if_neg (by omega), xup_at, if_neg (by omega), u2 a p (by omega) (by omega)]; exact d1 a p h
      · rw [xup_at, if_neg (by omega), xup_at, if_neg (by omega), hJ2, e2, xup_at, if_neg (by omega), xup_at, if_pos ⟨rfl, rfl⟩]; rfl
      · rw [xup_at, if_neg (by omega), xup_at, if_neg (by omega), hJ2, e2, xup_at, if_pos ⟨rfl, rfl⟩]
    · cases hx1
  · unfold f_X1_takeTell
    rw [xw_ck, kC2 hS, Option.bind_some, tk, Option.bind_some]
    dsimp only
    rw [xsw6 (by have := tKd_b (b := b) (m := m) c; omega), if_neg (by omega)]
    have body : ∀ q, q = f → ((xck (xw σ J1) 2 1).bind fun _ => (f_X1_takeJ (xw σ J1) 2).bind fun (v8, σ7) => (xpI σ7 2 1 q v8).bind fun σ10 => f_X1_takeTell_j133 σ10 2) = some (xw σ (xup (xup J2 2 f (iI (jvT b m (c + 1)))) 2 4 (nI (lnE b m c + 1)))) := by
      rintro q rfl
      rw [xw_ck, kC2 hS, Option.bind_some, tj, Option.bind_some]
      dsimp only
      rw [kP2 hS, Option.bind_some, jo]
    rcases hk with z | z | z
    · rw [z]; exact body 8 (by omega)
    · rw [z]; exact body 9 (by omega)
    · rw [z]; exact body 10 (by omega)
end TELL
end
section
/-! the other lines -/
section TELL2
variable {σ : XS} {J0 J : Nat → Nat → Int32} {b : Nat → Int32} {m T w l r c : Nat}
theorem tell2 (hS : Shp σ) (hC : CT J0 b m T) (h4c : 4 ≤ c) (hws : ws b m c = some 4) (hc : c < T) (hD : DR J0 J b m w l r c) (hL : LN2 b m c) : ∃ J', f_X1_takeTell (xw σ J) 2 = some (xw σ J') ∧ DR J0 J' b m w l r (lnE b m c + 1) ∧ linF b m w l r c = none := by
  obtain ⟨d1, d2, d3, d4, d5, d6, d7, d8, d9, d10, d11⟩ := id hD
  obtain ⟨hk, -⟩ := hL
  have hT := hC.1
  have hend := (line_at hT hws hc).2.2.2.1
  have hE : lnE b m c = c + 2 := by unfold lnE; rw [if_pos (by omega)]
  have T4 := hT.2.1
  have hCJ : CT J b m T := CT_c (fun a q h1 h2 h3 h4 => d1 a q (by omega)) hC
  have hC1 : ∀ v, CT (xup J 2 4 v) b m T := fun v => CT_c (fun a q h1 _ _ _ => by rw [xup_at, if_neg (by omega)]) hCJ
  have tk := tkKind (σ := σ) hS hCJ (show c ≤ T by omega) d4
  have tk2 := tkKind (σ := σ) hS (hC1 (nI (c + 1))) (show c + 1 ≤ T by omega) (by rw [xup_at, if_pos ⟨rfl, rfl⟩])
  rw [xup2] at tk2
  have jo := j133_ok (σ := σ) hS (hC1 (nI (c + 1 + 1))) (e := c + 2) (by omega) (by rw [xup_at, if_pos ⟨rfl, rfl⟩])
  rw [xup2] at jo
  refine ⟨xup J 2 4 (nI (c + 2 + 1)), ?_, ?_, ?_⟩
  · unfold f_X1_takeTell
    rw [xw_ck, kC2 hS, Option.bind_some, tk, Option.bind_some]
    dsimp only
    rw [xsw6 (by have := tKd_b (b := b) (m := m) c; omega), if_neg (by omega), hk]
    show ((xck (xw σ (xup J 2 4 (nI (c + 1)))) 2 1).bind fun _ => (f_X1_takeKind (xw σ (xup J 2 4 (nI (c + 1)))) 2).bind fun (v8, σ7) => f_X1_takeTell_j133 σ7 2) = _
    rw [xw_ck, kC2 hS, Option.bind_some, tk2, Option.bind_some]
    exact jo
  · refine DR_same hT h4c hws hc hD (by omega) (by rw [xup_at, if_pos ⟨rfl, rfl⟩, hE]) (fun a q h1 h2 => by rw [xup_at, if_neg (by omega)]) ?_ ?_ ?_ ?_
    · rw [if_neg (by omega), xup_at, if_neg (by omega)]; exact d6.1
    · rw [if_neg (by omega), xup_at, if_neg (by omega)]; exact d6.2.1
    · rw [if_neg (by omega), xup_at, if_neg (by omega)]; exact d6.2.2
    · rw [if_neg (by omega), xup_at, if_neg (by omega)]; exact d11
  · unfold linF
    rw [if_neg (by omega), if_neg (by omega), if_neg (by omega), if_neg (by omega)]
theorem tell6 (hS : Shp σ) (hC : CT J0 b m T) (h4c : 4 ≤ c) (hws : ws b m c = some 4) (hc : c < T) (hD : DR J0 J b m w l r c) (hL : LN6 b m c) : ∃ J', f_X1_takeTell (xw σ J) 2 = some (xw σ J') ∧ DR J0 J' b m w l r (lnE b m c + 1) ∧ linF b m w l r c = none := by
  obtain ⟨d1, d2, d3, d4, d5, d6, d7, d8, d9, d10, d11⟩ := id hD
  obtain ⟨hk, hk1⟩ := hL
  have hT := hC.1
  have hend := (line_at hT hws hc).2.2.2.1
  have hE : lnE b m c = c + 2 := by unfold lnE; rw [if_pos (by omega)]
  have T4 := hT.2.1
  have hCJ : CT J b m T := CT_c (fun a q h1 h2 h3 h4 => d1 a q (by omega)) hC
  have hC1 : ∀ v, CT (xup J 2 4 v) b m T := fun v => CT_c (fun a q h1 _ _ _ => by rw [xup_at, if_neg (by omega)]) hCJ
  have tk := tkKind (σ := σ) hS hCJ (show c ≤ T by omega) d4
  have tk2 := tkInt (σ := σ) hS (hC1 (nI (c + 1))) (show c + 1 < T by omega) hk1 (by rw [xup_at, if_pos ⟨rfl, rfl⟩])
  rw [xup2] at tk2
  have hC2 : CT (xup (xup J 2 4 (nI (c + 1 + 1))) 8 5 (nI (tNu b m (c + 1)))) b m T := CT_c (fun a q h1 h2 h3 h4 => by rw [xup_at, if_neg (by omega), xup_at, if_neg (by omega)]) hCJ
  have jo := j133_ok (σ := σ) hS hC2 (e := c + 2) (by omega) (by rw [xup_at, if_neg (by omega), xup_at, if_pos ⟨rfl, rfl⟩])
  refine ⟨xup (xup (xup J 2 4 (nI (c + 1 + 1))) 8 5 (nI (tNu b m (c + 1)))) 2 4 (nI (c + 2 + 1)), ?_, ?_, ?_⟩
  · unfold f_X1_takeTell
    rw [xw_ck, kC2 hS, Option.bind_some, tk, Option.bind_some]
    dsimp only
    rw [xsw6 (by have := tKd_b (b := b) (m := m) c; omega), if_neg (by omega), hk]
    show ((xgR (xw σ (xup J 2 4 (nI (c + 1)))) 2 1 1).bind fun z6 => (xck (xw σ (xup J 2 4 (nI (c + 1)))) 2 1).bind fun _ => (f_X1_takeInt (xw σ (xup J 2 4 (nI (c + 1)))) 2).bind fun (v10, σ9) => (xpI σ9 z6 6 5 v10).bind fun σ12 => f_X1_takeTell_j133 σ12 2) = _
    rw [xw_gR, kR2_1 hS, Option.bind_some, xw_ck, kC2 hS, Option.bind_some, tk2, Option.bind_some]
    dsimp only
    rw [kP8 hS, Option.bind_some]
    exact jo
  · refine DR_same hT h4c hws hc hD (by omega) (by rw [xup_at, if_pos ⟨rfl, rfl⟩, hE]) (fun a q h1 h2 => by rw [xup_at, if_neg (by omega), xup_at, if_neg (by omega), xup_at, if_neg (by omega)]) ?_ ?_ ?_ ?_
    · rw [if_neg (by omega), xup_at, if_neg (by omega), xup_at, if_neg (by omega), xup_at, if_neg (by omega)]; exact d6.1
    · rw [if_neg (by omega), xup_at, if_neg (by omega), xup_at, if_neg (by omega), xup_at, if_neg (by omega)]; exact d6.2.1
    · rw [if_neg (by omega), xup_at, if_neg (by omega), xup_at, if_neg (by omega), xup_at, if_neg (by omega)]; exact d6.2.2
    · rw [if_pos hk, xup_at, if_neg (by omega), xup_at, if_pos ⟨rfl, rfl⟩]
  · unfold linF
    rw [if_neg (by omega), if_neg (by omega), if_neg (by omega), if_neg (by omega)]
theorem badS_n (h : tKd b m c ≠ 10) : badS b m w l r c = decide (w * l ≤ tNu b m (c + 1)) := by
  unfold badS
  rw [decide_eq_false h, Bool.false_and, Bool.or_false]
theorem tell5 (hS : Shp σ) (hC : CT J0 b m T) (hwl : w * l ≤ 16) (h4c : 4 ≤ c) (hws : ws b m c = some 4) (hc : c < T) (hD : DR J0 J b m w l r c) (hL : LN5 b m c) : ∃ J', f_X1_takeTell (xw σ J) 2 = some (xw σ J') ∧ (linF b m w l r c = none → DR J0 J' b m w l r (lnE b m c + 1)) ∧ ∀ x j, linF b m w l r c = some (x, j) → DF J0 J' b m x j := by
  obtain ⟨d1, d2, d3, d4, d5, d6, d7, d8, d9, d10, d11⟩ := id hD
  obtain ⟨hk, hk1, hk2⟩ := hL
  obtain ⟨p, u, p1, p2, p3, p4⟩ := d9
  have hT := hC.1
  have hend := (line_at hT hws hc).2.2.2.1
  have hE : lnE b m c = c + 3 := by unfold lnE; rw [if_neg (by omega), if_neg (by omega), if_neg (by omega), if_pos hk]
  have T4 := hT.2.1
  have hCJ : CT J b m T := CT_c (fun a q h1 h2 h3 h4 => d1 a q (by omega)) hC
  have hlin : linF b m w l r c = if decide (w * l ≤ tNu b m (c + 1)) = true then some (4, c + 1) else none := by
    unfold linF
    rw [if_neg (by omega), if_neg (by omega), if_neg (by omega), if_pos hk, badS_n (by omega)]
  obtain ⟨J1, hJ1⟩ : ∃ J1, J1 = xup J 2 4 (nI (c + 1)) := ⟨_, rfl⟩
  have v1 : ∀ a q, ¬ (a = 2 ∧ q = 4) → J1 a q = J a q := fun a q h => by rw [hJ1, xup_at, if_neg h]
  have hC1 : CT J1 b m T := CT_c (fun a q h1 _ _ _ => v1 a q (by omega)) hCJ
  have tk := tkKind (σ := σ) hS hCJ (show c ≤ T by omega) d4
  rw [← hJ1] at tk
  have ts := takeSite_ok (σ := σ) (J := J1) hS hC1 (show c + 1 < T by omega) hk1 (by rw [hJ1, xup_at, if_pos ⟨rfl, rfl⟩]) (by rw [v1 _ _ (by omega)]; exact d5.1) (by rw [v1 _ _ (by omega)]; exact d5.2.1) (by omega)
  obtain ⟨J2, hJ2⟩ : ∃ J2, J2 = blI (xup J1 2 4 (nI (c + 1 + 1))) (decide (w * l ≤ tNu b m (c + 1))) 4 (nI (tSt b m (c + 1))) := ⟨_, rfl⟩
  rw [← hJ2] at ts
  have u2 : ∀ a q, ¬ (a = 2 ∧ (q = 2 ∨ q = 3)) → ¬ (a = 2 ∧ q = 4) → J2 a q = J a q := fun a q h1 h2 => by rw [hJ2, blI_out h1, xup_at, if_neg h2]; exact v1 a q h2
  have c2 : J2 2 4 = nI (c + 2) := by rw [hJ2, blI_out (by omega), xup_at, if_pos ⟨rfl, rfl⟩]
  have hC2 : CT J2 b m T := CT_c (fun a q h1 _ _ _ => u2 a q (by omega) (by omega)) hCJ
  have tk2 := tkKind (σ := σ) hS hC2 (show c + 2 ≤ T by omega) c2
  obtain ⟨J3, hJ3⟩ : ∃ J3, J3 = xup J2 2 4 (nI (c + 2 + 1)) := ⟨_, rfl⟩
  rw [← hJ3] at tk2
  have q13 : (nI (tKd b m (c + 2)) = (13 : Int32)) = (tKd b m (c + 2) = 13) := nn_eq (b := 13) (by omega) (by decide)
  obtain ⟨hv, hhv⟩ : ∃ hv : Int32, hv = if tKd b m (c + 2) = 13 then 1 else 2 := ⟨_, rfl⟩
  have start : ∀ J5, f_X1_takePin_j19 (xw σ J3) 2 (nI (tNu b m (c + 1))) hv = some (xw σ J5) → CT J5 b m T → J5 2 4 = nI (c + 3) → f_X1_takeTell (xw σ J) 2 = some (xw σ (xup J5 2 4 (nI (c + 3 + 1)))) := by
    intro J5 h1 h2 h3
    have pin : f_X1_takePin (xw σ J1) 2 = some (xw σ J5) := by
      unfold f_X1_takePin
      rw [xw_ck, kC2 hS, Option.bind_some, ts, Option.bind_some]
      dsimp only
      rw [xw_ck, kC2 hS, Option.bind_some, tk2, Option.bind_some]
      dsimp only
      simp only [q13]
      rw [hhv] at h1
      by_cases z : tKd b m (c + 2) = 13
      · rw [if_pos z] at h1 ⊢; exact h1
      · rw [if_neg z] at h1 ⊢; exact h1
    unfold f_X1_takeTell
    rw [xw_ck, kC2 hS, Option.bind_some, tk, Option.bind_some]
    dsimp only
    rw [xsw6 (by have := tKd_b (b := b) (m := m) c; omega), if_neg (by omega), hk]
    show ((xck (xw σ J1) 2 1).bind fun _ => (f_X1_takePin (xw σ J1) 2).bind fun σ7 => f_X1_takeTell_j133 σ7 2) = _
    rw [xw_ck, kC2 hS, Option.bind_some, pin, Option.bind_some]
    exact j133_ok hS h2 (by omega) h3
  have c3 : J3 2 4 = nI (c + 3) := by rw [hJ3, xup_at, if_pos ⟨rfl, rfl⟩]
  by_cases hbad : w * l ≤ tNu b m (c + 1)
  · have hf : J3 2 2 = 4 ∧ J3 2 3 = nI (tSt b m (c + 1)) := by
      have j0 : xup J1 2 4 (nI (c + 1 + 1)) 2 2 = 0 := by rw [xup_at, if_neg (by omega), v1 _ _ (by omega)]; exact d2
      rw [hJ3, xup_at, if_neg (by omega), xup_at, if_neg (by omega), hJ2, decide_eq_true hbad, blI_t j0, xup_at, if_neg (by omega), xup_at, if_pos ⟨rfl, rfl⟩, xup_at, if_pos ⟨rfl, rfl⟩]
      exact ⟨rfl, rfl⟩
    have j19 : f_X1_takePin_j19 (xw σ J3) 2 (nI (tNu b m (c + 1))) hv = some (xw σ J3) := by
      unfold f_X1_takePin_j19
      have q4 : ((4 : Int32) = 0) = False := eq_false (by decide)
      simp (disch := first | assumption | omega) only [Option.bind_some, Option.map_some, xw_gR, xw_gN, xw_al, xw_ck, xw_uI, xw_ur, xup_at, xur_at, if_true, if_false, reduceIte, and_true, true_and, and_false, false_and, not_true_eq_false, not_false_eq_true, Nat.reduceEqDiff, eq_self, Nat.reduceAdd, Nat.reduceMul, kC1, kG1, kP1, kR1_0, kR1_1, kR1_2, kR1_3, kR1_4, kR1_5, kR1_6, kR1_7, kR1_8, kR1_9, kR1_10, kR1_11, kR1_12, kR1_13, kC2, kG2, kP2, kR2_0, kR2_1, kC3, kG3, kP3, kR3_0, kR3_1, kR3_2, kR3_3, kL4, kA4, kS4, kL5, kA5, kS5, kL6, kA6, kS6, kL7, kA7, kS7, kC8, kG8, kP8, kR8_0, kR8_1, kL9, kA9, kS9, kL10, kA10, kS10, kC11, kG11, kP11, kR11_0, kR11_1, kR11_2, kR11_3, kL12, kA12, kS12, kL13, kA13, kS13, kL14, kA14, kS14, kL15, kA15, kS15, kC16, kG16, kP16, kR16_0, kR16_1, kL17, kA17, kS17, kL18, kA18, kS18, kC19, kG19, kP19, kR19_0, kL20, kL141, kL146, kA146, kS146, kL151, kA151, kS151, kL156, kA156, kS156, kC157, kG157, kP157, kR157_0, kR157_1, kL158, kA158, kS158, kL159, kA159, kS159, kC161, kG161, kP161, kR161_0, kR161_1, kL162, kA162, kS162, kL163, kA163, kS163, kC165, kG165, kP165, kR165_0, kR165_1, kR165_2, kR165_3, kL166, kA166, kS166, kL167, kA167, kS167, kL168, kA168, kS168, kL169, kA169, kS169, kC170, kG170, kP170, kR170_0, kR170_1, kR170_2, kL171, kA171, kS171, kL172, kA172, kS172, kL173, kA173, kS173, kC174, kG174, kP174, kR174_0, kR174_1, kR174_2, kR174_3, kR174_4, kL175, kA175, kS175, kL176, kA176, kS176, kL177, kA177, kS177, kL178, kA178, kS178, kL179, kC180, kG180, kP180, kL181, kL182, kA182, kS182, kC183, kG183, kP183, kR183_1, kR183_3, kR183_5, kR183_6, kR183_7, kR183_8, kR183_9, kR183_21, kR183_26, kR183_27, kR183_30, kR183_31, kR183_33, kR183_34, kR183_36, kR183_37, kR183_38, kR183_39, kR183_40, kR183_41, kR183_42, kR183_43, kR183_44, kL184, kA184, kS184, kL185, kA185, kS185, kL186, kA186, kS186, kL187, kA187, kS187, kL188, kA188, kS188, kL189, kL190, kL191, kA191, kS191, kL192, kA192, kS192, kL193, kA193, kS193, kL194, kA194, kS194, kL195, kA195, kS195, kL196, kA196, kS196, kL197, kA197, kS197, kL198, kA198, kS198, kL199, kA199, kS199, kL200, kA200, kS200, kL201, kL202, kA202, kS202, kL203, kA203, kS203, kL204, kA204, kS204, kL205, kL206, kA206, kS206, hf.1, q4]
    have u3 : ∀ a q, ¬ (a = 2 ∧ (q = 2 ∨ q = 3)) → ¬ (a = 2 ∧ q = 4) → J3 a q = J a q := fun a q h1 h2 => by rw [hJ3, xup_at, if_neg h2]; exact u2 a q h1 h2
    refine ⟨_, start J3 j19 (CT_c (fun a q h1 _ _ _ => u3 a q (by omega) (by omega)) hCJ) c3, fun hno => ?_, fun x j hx1 => ?_⟩
    · rw [hlin, decide_eq_true hbad, if_pos rfl] at hno; cases hno
    · rw [hlin, decide_eq_true hbad, if_pos rfl] at hx1; cases hx1
      refine ⟨fun a q h => ?_, ?_, ?_⟩
      · rw [xup_at, if_neg (by omega), u3 a q (by omega) (by omega)]; exact d1 a q h
      · rw [xup_at, if_neg (by omega)]; exact hf.1
      · rw [xup_at, if_neg (by omega)]; exact hf.2
  · have e2 : J2 = xup J1 2 4 (nI (c + 1 + 1)) := by rw [hJ2, decide_eq_false hbad, blI_f]
    have v3 : ∀ a q, ¬ (a = 2 ∧ q = 4) → J3 a q = J a q := fun a q h => by rw [hJ3, xup_at, if_neg h, e2, xup_at, if_neg h]; exact v1 a q h
    obtain ⟨s, hs⟩ : ∃ s, s = tNu b m (c + 1) := ⟨_, rfl⟩
    have s16 : s < 16 := by omega
    have sp := setPin8 (σ := σ) (J := J3) (i := s) hS (by rw [v3 _ _ (by omega)]; exact p1) (by rw [v3 _ _ (by omega)]; exact p2) (by omega) hv
    have j19 : f_X1_takePin_j19 (xw σ J3) 2 (nI (tNu b m (c + 1))) hv = some (xw σ (xup (xup J3 8 2 (nI (pN p s hv))) 8 3 (nI (uN2 u s hv)))) := by
      rw [← hs]
      unfold f_X1_takePin_j19
      have z2 : J3 2 2 = 0 := by rw [v3 _ _ (by omega)]; exact d2
      simp (disch := first | assumption | omega) only [Option.bind_some, Option.map_some, xw_gR, xw_gN, xw_al, xw_ck, xw_uI, xw_ur, xup_at, xur_at, if_true, if_false, reduceIte, and_true, true_and, and_false, false_and, not_true_eq_false, not_false_eq_true, Nat.reduceEqDiff, eq_self, Nat.reduceAdd, Nat.reduceMul, kC1, kG1, kP1, kR1_0, kR1_1, kR1_2, kR1_3, kR1_4, kR1_5, kR1_6, kR1_7, kR1_8, kR1_9, kR1_10, kR1_11, kR1_12, kR1_13, kC2, kG2, kP2, kR2_0, kR2_1, kC3, kG3, kP3, kR3_0, kR3_1, kR3_2, kR3_3, kL4, kA4, kS4, kL5, kA5, kS5, kL6, kA6, kS6, kL7, kA7, kS7, kC8, kG8, kP8, kR8_0, kR8_1, kL9, kA9, kS9, kL10, kA10, kS10, kC11, kG11, kP11, kR11_0, kR11_1, kR11_2, kR11_3, kL12, kA12, kS12, kL13, kA13, kS13, kL14, kA14, kS14, kL15, kA15, kS15, kC16, kG16, kP16, kR16_0, kR16_1, kL17, kA17, kS17, kL18, kA18, kS18, kC19, kG19, kP19, kR19_0, kL20, kL141, kL146, kA146, kS146, kL151, kA151, kS151, kL156, kA156, kS156, kC157, kG157, kP157, kR157_0, kR157_1, kL158, kA158, kS158, kL159, kA159, kS159, kC161, kG161, kP161, kR161_0, kR161_1, kL162, kA162, kS162, kL163, kA163, kS163, kC165, kG165, kP165, kR165_0, kR165_1, kR165_2, kR165_3, kL166, kA166, kS166, kL167, kA167, kS167, kL168, kA168, kS168, kL169, kA169, kS169, kC170, kG170, kP170, kR170_0, kR170_1, kR170_2, kL171, kA171, kS171, kL172, kA172, kS172, kL173, kA173, kS173, kC174, kG174, kP174, kR174_0, kR174_1, kR174_2, kR174_3, kR174_4, kL175, kA175, kS175, kL176, kA176, kS176, kL177, kA177, kS177, kL178, kA178, kS178, kL179, kC180, kG180, kP180, kL181, kL182, kA182, kS182, kC183, kG183, kP183, kR183_1, kR183_3, kR183_5, kR183_6, kR183_7, kR183_8, kR183_9, kR183_21, kR183_26, kR183_27, kR183_30, kR183_31, kR183_33, kR183_34, kR183_36, kR183_37, kR183_38, kR183_39, kR183_40, kR183_41, kR183_42, kR183_43, kR183_44, kL184, kA184, kS184, kL185, kA185, kS185, kL186, kA186, kS186, kL187, kA187, kS187, kL188, kA188, kS188, kL189, kL190, kL191, kA191, kS191, kL192, kA192, kS192, kL193, kA193, kS193, kL194, kA194, kS194, kL195, kA195, kS195, kL196, kA196, kS196, kL197, kA197, kS197, kL198, kA198, kS198, kL199, kA199, kS199, kL200, kA200, kS200, kL201, kL202, kA202, kS202, kL203, kA203, kS203, kL204, kA204, kS204, kL205, kL206, kA206, kS206, z2, sp]
    have hv0 : hv ≠ 0 := by rw [hhv]; split <;> decide
    have hv1 : (hv = 1) ↔ tKd b m (c + 2) = 13 := by
      rw [hhv]
      by_cases z : tKd b m (c + 2) = 13
      · rw [if_pos z]; simp [z]
      · rw [if_neg z]; simp [z]
    refine ⟨_, start _ j19 (CT_c (fun a q h1 h2 _ _ => by rw [xup_at, if_neg (by omega), xup_at, if_neg (by omega)]; exact v3 a q (by omega)) hCJ) (by rw [xup_at, if_neg (by omega), xup_at, if_neg (by omega)]; exact c3), fun hno => ?_, fun x j hx1 => ?_⟩
    · have fr : ∀ a q, ¬ (a = 2 ∧ q = 4) → ¬ (a = 8 ∧ (q = 2 ∨ q = 3)) → xup (xup (xup J3 8 2 (nI (pN p s hv))) 8 3 (nI (uN2 u s hv))) 2 4 (nI (c + 3 + 1)) a q = J a q := fun a q h1 h2 => by rw [xup_at, if_neg h1, xup_at, if_neg (by omega), xup_at, if_neg (by omega)]; exact v3 a q h1
      refine DR_next hT h4c hws hc hD (fun a q h => by rw [fr a q (by omega) (by omega)]; exact d1 a q h) (by rw [fr _ _ (by omega) (by omega)]; exact d2) (by rw [fr _ _ (by omega) (by omega)]; exact d3) (by rw [xup_at, if_pos ⟨rfl, rfl⟩, hE]) (fun q h1 h2 => fr _ _ (by omega) (by omega)) ?_ ?_ ?_ (fun t ht => ?_) (fun i hi => ?_) ?_ (by rw [fr _ _ (by omega) (by omega)]; exact d10) (by rw [if_neg (by omega), fr _ _ (by omega) (by omega)]; exact d11)
      · rw [if_neg (by omega), fr _ _ (by omega) (by omega)]; exact d6.1
      · rw [if_neg (by omega), fr _ _ (by omega) (by omega)]; exact d6.2.1
      · rw [if_neg (by omega), fr _ _ (by omega) (by omega)]; exact d6.2.2
      · rw [if_neg (by omega), fr _ _ (by omega) (by omega), fr 9 t (by omega) (by omega)]; exact d7 t ht
      · rw [if_neg (by omega), fr _ _ (by omega) (by omega), fr 10 i (by omega) (by omega)]; exact d8 i hi
      · refine ⟨pN p s hv, uN2 u s hv, by rw [xup_at, if_neg (by omega), xup_at, if_neg (by omega), xup_at, if_pos ⟨rfl, rfl⟩], by rw [xup_at, if_neg (by omega), xup_at, if_pos ⟨rfl, rfl⟩], fun i => ?_, fun i => ?_⟩
        · unfold pN
          rw [if_neg hv0, fb_bit_set, p3]
          by_cases z : s = i
          · rw [if_pos ⟨hk, by rw [← hs]; exact z⟩, decide_eq_true z.symm, Bool.or_true, decide_eq_true (by omega), Bool.true_and]
            symm
            apply decide_eq_true
            split <;> omega
          · rw [if_neg (fun y => z (by rw [hs]; exact y.2)), decide_eq_false (show ¬ i = s from fun y => z y.symm), Bool.or_false]
        · unfold uN2
          by_cases h13 : tKd b m (c + 2) = 13
          · rw [if_pos (hv1.mpr h13), fb_bit_set, p4]
            by_cases z : s = i
            · rw [if_pos ⟨hk, by rw [← hs]; exact z⟩, if_pos h13, decide_eq_true z.symm, Bool.or_true, decide_eq_true (show i < 16 by omega), Bool.true_and, decide_eq_true rfl]
            · rw [if_neg (fun y => z (by rw [hs]; exact y.2)), decide_eq_false (show ¬ i = s from fun y => z y.symm), Bool.or_false]
          · rw [if_neg (fun y => h13 (hv1.mp y))]
            by_cases hi : i < 32
            · rw [andn_bit _ _ _ hi, p4, Nat.testBit_two_pow]
              by_cases z : s = i
              · rw [if_pos ⟨hk, by rw [← hs]; exact z⟩, if_neg h13, decide_eq_true z]
                simp
              · rw [if_neg (fun y => z (by rw [hs]; exact y.2)), decide_eq_false z]
                simp
            · rw [Nat.testBit_and, p4, decide_eq_false (show ¬ i < 16 by omega)]
              simp
    · rw [hlin, decide_eq_false hbad, if_neg (by decide)] at hx1; cases hx1
end TELL2
end
section
/-! pulls and ties -/
section TELL3
variable {σ : XS} {J0 J : Nat → Nat → Int32} {b : Nat → Int32} {m T w l r c : Nat}
theorem tell4 (hS : Shp σ) (hC : CT J0 b m T) (hwl : w * l ≤ 16) (h4c : 4 ≤ c) (hws : ws b m c = some 4) (hc : c < T) (hD : DR J0 J b m w l r c) (hL : LN4 b m c) : ∃ J', f_X1_takeTell (xw σ J) 2 = some (xw σ J') ∧ (linF b m w l r c = none → DR J0 J' b m w l r (lnE b m c + 1)) ∧ ∀ x j, linF b m w l r c = some (x, j) → DF J0 J' b m x j := by
  obtain ⟨d1, d2, d3, d4, d5, d6, d7, d8, d9, d10, d11⟩ := id hD
  obtain ⟨hk, hk1, hJ⟩ := hL
  have hT := hC.1
  have hend := (line_at hT hws hc).2.2.2.1
  have hE : lnE b m c = c + 2 + jlT b m (c + 2) := by unfold lnE; rw [if_neg (by omega), if_neg (by omega), if_pos hk]
  have T4 := hT.2.1
  have hCJ : CT J b m T := CT_c (fun a q h1 h2 h3 h4 => d1 a q (by omega)) hC
  have hlin : linF b m w l r c = if decide (w * l ≤ tNu b m (c + 1)) = true then some (4, c + 1) else if 3 < tNu b m (jnT b m (c + 2)) then some (3, jnT b m (c + 2)) else none := by
    unfold linF
    rw [if_neg (by omega), if_neg (by omega), if_pos hk, badS_n (by omega)]
  obtain ⟨J1, hJ1⟩ : ∃ J1, J1 = xup J 2 4 (nI (c + 1)) := ⟨_, rfl⟩
  have v1 : ∀ a q, ¬ (a = 2 ∧ q = 4) → J1 a q = J a q := fun a q h => by rw [hJ1, xup_at, if_neg h]
  have hC1 : CT J1 b m T := CT_c (fun a q h1 _ _ _ => v1 a q (by omega)) hCJ
  have tk := tkKind (σ := σ) hS hCJ (show c ≤ T by omega) d4
  rw [← hJ1] at tk
  have ts := takeSite_ok (σ := σ) (J := J1) hS hC1 (show c + 1 < T by omega) hk1 (by rw [hJ1, xup_at, if_pos ⟨rfl, rfl⟩]) (by rw [v1 _ _ (by omega)]; exact d5.1) (by rw [v1 _ _ (by omega)]; exact d5.2.1) (by omega)
  obtain ⟨J2, hJ2⟩ : ∃ J2, J2 = blI (xup J1 2 4 (nI (c + 1 + 1))) (decide (w * l ≤ tNu b m (c + 1))) 4 (nI (tSt b m (c + 1))) := ⟨_, rfl⟩
  rw [← hJ2] at ts
  have u2 : ∀ a q, ¬ (a = 2 ∧ (q = 2 ∨ q = 3)) → ¬ (a = 2 ∧ q = 4) → J2 a q = J a q := fun a q h1 h2 => by rw [hJ2, blI_out h1, xup_at, if_neg h2]; exact v1 a q h2
  have c2 : J2 2 4 = nI (c + 2) := by rw [hJ2, blI_out (by omega), xup_at, if_pos ⟨rfl, rfl⟩]
  have hC2 : CT J2 b m T := CT_c (fun a q h1 _ _ _ => u2 a q (by omega) (by omega)) hCJ
  have tj := takeJ_ok (σ := σ) (J := J2) hS hC2 hJ (by omega) c2
  obtain ⟨J3, hJ3⟩ : ∃ J3, J3 = blI (xup J2 2 4 (nI (c + 2 + jlT b m (c + 2)))) (decide (3 < tNu b m (jnT b m (c + 2)))) 3 (nI (tSt b m (jnT b m (c + 2)))) := ⟨_, rfl⟩
  rw [← hJ3] at tj
  have u3 : ∀ a q, ¬ (a = 2 ∧ (q = 2 ∨ q = 3)) → ¬ (a = 2 ∧ q = 4) → J3 a q = J a q := fun a q h1 h2 => by rw [hJ3, blI_out h1, xup_at, if_neg h2]; exact u2 a q h1 h2
  have c3 : J3 2 4 = nI (lnE b m c) := by rw [hJ3, blI_out (by omega), xup_at, if_pos ⟨rfl, rfl⟩, hE]
  have start : ∀ J5, (if J3 2 2 = 0 then ((f_X6_setField (xw σ J3) 8 (nI (tNu b m (c + 1))) (iI (jvT b m (c + 2)))).bind fun σ15 => (xgI σ15 2 1 12).bind fun v17 => (xpI σ15 2 1 12 (v17 ||| ((1 : Int32) <<< (nI (tNu b m (c + 1)) &&& 31)))).bind fun σ19 => some σ19) else some (xw σ J3)) = some (xw σ J5) → CT J5 b m T → J5 2 4 = nI (lnE b m c) → f_X1_takeTell (xw σ J) 2 = some (xw σ (xup J5 2 4 (nI (lnE b m c + 1)))) := by
    intro J5 h1 h2 h3
    have pul : f_X1_takePull (xw σ J1) 2 = some (xw σ J5) := by
      unfold f_X1_takePull
      rw [xw_ck, kC2 hS, Option.bind_some, ts, Option.bind_some]
      dsimp only
      rw [xw_ck, kC2 hS, Option.bind_some, tj, Option.bind_some]
      dsimp only
      rw [kG2 hS, Option.bind_some]
      by_cases z : J3 2 2 = 0
      · rw [if_pos z] at h1 ⊢
        rw [xw_gR, kR2_1 hS, Option.bind_some, xw_ck, kC8 hS, Option.bind_some]; exact h1
      · rw [if_neg z] at h1 ⊢; exact h1
    unfold f_X1_takeTell
    rw [xw_ck, kC2 hS, Option.bind_some, tk, Option.bind_some]
    dsimp only
    rw [xsw6 (by have := tKd_b (b := b) (m := m) c; omega), if_neg (by omega), hk]
    show ((xck (xw σ J1) 2 1).bind fun _ => (f_X1_takePull (xw σ J1) 2).bind fun σ7 => f_X1_takeTell_j133 σ7 2) = _
    rw [xw_ck, kC2 hS, Option.bind_some, pul, Option.bind_some]
    exact j133_ok hS h2 (by omega) h3
  -- a fault: all that is wanted
  have flt : ∀ x j : Nat, x ≠ 0 → x < 5 → J3 2 2 = nI x → J3 2 3 = nI (tSt b m j) → linF b m w l r c = some (x, j) → ∃ J', f_X1_takeTell (xw σ J) 2 = some (xw σ J') ∧ (linF b m w l r c = none → DR J0 J' b m w l r (lnE b m c + 1)) ∧ ∀ x j, linF b m w l r c = some (x, j) → DF J0 J' b m x j := by
    intro x j hx0 hx5 f2 f3 hl
    have nz : J3 2 2 ≠ 0 := by rw [f2]; exact nI_ne0 (by omega) (by omega)
    refine ⟨_, start J3 (by rw [if_neg nz]) (CT_c (fun a q h1 _ _ _ => u3 a q (by omega) (by omega)) hCJ) c3, fun hno => ?_, fun x' j' h' => ?_⟩
    · rw [hl] at hno; cases hno
    · rw [hl] at h'; cases h'
      refine ⟨fun a q h => ?_, ?_, ?_⟩
      · rw [xup_at, if_neg (by omega), u3 a q (by omega) (by omega)]; exact d1 a q h
      · rw [xup_at, if_neg (by omega)]; exact f2
      · rw [xup_at, if_neg (by omega)]; exact f3
  by_cases hbad : w * l ≤ tNu b m (c + 1)
  · have j0 : xup J1 2 4 (nI (c + 1 + 1)) 2 2 = 0 := by rw [xup_at, if_neg (by omega), v1 _ _ (by omega)]; exact d2
    have e2 : J2 2 2 = nI 4 ∧ J2 2 3 = nI (tSt b m (c + 1)) := by
      rw [hJ2, decide_eq_true hbad, blI_t j0, xup_at, if_neg (by omega), xup_at, if_pos ⟨rfl, rfl⟩, xup_at, if_pos ⟨rfl, rfl⟩]
      exact ⟨rfl, rfl⟩
    have j3 : xup J2 2 4 (nI (c + 2 + jlT b m (c + 2))) 2 2 ≠ 0 := by
      rw [xup_at, if_neg (by omega), e2.1]; decide
    rw [blI_n j3] at hJ3
    exact flt 4 (c + 1) (by omega) (by omega) (by rw [hJ3, xup_at, if_neg (by omega)]; exact e2.1) (by rw [hJ3, xup_at, if_neg (by omega)]; exact e2.2) (by rw [hlin, decide_eq_true hbad, if_pos rfl])
  · have e2 : J2 = xup J1 2 4 (nI (c + 1 + 1)) := by rw [hJ2, decide_eq_false hbad, blI_f]
    have j0 : xup J2 2 4 (nI (c + 2 + jlT b m (c + 2))) 2 2 = 0 := by rw [xup_at, if_neg (by omega), e2, xup_at, if_neg (by omega), v1 _ _ (by omega)]; exact d2
    by_cases h3 : 3 < tNu b m (jnT b m (c + 2))
    · rw [decide_eq_true h3, blI_t j0] at hJ3
      exact flt 3 (jnT b m (c + 2)) (by omega) (by omega) (by rw [hJ3, xup_at, if_neg (by omega), xup_at, if_pos ⟨rfl, rfl⟩]; rfl) (by rw [hJ3, xup_at, if_pos ⟨rfl, rfl⟩]) (by rw [hlin, decide_eq_false hbad, if_neg (by decide), if_pos h3])
    · rw [decide_eq_false h3, blI_f] at hJ3
      have v3 : ∀ a q, ¬ (a = 2 ∧ q = 4) → J3 a q = J a q := fun a q h => by rw [hJ3, xup_at, if_neg h, e2, xup_at, if_neg h]; exact v1 a q h
      obtain ⟨s, hs⟩ : ∃ s, s = tNu b m (c + 1) := ⟨_, rfl⟩
      have s16 : s < 16 := by omega
      have z2 : J3 2 2 = 0 := by rw [v3 _ _ (by omega)]; exact d2
      have sf := setField_ok (σ := σ) (I := J3) (a := 8) hS suA_8 s16 (iI (jvT b m (c + 2)))
      refine ⟨_, start (xup (xup J3 10 s (iI (jvT b m (c + 2)))) 2 12 (J 2 12 ||| ((1 : Int32) <<< (nI s &&& 31)))) ?_ (CT_c (fun a q h1 h2 h3 h4 => by rw [xup_at, if_neg (by omega), xup_at, if_neg (by omega)]; exact v3 a q (by omega)) hCJ) (by rw [xup_at, if_neg (by omega), xup_at, if_neg (by omega)]; exact c3), fun hno => ?_, fun x j hx1 => ?_⟩
      · rw [if_pos z2, ← hs, sf, Option.bind_some, kG2 hS, Option.bind_some, xup_at, if_neg (by omega), v3 2 12 (by omega), kP2 hS, Option.bind_some]
      · have fr : ∀ a q, ¬ (a = 2 ∧ (q = 4 ∨ q = 12)) → a ≠ 10 → xup (xup (xup J3 10 s (iI (jvT b m (c + 2)))) 2 12 (J 2 12 ||| ((1 : Int32) <<< (nI s &&& 31)))) 2 4 (nI (lnE b m c + 1)) a q = J a q := fun a q h1 h2 => by rw [xup_at, if_neg (by omega), xup_at, if_neg (by omega), xup_at, if_neg (by omega)]; exact v3 a q (by omega)
        refine DR_next hT h4c hws hc hD (fun a q h => by rw [fr a q (by omega) (by omega)]; exact d1 a q h) (by rw [fr _ _ (by omega) (by omega)]; exact d2) (by rw [fr _ _ (by omega) (by omega)]; exact d3) (by rw [xup_at, if_pos ⟨rfl, rfl⟩]) (fun q h1 h2 => fr _ _ (by omega) (by omega)) ?_ ?_ ?_ (fun t ht => ?_) (fun i hi => ?_) ?_ (by rw [fr _ _ (by omega) (by omega)]; exact d10) (by rw [if_neg (by omega), fr _ _ (by omega) (by omega)]; exact d11)
        · rw [if_neg (by omega), fr _ _ (by omega) (by omega)]; exact d6.1
        · rw [if_neg (by omega), fr _ _ (by omega) (by omega)]; exact d6.2.1
        · rw [if_neg (by omega), fr _ _ (by omega) (by omega)]; exact d6.2.2
        · rw [if_neg (by omega), fr _ _ (by omega) (by omega), fr 9 t (by omega) (by omega)]; exact d7 t ht
        · have e12 : xup (xup (xup J3 10 s (iI (jvT b m (c + 2)))) 2 12 (J 2 12 ||| ((1 : Int32) <<< (nI s &&& 31)))) 2 4 (nI (lnE b m c + 1)) 2 12 = J 2 12 ||| ((1 : Int32) <<< (nI s &&& 31)) := by rw [xup_at, if_neg (by omega), xup_at, if_pos ⟨rfl, rfl⟩]
          have e10 : xup (xup (xup J3 10 s (iI (jvT b m (c + 2)))) 2 12 (J 2 12 ||| ((1 : Int32) <<< (nI s &&& 31)))) 2 4 (nI (lnE b m c + 1)) 10 i = if i = s then iI (jvT b m (c + 2)) else J 10 i := by
            rw [xup_at, if_neg (by omega), xup_at, if_neg (by omega), xup_at]
            by_cases z : i = s
            · rw [if_pos ⟨rfl, z⟩, if_pos z]
            · rw [if_neg (by omega), if_neg z]; exact v3 _ _ (by omega)
          rw [e12, e10, bt_set (by omega) (by omega)]
          by_cases z : i = s
          · rw [if_pos ⟨hk, by rw [← hs]; exact z.symm⟩, if_pos z, decide_eq_true z, Bool.or_true]
            exact ⟨rfl, rfl⟩
          · rw [if_neg (fun y => z (by rw [hs]; exact y.2.symm)), if_neg z, decide_eq_false z, Bool.or_false]
            exact d8 i hi
        · obtain ⟨p, u, p1, p2, p3, p4⟩ := d9
          refine ⟨p, u, by rw [fr _ _ (by omega) (by omega)]; exact p1, by rw [fr _ _ (by omega) (by omega)]; exact p2, fun i => ?_, fun i => ?_⟩
          · rw [if_neg (by omega)]; exact p3 i
          · rw [if_neg (by omega)]; exact p4 i
      · rw [hlin, decide_eq_false hbad, if_neg (by decide), if_neg h3] at hx1; cases hx1
theorem tell3 (hS : Shp σ) (hC : CT J0 b m T) (hg : ((w, l, r) : GD) ∈ gAll) (h4c : 4 ≤ c) (hws : ws b m c = some 4) (hc : c < T) (hD : DR J0 J b m w l r c) (hL : LN3 b m c) : ∃ J', f_X1_takeTell (xw σ J) 2 = some (xw σ J') ∧ (linF b m w l r c = none → DR J0 J' b m w l r (lnE b m c + 1)) ∧ ∀ x j, linF b m w l r c = some (x, j) → DF J0 J' b m x j := by
  have hwl : w * l ≤ 16 := (gAll_b _ hg).2.2.1
  obtain ⟨d1, d2, d3, d4, d5, d6, d7, d8, d9, d10, d11⟩ := id hD
  obtain ⟨hk, hk1, hk2, hJ⟩ := hL
  have hT := hC.1
  have hend := (line_at hT hws hc).2.2.2.1
  have hE : lnE b m c = c + 3 + jlT b m (c + 3) := by unfold lnE; rw [if_neg (by omega), if_pos hk]
  have T4 := hT.2.1
  have hV := tNu_b hk1
  have hCJ : CT J b m T := CT_c (fun a q h1 h2 h3 h4 => d1 a q (by omega)) hC
  have hlin : linF b m w l r c = if badS b m w l r c = true then some (4, c + 1) else if 3 < tNu b m (jnT b m (c + 3)) then some (3, jnT b m (c + 3)) else none := by
    unfold linF
    rw [if_neg (by omega), if_pos hk]
  obtain ⟨J1, hJ1⟩ : ∃ J1, J1 = xup J 2 4 (nI (c + 1)) := ⟨_, rfl⟩
  have v1 : ∀ a q, ¬ (a = 2 ∧ q = 4) → J1 a q = J a q := fun a q h => by rw [hJ1, xup_at, if_neg h]
  have hC1 : CT J1 b m T := CT_c (fun a q h1 _ _ _ => v1 a q (by omega)) hCJ
  have tk := tkKind (σ := σ) hS hCJ (show c ≤ T by omega) d4
  rw [← hJ1] at tk
  have ts := takeSite_ok (σ := σ) (J := J1) hS hC1 (show c + 1 < T by omega) hk1 (by rw [hJ1, xup_at, if_pos ⟨rfl, rfl⟩]) (by rw [v1 _ _ (by omega)]; exact d5.1) (by rw [v1 _ _ (by omega)]; exact d5.2.1) (by omega)
  obtain ⟨J2, hJ2⟩ : ∃ J2, J2 = blI (xup J1 2 4 (nI (c + 1 + 1))) (decide (w * l ≤ tNu b m (c + 1))) 4 (nI (tSt b m (c + 1))) := ⟨_, rfl⟩
  rw [← hJ2] at ts
  have u2 : ∀ a q, ¬ (a = 2 ∧ (q = 2 ∨ q = 3)) → ¬ (a = 2 ∧ q = 4) → J2 a q = J a q := fun a q h1 h2 => by rw [hJ2, blI_out h1, xup_at, if_neg h2]; exact v1 a q h2
  have c2 : J2 2 4 = nI (c + 2) := by rw [hJ2, blI_out (by omega), xup_at, if_pos ⟨rfl, rfl⟩]
  have hC2 : CT J2 b m T := CT_c (fun a q h1 _ _ _ => u2 a q (by omega) (by omega)) hCJ
  have tk2 := tkKind (σ := σ) hS hC2 (show c + 2 ≤ T by omega) c2
  obtain ⟨J3, hJ3⟩ : ∃ J3, J3 = xup J2 2 4 (nI (c + 2 + 1)) := ⟨_, rfl⟩
  rw [← hJ3] at tk2
  have u3 : ∀ a q, ¬ (a = 2 ∧ (q = 2 ∨ q = 3)) → ¬ (a = 2 ∧ q = 4) → J3 a q = J a q := fun a q h1 h2 => by rw [hJ3, xup_at, if_neg h2]; exact u2 a q h1 h2
  have c3 : J3 2 4 = nI (c + 3) := by rw [hJ3, xup_at, if_pos ⟨rfl, rfl⟩]
  have hC3 : CT J3 b m T := CT_c (fun a q h1 _ _ _ => u3 a q (by omega) (by omega)) hCJ
  obtain ⟨tp, htp⟩ : ∃ tp, tp = tpl b m c := ⟨_, rfl⟩
  have q7 : (nI (tKd b m (c + 2)) = (7 : Int32)) = (tKd b m (c + 2) = 7) := nn_eq (b := 7) (by omega) (by decide)
  have start : ∀ J5, f_X1_takeTie_j22 (xw σ J3) 2 (nI tp) = some (xw σ J5) → CT J5 b m T → J5 2 4 = nI (lnE b m c) → f_X1_takeTell (xw σ J) 2 = some (xw σ (xup J5 2 4 (nI (lnE b m c + 1)))) := by
    intro J5 h1 h2 h3
    have tie : f_X1_takeTie (xw σ J1) 2 = some (xw σ J5) := by
      unfold f_X1_takeTie
      rw [xw_ck, kC2 hS, Option.bind_some, ts, Option.bind_some]
      dsimp only
      rw [xw_ck, kC2 hS, Option.bind_some, tk2, Option.bind_some]
      dsimp only
      simp only [q7]
      rw [htp] at h1
      unfold tpl at h1
      by_cases z : tKd b m (c + 2) = 7
      · rw [if_pos z] at h1 ⊢
        rw [show (16 : Int32) = nI 16 from rfl, nn_add]; exact h1
      · rw [if_neg z] at h1 ⊢; exact h1
    unfold f_X1_takeTell
    rw [xw_ck, kC2 hS, Option.bind_some, tk, Option.bind_some]
    dsimp only
    rw [xsw6 (by have := tKd_b (b := b) (m := m) c; omega), if_neg (by omega), hk]
    show ((xck (xw σ J1) 2 1).bind fun _ => (f_X1_takeTie (xw σ J1) 2).bind fun σ7 => f_X1_takeTell_j133 σ7 2) = _
    rw [xw_ck, kC2 hS, Option.bind_some, tie, Option.bind_some]
    exact j133_ok hS h2 (by omega) h3
  -- the J of a tie, on a draft that is at fault already
  have j68f : ∀ J4, CT J4 b m T → J4 2 4 = nI (c + 3) → J4 2 2 ≠ 0 → f_X1_takeTie_j68 (xw σ J4) 2 (nI tp) = some (xw σ (xup J4 2 4 (nI (c + 3 + jlT b m (c + 3))))) := by
    intro J4 h1 h2 h3
    have tj := takeJ_ok (σ := σ) (J := J4) hS h1 hJ (by omega) h2
    have h3' : xup J4 2 4 (nI (c + 3 + jlT b m (c + 3))) 2 2 ≠ 0 := by rw [xup_at, if_neg (by omega)]; exact h3
    rw [blI_n h3'] at tj
    unfold f_X1_takeTie_j68
    rw [xw_ck, kC2 hS, Option.bind_some, tj, Option.bind_some]
    dsimp only
    rw [kG2 hS, Option.bind_some, if_neg h3']
  have flt : ∀ (J5 : Nat → Nat → Int32) (x j : Nat), f_X1_takeTie_j22 (xw σ J3) 2 (nI tp) = some (xw σ J5) → (∀ a q, ¬ (a = 2 ∧ (q = 2 ∨ q = 3)) → ¬ (a = 2 ∧ q = 4) → J5 a q = J a q) → J5 2 4 = nI (lnE b m c) → J5 2 2 = nI x → J5 2 3 = nI (tSt b m j) → linF b m w l r c = some (x, j) → ∃ J', f_X1_takeTell (xw σ J) 2 = some (xw σ J') ∧ (linF b m w l r c = none → DR J0 J' b m w l r (lnE b m c + 1)) ∧ ∀ x j, linF b m w l r c = some (x, j) → DF J0 J' b m x j := by
    intro J5 x j h1 u5 c5 f2 f3 hl
    refine ⟨_, start J5 h1 (CT_c (fun a q h1 _ _ _ => u5 a q (by omega) (by omega)) hCJ) c5, fun hno => ?_, fun x' j' h' => ?_⟩
    · rw [hl] at hno; cases hno
    · rw [hl] at h'; cases h'
      refine ⟨fun a q h => ?_, ?_, ?_⟩
      · rw [xup_at, if_neg (by omega), u5 a q (by omega) (by omega)]; exact d1 a q h
      · rw [xup_at, if_neg (by omega)]; exact f2
      · rw [xup_at, if_neg (by omega)]; exact f3
  by_cases hbad : w * l ≤ tNu b m (c + 1)
  · have j0 : xup J1 2 4 (nI (c + 1 + 1)) 2 2 = 0 := by rw [xup_at, if_neg (by omega), v1 _ _ (by omega)]; exact d2
    have e2 : J2 2 2 = nI 4 ∧ J2 2 3 = nI (tSt b m (c + 1)) := by
      rw [hJ2, decide_eq_true hbad, blI_t j0, xup_at, if_neg (by omega), xup_at, if_pos ⟨rfl, rfl⟩, xup_at, if_pos ⟨rfl, rfl⟩]
      exact ⟨rfl, rfl⟩
    have f3 : J3 2 2 = nI 4 := by rw [hJ3, xup_at, if_neg (by omega)]; exact e2.1
    have nz : J3 2 2 ≠ 0 := by rw [f3]; decide
    have bd : badS b m w l r c = true := by unfold badS; rw [decide_eq_true hbad, Bool.true_or]
    refine flt (xup J3 2 4 (nI (c + 3 + jlT b m (c + 3)))) 4 (c + 1) ?_ (fun a q h1 h2 => by rw [xup_at, if_neg h2]; exact u3 a q h1 h2) (by rw [xup_at, if_pos ⟨rfl, rfl⟩, hE]) (by rw [xup_at, if_neg (by omega)]; exact f3) (by rw [xup_at, if_neg (by omega), hJ3, xup_at, if_neg (by omega)]; exact e2.2) (by rw [hlin, bd, if_pos rfl])
    unfold f_X1_takeTie_j22
    rw [kG2 hS, Option.bind_some, if_neg nz]
    exact j68f J3 hC3 c3 nz
  · have e2 : J2 = xup J1 2 4 (nI (c + 1 + 1)) := by rw [hJ2, decide_eq_false hbad, blI_f]
    have v3 : ∀ a q, ¬ (a = 2 ∧ q = 4) → J3 a q = J a q := fun a q h => by rw [hJ3, xup_at, if_neg h, e2, xup_at, if_neg h]; exact v1 a q h
    have z3 : J3 2 2 = 0 := by rw [v3 _ _ (by omega)]; exact d2
    have tp32 : tp < 32 := by rw [htp]; unfold tpl; split <;> omega
    have eo := endOf_ok (w, l, r) hg tp tp32
    have eo : f_X3_endOf (nI w) (nI l) (nI r) (nI tp) = some (oI (gTo (w, l, r) tp)) := eo
    have j22 : f_X1_takeTie_j22 (xw σ J3) 2 (nI tp) = if oI (gTo (w, l, r) tp) = (-1 : Int32) then f_X1_takeTie_j68 (xw σ (xup (xup J3 2 2 4) 2 3 (nI (tSt b m (c + 1))))) 2 (nI tp) else f_X1_takeTie_j68 (xw σ J3) 2 (nI tp) := by
      have e1 : nI (c + 3) - (2 : Int32) = nI (c + 1) := by rw [show (2 : Int32) = nI 2 from rfl, nn_sub (by omega)]; congr 1
      have pl := plAt_ok (σ := σ) hS hC3 (show c + 1 < T by omega)
      unfold f_X1_takeTie_j22
      rw [kG2 hS, Option.bind_some, if_pos z3, kG2 hS, Option.bind_some, kG2 hS, Option.bind_some, kG2 hS, Option.bind_some, v3 2 5 (by omega), v3 2 6 (by omega), v3 2 7 (by omega), d5.1, d5.2.1, d5.2.2, eo, Option.bind_some, xw_gR, kR2_0 hS, Option.bind_some, kG2 hS, Option.bind_some, c3, e1, xw_ck, kC3 hS, Option.bind_some, pl, Option.bind_some, xw_ck, kC2 hS, Option.bind_some, blame_0 hS z3, Option.bind_some]
    have bdS : badS b m w l r c = (gTo (w, l, r) tp).isNone := by
      unfold badS
      rw [decide_eq_false hbad, Bool.false_or, decide_eq_true hk, Bool.true_and, ← htp]
    cases hgt : gTo (w, l, r) tp with
    | none =>
      rw [hgt] at bdS j22
      rw [if_pos (show oI none = -1 from rfl)] at j22
      have bdS : badS b m w l r c = true := bdS
      have f4 : xup (xup J3 2 2 4) 2 3 (nI (tSt b m (c + 1))) 2 2 = nI 4 := by rw [xup_at, if_neg (by omega), xup_at, if_pos ⟨rfl, rfl⟩]; rfl
      have j := j68f (xup (xup J3 2 2 4) 2 3 (nI (tSt b m (c + 1)))) (CT_c (fun a q h1 _ _ _ => by rw [xup_at, if_neg (by omega), xup_at, if_neg (by omega)]; exact u3 a q (by omega) (by omega)) hCJ) (by rw [xup_at, if_neg (by omega), xup_at, if_neg (by omega)]; exact c3) (by rw [f4]; decide)
      exact flt _ 4 (c + 1) (j22.trans j) (fun a q h1 h2 => by rw [xup_at, if_neg h2, xup_at, if_neg (by omega), xup_at, if_neg (by omega)]; exact u3 a q h1 h2) (by rw [xup_at, if_pos ⟨rfl, rfl⟩, hE]) (by rw [xup_at, if_neg (by omega)]; exact f4) (by rw [xup_at, if_neg (by omega), xup_at, if_pos ⟨rfl, rfl⟩]) (by rw [hlin, bdS, if_pos rfl])
    | some e =>
      rw [hgt] at bdS j22
      have e16 := (gTo_b (w, l, r) hg tp tp32 e hgt).2.1
      have e16' : e < 16 := Nat.lt_of_lt_of_le e16 hwl
      rw [if_neg (show ¬ oI (some e) = -1 by have := nn_m1 (a := e) (by omega); show ¬ nI e = -1; rw [this]; exact id)] at j22
      have bd : badS b m w l r c = false := bdS
      have tj := takeJ_ok (σ := σ) (J := J3) hS hC3 hJ (by omega) c3
      have j0 : xup J3 2 4 (nI (c + 3 + jlT b m (c + 3))) 2 2 = 0 := by rw [xup_at, if_neg (by omega)]; exact z3
      by_cases h3 : 3 < tNu b m (jnT b m (c + 3))
      · rw [decide_eq_true h3, blI_t j0] at tj
        obtain ⟨J5, hJ5⟩ : ∃ J5, J5 = xup (xup (xup J3 2 4 (nI (c + 3 + jlT b m (c + 3)))) 2 2 3) 2 3 (nI (tSt b m (jnT b m (c + 3)))) := ⟨_, rfl⟩
        rw [← hJ5] at tj
        have f5 : J5 2 2 = nI 3 := by rw [hJ5, xup_at, if_neg (by omega), xup_at, if_pos ⟨rfl, rfl⟩]; rfl
        refine flt J5 3 (jnT b m (c + 3)) ?_ (fun a q h1 h2 => by rw [hJ5, xup_at, if_neg (by omega), xup_at, if_neg (by omega), xup_at, if_neg h2]; exact u3 a q h1 h2) (by rw [hJ5, xup_at, if_neg (by omega), xup_at, if_neg (by omega), xup_at, if_pos ⟨rfl, rfl⟩, hE]) f5 (by rw [hJ5, xup_at, if_pos ⟨rfl, rfl⟩]) (by rw [hlin, bd, if_neg (by decide), if_pos h3])
        rw [j22]
        unfold f_X1_takeTie_j68
        rw [xw_ck, kC2 hS, Option.bind_some, tj, Option.bind_some]
        dsimp only
        rw [kG2 hS, Option.bind_some, if_neg (by rw [f5]; decide)]
      · rw [decide_eq_false h3, blI_f] at tj
        obtain ⟨J4, hJ4⟩ : ∃ J4, J4 = xup J3 2 4 (nI (c + 3 + jlT b m (c + 3))) := ⟨_, rfl⟩
        rw [← hJ4] at tj j0
        have v4 : ∀ a q, ¬ (a = 2 ∧ q = 4) → J4 a q = J a q := fun a q h => by rw [hJ4, xup_at, if_neg h]; exact v3 a q h
        have sb := setBond_ok (σ := σ) (I := J4) (a := 8) hS suA_8 tp32 (iI (jvT b m (c + 3)))
        have j68 : f_X1_takeTie_j68 (xw σ J3) 2 (nI tp) = some (xw σ (xup (xup J4 9 tp (iI (jvT b m (c + 3)))) 2 11 (J 2 11 ||| ((1 : Int32) <<< (nI tp &&& 31))))) := by
          unfold f_X1_takeTie_j68
          rw [xw_ck, kC2 hS, Option.bind_some, tj, Option.bind_some]
          dsimp only
          rw [kG2 hS, Option.bind_some, if_pos j0, xw_gR, kR2_1 hS, Option.bind_some, xw_ck, kC8 hS, Option.bind_some, sb, Option.bind_some, kG2 hS, Option.bind_some, xup_at, if_neg (by omega), v4 2 11 (by omega), kP2 hS, Option.bind_some]
        refine ⟨_, start _ (j22.trans j68) (CT_c (fun a q h1 h2 h3 h4 => by rw [xup_at, if_neg (by omega), xup_at, if_neg (by omega)]; exact v4 a q (by omega)) hCJ) (by rw [xup_at, if_neg (by omega), xup_at, if_neg (by omega), hJ4, xup_at, if_pos ⟨rfl, rfl⟩, hE]), fun hno => ?_, fun x j hx1 => ?_⟩
        · have fr : ∀ a q, ¬ (a = 2 ∧ (q = 4 ∨ q = 11)) → a ≠ 9 → xup (xup (xup J4 9 tp (iI (jvT b m (c + 3)))) 2 11 (J 2 11 ||| ((1 : Int32) <<< (nI tp &&& 31)))) 2 4 (nI (lnE b m c + 1)) a q = J a q := fun a q h1 h2 => by rw [xup_at, if_neg (by omega), xup_at, if_neg (by omega), xup_at, if_neg (by omega)]; exact v4 a q (by omega)
          refine DR_next hT h4c hws hc hD (fun a q h => by rw [fr a q (by omega) (by omega)]; exact d1 a q h) (by rw [fr _ _ (by omega) (by omega)]; exact d2) (by rw [fr _ _ (by omega) (by omega)]; exact d3) (by rw [xup_at, if_pos ⟨rfl, rfl⟩]) (fun q h1 h2 => fr _ _ (by omega) (by omega)) ?_ ?_ ?_ (fun t ht => ?_) (fun i hi => ?_) ?_ (by rw [fr _ _ (by omega) (by omega)]; exact d10) (by rw [if_neg (by omega), fr _ _ (by omega) (by omega)]; exact d11)
          · rw [if_neg (by omega), fr _ _ (by omega) (by omega)]; exact d6.1
          · rw [if_neg (by omega), fr _ _ (by omega) (by omega)]; exact d6.2.1
          · rw [if_neg (by omega), fr _ _ (by omega) (by omega)]; exact d6.2.2
          · have e11 : xup (xup (xup J4 9 tp (iI (jvT b m (c + 3)))) 2 11 (J 2 11 ||| ((1 : Int32) <<< (nI tp &&& 31)))) 2 4 (nI (lnE b m c + 1)) 2 11 = J 2 11 ||| ((1 : Int32) <<< (nI tp &&& 31)) := by rw [xup_at, if_neg (by omega), xup_at, if_pos ⟨rfl, rfl⟩]
            have e9 : xup (xup (xup J4 9 tp (iI (jvT b m (c + 3)))) 2 11 (J 2 11 ||| ((1 : Int32) <<< (nI tp &&& 31)))) 2 4 (nI (lnE b m c + 1)) 9 t = if t = tp then iI (jvT b m (c + 3)) else J 9 t := by
              rw [xup_at, if_neg (by omega), xup_at, if_neg (by omega), xup_at]
              by_cases z : t = tp
              · rw [if_pos ⟨rfl, z⟩, if_pos z]
              · rw [if_neg (by omega), if_neg z]; exact v4 _ _ (by omega)
            rw [e11, e9, bt_set (by omega) (by omega)]
            by_cases z : t = tp
            · rw [if_pos ⟨hk, by rw [← htp]; exact z.symm⟩, if_pos z, decide_eq_true z, Bool.or_true]
              exact ⟨rfl, rfl⟩
            · rw [if_neg (fun y => z (by rw [htp]; exact y.2.symm)), if_neg z, decide_eq_false z, Bool.or_false]
              exact d7 t ht
          · rw [if_neg (by omega), fr _ _ (by omega) (by omega), fr 10 i (by omega) (by omega)]; exact d8 i hi
          · obtain ⟨p, u, p1, p2, p3, p4⟩ := d9
            refine ⟨p, u, by rw [fr _ _ (by omega) (by omega)]; exact p1, by rw [fr _ _ (by omega) (by omega)]; exact p2, fun i => ?_, fun i => ?_⟩
            · rw [if_neg (by omega)]; exact p3 i
            · rw [if_neg (by omega)]; exact p4 i
        · rw [hlin, bd, if_neg (by decide), if_neg h3] at hx1; cases hx1
/-- a line, whichever it is -/
theorem tell_ok (hS : Shp σ) (hC : CT J0 b m T) (hg : ((w, l, r) : GD) ∈ gAll) (h4c : 4 ≤ c) (hws : ws b m c = some 4) (hc : c < T) (hD : DR J0 J b m w l r c) : ∃ J', f_X1_takeTell (xw σ J) 2 = some (xw σ J') ∧ (linF b m w l r c = none → DR J0 J' b m w l r (lnE b m c + 1)) ∧ ∀ x j, linF b m w l r c = some (x, j) → DF J0 J' b m x j := by
  have hwl : w * l ≤ 16 := (gAll_b _ hg).2.2.1
  rcases (line_at hC.1 hws hc).1 with h | h | h | h | h | h
  · exact tell1 hS hC h4c hws hc hD h
  · obtain ⟨J', e, a1, a2⟩ := tell2 hS hC h4c hws hc hD h
    exact ⟨J', e, fun _ => a1, fun x j z => by rw [a2] at z; cases z⟩
  · exact tell3 hS hC hg h4c hws hc hD h
  · exact tell4 hS hC hwl h4c hws hc hD h
  · exact tell5 hS hC hwl h4c hws hc hD h
  · obtain ⟨J', e, a1, a2⟩ := tell6 hS hC h4c hws hc hD h
    exact ⟨J', e, fun _ => a1, fun x j z => by rw [a2] at z; cases z⟩
end TELL3
end
section
/-! the draft from its beginning to its last line -/
def rgN (b : Nat → Int32) (m : Nat) : Nat → Nat
  | 0 => 0
  | i + 1 => if tKd b m i = 9 then (if tKd b m (i + 1) = 6 then rgN b m i ||| 1 else rgN b m i ||| 2) else rgN b m i
theorem rgN_b (b : Nat → Int32) (m : Nat) : ∀ i, rgN b m i < 4
  | 0 => by show 0 < 4; omega
  | i + 1 => by
    have ih := rgN_b b m i
    have h : ∀ x, x < 4 → x ||| 1 < 4 ∧ x ||| 2 < 4 := by decide
    rw [rgN]
    split
    · split
      · exact (h _ ih).1
      · exact (h _ ih).2
    · exact ih
section BUILD
variable {σ : XS} {J0 J : Nat → Nat → Int32} {b : Nat → Int32} {m T w l r c : Nat}
theorem begin_ok (hS : Shp σ) : ∃ J', f_X1_begin (xw σ J) 2 = some (xw σ J') ∧ J' 2 2 = 0 ∧ J' 2 3 = -1 ∧ J' 2 4 = 0 ∧ J' 2 7 = 0 ∧ J' 2 8 = 0 ∧ J' 2 9 = 0 ∧ J' 2 10 = 0 ∧ J' 2 11 = 0 ∧ J' 2 12 = 0 ∧ (∀ t, t < 32 → J' 9 t = 0) ∧ (∀ i, i < 16 → J' 10 i = 0) ∧ J' 8 2 = 0 ∧ J' 8 3 = 0 ∧ J' 8 4 = 0 ∧ J' 8 5 = 0 ∧ ∀ a q, ¬ (a = 2 ∨ (8 ≤ a ∧ a ≤ 10)) → J' a q = J a q := by
  have K9 : σ.1 9 = (20, 32) := xw_K hS (by decide) (by decide) (by decide)
  have K10 : σ.1 10 = (20, 16) := xw_K hS (by decide) (by decide) (by decide)
  have f9 := fillI_ok (σ := σ) (I := J) (v := 0) K9 (by decide)
  obtain ⟨A, hA⟩ : ∃ A, A = xur J 9 (fun j => if j < 32 then 0 else J 9 j) := ⟨_, rfl⟩
  rw [← hA] at f9
  have f10 := fillI_ok (σ := σ) (I := A) (v := 0) K10 (by decide)
  obtain ⟨B, hB⟩ : ∃ B, B = xur A 10 (fun j => if j < 16 then 0 else A 10 j) := ⟨_, rfl⟩
  rw [← hB] at f10
  have cl : f_X6_clear (xw σ J) 8 = some (xw σ (xup (xup (xup (xup B 8 2 0) 8 3 0) 8 4 0) 8 5 0)) := by
    unfold f_X6_clear
    simp (disch := first | assumption | omega) only [Option.bind_some, Option.map_some, xw_gR, xw_gN, xw_al, xw_ck, xw_uI, xw_ur, xup_at, xur_at, if_true, if_false, reduceIte, and_true, true_and, and_false, false_and, not_true_eq_false, not_false_eq_true, Nat.reduceEqDiff, eq_self, Nat.reduceAdd, Nat.reduceMul, kC1, kG1, kP1, kR1_0, kR1_1, kR1_2, kR1_3, kR1_4, kR1_5, kR1_6, kR1_7, kR1_8, kR1_9, kR1_10, kR1_11, kR1_12, kR1_13, kC2, kG2, kP2, kR2_0, kR2_1, kC3, kG3, kP3, kR3_0, kR3_1, kR3_2, kR3_3, kL4, kA4, kS4, kL5, kA5, kS5, kL6, kA6, kS6, kL7, kA7, kS7, kC8, kG8, kP8, kR8_0, kR8_1, kL9, kA9, kS9, kL10, kA10, kS10, kC11, kG11, kP11, kR11_0, kR11_1, kR11_2, kR11_3, kL12, kA12, kS12, kL13, kA13, kS13, kL14, kA14, kS14, kL15, kA15, kS15, kC16, kG16, kP16, kR16_0, kR16_1, kL17, kA17, kS17, kL18, kA18, kS18, kC19, kG19, kP19, kR19_0, kL20, kL141, kL146, kA146, kS146, kL151, kA151, kS151, kL156, kA156, kS156, kC157, kG157, kP157, kR157_0, kR157_1, kL158, kA158, kS158, kL159, kA159, kS159, kC161, kG161, kP161, kR161_0, kR161_1, kL162, kA162, kS162, kL163, kA163, kS163, kC165, kG165, kP165, kR165_0, kR165_1, kR165_2, kR165_3, kL166, kA166, kS166, kL167, kA167, kS167, kL168, kA168, kS168, kL169, kA169, kS169, kC170, kG170, kP170, kR170_0, kR170_1, kR170_2, kL171, kA171, kS171, kL172, kA172, kS172, kL173, kA173, kS173, kC174, kG174, kP174, kR174_0, kR174_1, kR174_2, kR174_3, kR174_4, kL175, kA175, kS175, kL176, kA176, kS176, kL177, kA177, kS177, kL178, kA178, kS178, kL179, kC180, kG180, kP180, kL181, kL182, kA182, kS182, kC183, kG183, kP183, kR183_1, kR183_3, kR183_5, kR183_6, kR183_7, kR183_8, kR183_9, kR183_21, kR183_26, kR183_27, kR183_30, kR183_31, kR183_33, kR183_34, kR183_36, kR183_37, kR183_38, kR183_39, kR183_40, kR183_41, kR183_42, kR183_43, kR183_44, kL184, kA184, kS184, kL185, kA185, kS185, kL186, kA186, kS186, kL187, kA187, kS187, kL188, kA188, kS188, kL189, kL190, kL191, kA191, kS191, kL192, kA192, kS192, kL193, kA193, kS193, kL194, kA194, kS194, kL195, kA195, kS195, kL196, kA196, kS196, kL197, kA197, kS197, kL198, kA198, kS198, kL199, kA199, kS199, kL200, kA200, kS200, kL201, kL202, kA202, kS202, kL203, kA203, kS203, kL204, kA204, kS204, kL205, kL206, kA206, kS206, f9, f10]
  obtain ⟨C, hC⟩ : ∃ C, C = xup (xup (xup (xup B 8 2 0) 8 3 0) 8 4 0) 8 5 0 := ⟨_, rfl⟩
  rw [← hC] at cl
  have uB : ∀ a q, a ≠ 9 → a ≠ 10 → B a q = J a q := fun a q h1 h2 => by rw [hB, xur_at, if_neg h2, hA, xur_at, if_neg h1]
  have uC : ∀ a q, a ≠ 8 → C a q = B a q := fun a q h => by rw [hC, xup_at, if_neg (by omega), xup_at, if_neg (by omega), xup_at, if_neg (by omega), xup_at, if_neg (by omega)]
  refine ⟨xup (xup (xup (xup (xup (xup (xup (xup (xup C 2 2 0) 2 3 (-1)) 2 4 0) 2 7 0) 2 8 0) 2 9 0) 2 10 0) 2 11 0) 2 12 0, ?_, ?_, ?_, ?_, ?_, ?_, ?_, ?_, ?_, ?_, fun t ht => ?_, fun i hi => ?_, ?_, ?_, ?_, ?_, fun a q h => ?_⟩
  · unfold f_X1_begin
    simp (disch := first | assumption | omega) only [Option.bind_some, Option.map_some, xw_gR, xw_gN, xw_al, xw_ck, xw_uI, xw_ur, xup_at, xur_at, if_true, if_false, reduceIte, and_true, true_and, and_false, false_and, not_true_eq_false, not_false_eq_true, Nat.reduceEqDiff, eq_self, Nat.reduceAdd, Nat.reduceMul, kC1, kG1, kP1, kR1_0, kR1_1, kR1_2, kR1_3, kR1_4, kR1_5, kR1_6, kR1_7, kR1_8, kR1_9, kR1_10, kR1_11, kR1_12, kR1_13, kC2, kG2, kP2, kR2_0, kR2_1, kC3, kG3, kP3, kR3_0, kR3_1, kR3_2, kR3_3, kL4, kA4, kS4, kL5, kA5, kS5, kL6, kA6, kS6, kL7, kA7, kS7, kC8, kG8, kP8, kR8_0, kR8_1, kL9, kA9, kS9, kL10, kA10, kS10, kC11, kG11, kP11, kR11_0, kR11_1, kR11_2, kR11_3, kL12, kA12, kS12, kL13, kA13, kS13, kL14, kA14, kS14, kL15, kA15, kS15, kC16, kG16, kP16, kR16_0, kR16_1, kL17, kA17, kS17, kL18, kA18, kS18, kC19, kG19, kP19, kR19_0, kL20, kL141, kL146, kA146, kS146, kL151, kA151, kS151, kL156, kA156, kS156, kC157, kG157, kP157, kR157_0, kR157_1, kL158, kA158, kS158, kL159, kA159, kS159, kC161, kG161, kP161, kR161_0, kR161_1, kL162, kA162, kS162, kL163, kA163, kS163, kC165, kG165, kP165, kR165_0, kR165_1, kR165_2, kR165_3, kL166, kA166, kS166, kL167, kA167, kS167, kL168, kA168, kS168, kL169, kA169, kS169, kC170, kG170, kP170, kR170_0, kR170_1, kR170_2, kL171, kA171, kS171, kL172, kA172, kS172, kL173, kA173, kS173, kC174, kG174, kP174, kR174_0, kR174_1, kR174_2, kR174_3, kR174_4, kL175, kA175, kS175, kL176, kA176, kS176, kL177, kA177, kS177, kL178, kA178, kS178, kL179, kC180, kG180, kP180, kL181, kL182, kA182, kS182, kC183, kG183, kP183, kR183_1, kR183_3, kR183_5, kR183_6, kR183_7, kR183_8, kR183_9, kR183_21, kR183_26, kR183_27, kR183_30, kR183_31, kR183_33, kR183_34, kR183_36, kR183_37, kR183_38, kR183_39, kR183_40, kR183_41, kR183_42, kR183_43, kR183_44, kL184, kA184, kS184, kL185, kA185, kS185, kL186, kA186, kS186, kL187, kA187, kS187, kL188, kA188, kS188, kL189, kL190, kL191, kA191, kS191, kL192, kA192, kS192, kL193, kA193, kS193, kL194, kA194, kS194, kL195, kA195, kS195, kL196, kA196, kS196, kL197, kA197, kS197, kL198, kA198, kS198, kL199, kA199, kS199, kL200, kA200, kS200, kL201, kL202, kA202, kS202, kL203, kA203, kS203, kL204, kA204, kS204, kL205, kL206, kA206, kS206, cl]
  · simp [xup_at]
  · simp [xup_at]
  · simp [xup_at]
  · simp [xup_at]
  · simp [xup_at]
  · simp [xup_at]
  · simp [xup_at]
  · simp [xup_at]
  · simp [xup_at]
  · have : C 9 t = 0 := by rw [uC _ _ (by omega), hB, xur_at, if_neg (by omega), hA, xur_at, if_pos rfl, if_pos ht]
    simp [xup_at, this]
  · have : C 10 i = 0 := by rw [uC _ _ (by omega), hB, xur_at, if_pos rfl, if_pos hi]
    simp [xup_at, this]
  · have : C 8 2 = 0 := by rw [hC]; simp [xup_at]
    simp [xup_at, this]
  · have : C 8 3 = 0 := by rw [hC]; simp [xup_at]
    simp [xup_at, this]
  · have : C 8 4 = 0 := by rw [hC]; simp [xup_at]
    simp [xup_at, this]
  · have : C 8 5 = 0 := by rw [hC]; simp [xup_at]
    simp [xup_at, this]
  · rw [xup_at, if_neg (by omega), xup_at, if_neg (by omega), xup_at, if_neg (by omega), xup_at, if_neg (by omega), xup_at, if_neg (by omega), xup_at, if_neg (by omega), xup_at, if_neg (by omega), xup_at, if_neg (by omega), xup_at, if_neg (by omega), uC a q (by omega), uB a q (by omega) (by omega)]
theorem takeSize_ok (hS : Shp σ) (hC : CT J b m T) (h4 : J 2 4 = 0) (h2 : J 2 2 = 0) : ∃ J', f_X1_takeSize (xw σ J) 2 = some (xw σ J') ∧ J' 2 4 = nI 4 ∧ J' 2 5 = nI (tNu b m 1) ∧ J' 2 6 = nI (tNu b m 2) ∧ (szF (tNu b m 1) (tNu b m 2) = none → J' 2 2 = J 2 2 ∧ J' 2 3 = J 2 3) ∧ (∀ x j, szF (tNu b m 1) (tNu b m 2) = some (x, j) → J' 2 2 = nI x ∧ J' 2 3 = nI (tSt b m j)) ∧ ∀ a q, ¬ (a = 2 ∧ 2 ≤ q ∧ q ≤ 6) → J' a q = J a q := by
  have hT := hC.1
  obtain ⟨T4, k0, k1, k2, k3, -⟩ := head_at hT
  have T400 := hT.2.1
  have V1 := tNu_b k1
  have V2 := tNu_b k2
  obtain ⟨w, hw⟩ : ∃ w, w = tNu b m 1 := ⟨_, rfl⟩
  obtain ⟨l, hl⟩ : ∃ l, l = tNu b m 2 := ⟨_, rfl⟩
  rw [← hw, ← hl]
  have hwl : w * l < 2147483648 := by
    have : w * l ≤ 10000 * 10000 := Nat.mul_le_mul (by omega) (by omega)
    omega
  have cc : ∀ {J1 : Nat → Nat → Int32}, (∀ a q, a ≠ 2 → J1 a q = J a q) → CT J1 b m T := fun h => CT_c (fun a q h1 _ _ _ => h a q h1) hC
  have t0 := tkKind (σ := σ) (c := 0) hS hC (by omega) h4
  obtain ⟨A, hA⟩ : ∃ A, A = xup J 2 4 (nI (0 + 1)) := ⟨_, rfl⟩
  rw [← hA] at t0
  have uA : ∀ a q, ¬ (a = 2 ∧ q = 4) → A a q = J a q := fun a q h => by rw [hA, xup_at, if_neg h]
  have t1 := tkInt (σ := σ) (J := A) (c := 1) hS (cc (fun a q h => uA a q (by omega))) (by omega) k1 (by rw [hA, xup_at, if_pos ⟨rfl, rfl⟩])
  rw [← hw] at t1
  obtain ⟨B, hB⟩ : ∃ B, B = xup (xup A 2 4 (nI (1 + 1))) 2 5 (nI w) := ⟨_, rfl⟩
  have uB : ∀ a q, ¬ (a = 2 ∧ (q = 4 ∨ q = 5)) → B a q = J a q := fun a q h => by rw [hB, xup_at, if_neg (by omega), xup_at, if_neg (by omega), uA a q (by omega)]
  have B5 : B 2 5 = nI w := by rw [hB, xup_at, if_pos ⟨rfl, rfl⟩]
  have B4 : B 2 4 = nI 2 := by rw [hB, xup_at, if_neg (by omega), xup_at, if_pos ⟨rfl, rfl⟩]
  -- the first blame
  obtain ⟨C, hCC⟩ : ∃ C, C = blI B (decide (w < 1 ∨ 4 < w)) 3 (nI (tSt b m 1)) := ⟨_, rfl⟩
  have uC : ∀ a q, ¬ (a = 2 ∧ (q = 2 ∨ q = 3)) → C a q = B a q := fun a q h => by rw [hCC, blI_out h]
  have pl1 := plAt_ok (σ := σ) (J := B) (i := 1) hS (cc (fun a q h => uB a q (by omega))) (by omega)
  have t2 := tkInt (σ := σ) (J := C) (c := 2) hS (cc (fun a q h => by rw [uC a q (by omega)]; exact uB a q (by omega))) (by omega) k2 (by rw [uC _ _ (by omega)]; exact B4)
  rw [← hl] at t2
  obtain ⟨D, hD⟩ : ∃ D, D = xup (xup C 2 4 (nI (2 + 1))) 2 6 (nI l) := ⟨_, rfl⟩
  have uD : ∀ a q, ¬ (a = 2 ∧ (q = 4 ∨ q = 6)) → D a q = C a q := fun a q h => by rw [hD, xup_at, if_neg (by omega), xup_at, if_neg (by omega)]
  have D6 : D 2 6 = nI l := by rw [hD, xup_at, if_pos ⟨rfl, rfl⟩]
  have D5 : D 2 5 = nI w := by rw [uD _ _ (by omega), uC _ _ (by omega)]; exact B5
  have D4 : D 2 4 = nI 3 := by rw [hD, xup_at, if_neg (by omega), xup_at, if_pos ⟨rfl, rfl⟩]
  obtain ⟨E, hE⟩ : ∃ E, E = blI D (decide (l < 1 ∨ 16 < l ∨ 16 < w * l)) 3 (nI (tSt b m 2)) := ⟨_, rfl⟩
  have uE : ∀ a q, ¬ (a = 2 ∧ (q = 2 ∨ q = 3)) → E a q = D a q := fun a q h => by rw [hE, blI_out h]
  have hCD : CT D b m T := cc (fun a q h => by rw [uD a q (by omega), uC a q (by omega)]; exact uB a q (by omega))
  have pl2 := plAt_ok (σ := σ) (J := D) (i := 2) hS hCD (by omega)
  have hCE : CT E b m T := CT_c (fun a q h1 _ _ _ => uE a q (by omega)) hCD
  have t3 := tkKind (σ := σ) (J := E) (c := 3) hS hCE (by omega) (by rw [uE _ _ (by omega)]; exact D4)
  have B2 : B 2 2 = 0 := by rw [uB _ _ (by omega)]; exact h2
  refine ⟨xup E 2 4 (nI (3 + 1)), ?_, by rw [xup_at, if_pos ⟨rfl, rfl⟩], by rw [xup_at, if_neg (by omega), uE _ _ (by omega)]; exact D5, by rw [xup_at, if_neg (by omega), uE _ _ (by omega)]; exact D6, fun hz => ?_, fun x j hz => ?_, fun a q h => ?_⟩
  · -- from the end
    have j104 : f_X1_takeSize_j104 (xw σ E) 2 = some (xw σ (xup E 2 4 (nI (3 + 1)))) := by
      unfold f_X1_takeSize_j104
      rw [xw_ck, kC2 hS, Option.bind_some, t3, Option.bind_some]
    have e2 : nI 3 - (1 : Int32) = nI 2 := by decide
    have e1 : nI 2 - (1 : Int32) = nI 1 := by decide
    have j47 : f_X1_takeSize_j47 (xw σ C) 2 = some (xw σ (xup E 2 4 (nI (3 + 1)))) := by
      have j86 : (l < 1 ∨ 16 < l ∨ 16 < w * l) → f_X1_takeSize_j86 (xw σ D) 2 = some (xw σ (xup E 2 4 (nI (3 + 1)))) := by
        intro hb
        unfold f_X1_takeSize_j86
        rw [xw_gR, kR2_0 hS, Option.bind_some, kG2 hS, Option.bind_some, D4, e2, xw_ck, kC3 hS, Option.bind_some, pl2, Option.bind_some, xw_ck, kC2 hS, Option.bind_some, blame_b hS, Option.bind_some]
        rw [decide_eq_true hb] at hE
        rw [← hE]
        exact j104
      have q1 : (nI l < (1 : Int32)) = (l < 1) := nn_lt (b := 1) (by omega) (by decide)
      have q2 : ((16 : Int32) < nI l) = (16 < l) := nn_lt (a := 16) (by decide) (by omega)
      have q3 : (nI w * nI l ≤ (16 : Int32)) = (w * l ≤ 16) := by rw [nn_mul]; exact nn_le (b := 16) (by omega) (by decide)
      unfold f_X1_takeSize_j47
      rw [xw_ck, kC2 hS, Option.bind_some, t2, Option.bind_some]
      dsimp only
      rw [kP2 hS, Option.bind_some, ← hD]
      simp only [kG2 hS, Option.bind_some, D6, D5, q1, q2, q3]
      by_cases a1 : l < 1
      · rw [if_pos a1]; exact j86 (.inl a1)
      · rw [if_neg a1]
        by_cases a2 : 16 < l
        · rw [if_pos a2]; exact j86 (.inr (.inl a2))
        · rw [if_neg a2]
          by_cases a3 : w * l ≤ 16
          · rw [if_pos a3]
            have hb : ¬ (l < 1 ∨ 16 < l ∨ 16 < w * l) := by omega
            rw [decide_eq_false hb, blI_f] at hE
            rw [hE] at j104
            rw [hE]
            exact j104
          · rw [if_neg a3]; exact j86 (.inr (.inr (by omega)))
    have j29 : (w < 1 ∨ 4 < w) → f_X1_takeSize_j29 (xw σ B) 2 = some (xw σ (xup E 2 4 (nI (3 + 1)))) := by
      intro hb
      unfold f_X1_takeSize_j29
      rw [xw_gR, kR2_0 hS, Option.bind_some, kG2 hS, Option.bind_some, B4, e1, xw_ck, kC3 hS, Option.bind_some, pl1, Option.bind_some, xw_ck, kC2 hS, Option.bind_some, blame_b hS, Option.bind_some]
      rw [decide_eq_true hb] at hCC
      rw [← hCC]
      exact j47
    have q1 : (nI w < (1 : Int32)) = (w < 1) := nn_lt (b := 1) (by omega) (by decide)
    have q2 : (nI w ≤ (4 : Int32)) = (w ≤ 4) := nn_le (b := 4) (by omega) (by decide)
    unfold f_X1_takeSize
    rw [xw_ck, kC2 hS, Option.bind_some, t0, Option.bind_some]
    dsimp only
    rw [xw_ck, kC2 hS, Option.bind_some, t1, Option.bind_some]
    dsimp only
    rw [kP2 hS, Option.bind_some, ← hB]
    simp only [kG2 hS, Option.bind_some, B5, q1, q2]
    by_cases a1 : w < 1
    · rw [if_pos a1]; exact j29 (.inl a1)
    · rw [if_neg a1]
      by_cases a2 : w ≤ 4
      · rw [if_pos a2]
        have hb : ¬ (w < 1 ∨ 4 < w) := by omega
        rw [decide_eq_false hb, blI_f] at hCC
        rw [← hCC]
        exact j47
      · rw [if_neg a2]; exact j29 (.inr (by omega))
  · unfold szF at hz
    split at hz
    · cases hz
    · next n1 =>
      split at hz
      · cases hz
      · next n2 =>
        rw [decide_eq_false n1, blI_f] at hCC
        rw [decide_eq_false n2, blI_f] at hE
        rw [xup_at, if_neg (by omega), xup_at, if_neg (by omega), hE, uD _ _ (by omega), uD _ _ (by omega), hCC]
        exact ⟨uB _ _ (by omega), uB _ _ (by omega)⟩
  · rw [xup_at, if_neg (by omega), xup_at, if_neg (by omega)]
    unfold szF at hz
    split at hz
    · next n1 =>
      cases hz
      rw [decide_eq_true n1, blI_t B2] at hCC
      have C2 : C 2 2 = nI 3 := by rw [hCC, xup_at, if_neg (by omega), xup_at, if_pos ⟨rfl, rfl⟩]; rfl
      have D2 : D 2 2 ≠ 0 := by rw [uD _ _ (by omega), C2]; decide
      rw [blI_n D2] at hE
      rw [hE, uD _ _ (by omega), uD _ _ (by omega), C2]
      refine ⟨rfl, ?_⟩
      rw [hCC, xup_at, if_pos ⟨rfl, rfl⟩]
    · next n1 =>
      split at hz
      · next n2 =>
        cases hz
        rw [decide_eq_false n1, blI_f] at hCC
        have D2 : D 2 2 = 0 := by rw [uD _ _ (by omega), hCC]; exact B2
        rw [decide_eq_true n2, blI_t D2] at hE
        rw [hE, xup_at, if_neg (by omega), xup_at, if_pos ⟨rfl, rfl⟩, xup_at, if_pos ⟨rfl, rfl⟩]
        exact ⟨rfl, rfl⟩
      · cases hz
  · rw [xup_at, if_neg (by omega), uE a q (by omega), uD a q (by omega), uC a q (by omega), uB a q (by omega)]
theorem rings_ok (hS : Shp σ) (hC : CT J b m T) (h4 : J 2 4 = nI 4) (h7 : J 2 7 = 0) : ∃ J', f_X1_seeRings (xw σ J) 2 = some (xw σ J') ∧ J' 2 7 = nI (rgN b m T) ∧ ∀ a q, ¬ (a = 2 ∧ q = 7) → J' a q = J a q := by
  have hT := hC.1
  obtain ⟨T4, k0, k1, k2, k3, -⟩ := head_at hT
  have T400 := hT.2.1
  have r4 : rgN b m 4 = 0 := by
    have e : ∀ i, i < 4 → tKd b m i ≠ 9 := fun i hi => by
      rcases (show i = 0 ∨ i = 1 ∨ i = 2 ∨ i = 3 by omega) with z | z | z | z <;> rw [z] <;> omega
    have : ∀ i, i ≤ 4 → rgN b m i = 0 := fun i => by
      induction i with
      | zero => intro _; rfl
      | succ i ih => intro h; rw [rgN, if_neg (e i (by omega))]; exact ih (by omega)
    exact this 4 (Nat.le_refl _)
  have e0 : xup J 2 7 (nI (rgN b m (4 + 0))) = J := by
    funext a q
    rw [xup_at]
    by_cases z : a = 2 ∧ q = 7
    · rw [if_pos z, z.1, z.2, h7]
      show nI (rgN b m 4) = 0
      rw [r4]; rfl
    · rw [if_neg z]
  refine ⟨xup J 2 7 (nI (rgN b m T)), ?_, by rw [xup_at, if_pos ⟨rfl, rfl⟩], fun a q h => by rw [xup_at, if_neg h]⟩
  unfold f_X1_seeRings
  rw [kG2 hS, Option.bind_some, h4]
  have hCi : ∀ v, CT (xup J 2 7 v) b m T := fun v => CT_c (fun a q h1 _ _ _ => by rw [xup_at, if_neg (by omega)]) hC
  refine xforE (fun i : Nat => (nI (4 + i), xw σ (xup J 2 7 (nI (rgN b m (4 + i)))))) (T - 4) (by simp only [e0]) (fun i hi => ?_) ?_
  · have v5 : xup J 2 7 (nI (rgN b m (4 + i))) 3 5 = nI T := by rw [xup_at, if_neg (by omega)]; exact hC.2.1
    have q1 : (nI T ≤ nI (4 + i)) = False := by rw [nn_le (by omega) (by omega)]; exact eq_false (by omega)
    have ka := kindAt_ok (σ := σ) hS (hCi (nI (rgN b m (4 + i)))) (show 4 + i ≤ T by omega)
    have kb := kindAt_ok (σ := σ) hS (hCi (nI (rgN b m (4 + i)))) (show 4 + i + 1 ≤ T by omega)
    have kk := tKd_b (b := b) (m := m) (4 + i)
    have kk2 := tKd_b (b := b) (m := m) (4 + i + 1)
    have q9 : (nI (tKd b m (4 + i)) = (9 : Int32)) = (tKd b m (4 + i) = 9) := nn_eq (b := 9) (by omega) (by decide)
    have q6 : (nI (tKd b m (4 + i + 1)) = (6 : Int32)) = (tKd b m (4 + i + 1) = 6) := nn_eq (b := 6) (by omega) (by decide)
    have u7 : xup J 2 7 (nI (rgN b m (4 + i))) 2 7 = nI (rgN b m (4 + i)) := by rw [xup_at, if_pos ⟨rfl, rfl⟩]
    have er : rgN b m (4 + (i + 1)) = if tKd b m (4 + i) = 9 then (if tKd b m (4 + i + 1) = 6 then rgN b m (4 + i) ||| 1 else rgN b m (4 + i) ||| 2) else rgN b m (4 + i) := rfl
    have o1 : nI (rgN b m (4 + i)) ||| (1 : Int32) = nI (rgN b m (4 + i) ||| 1) := fa_or _ 1
    have o2 : nI (rgN b m (4 + i)) ||| (2 : Int32) = nI (rgN b m (4 + i) ||| 2) := fa_or _ 2
    have es : nI (4 + i) + (1 : Int32) = nI (4 + i + 1) := (nI_succ (4 + i)).symm
    simp only [f_X1_seeRings_b5]
    simp only [xw_gR, kR2_0 hS, kG3 hS, v5, q1, if_false, Option.bind_some, xw_ck, kC3 hS, ka, kG2 hS, u7, es, kb, o1, o2, kP2 hS, xup2, er, q9, q6]
    by_cases z1 : tKd b m (4 + i) = 9
    · rw [if_pos z1, if_pos z1]
      by_cases z2 : tKd b m (4 + i + 1) = 6
      · rw [if_pos z2, if_pos z2]; rfl
      · rw [if_neg z2, if_neg z2]; rfl
    · rw [if_neg z1, if_neg z1]; rfl
  · have e : 4 + (T - 4) = T := by omega
    have v5 : xup J 2 7 (nI (rgN b m T)) 3 5 = nI T := by rw [xup_at, if_neg (by omega)]; exact hC.2.1
    have q1 : (nI T ≤ nI T) = True := by rw [nn_le (by omega) (by omega)]; exact eq_true (Nat.le_refl _)
    simp only [f_X1_seeRings_b5, e]
    simp (disch := first | assumption | omega) only [Option.bind_some, Option.map_some, xw_gR, xw_gN, xw_al, xw_ck, xw_uI, xw_ur, xup_at, xur_at, if_true, if_false, reduceIte, and_true, true_and, and_false, false_and, not_true_eq_false, not_false_eq_true, Nat.reduceEqDiff, eq_self, Nat.reduceAdd, Nat.reduceMul, kC1, kG1, kP1, kR1_0, kR1_1, kR1_2, kR1_3, kR1_4, kR1_5, kR1_6, kR1_7, kR1_8, kR1_9, kR1_10, kR1_11, kR1_12, kR1_13, kC2, kG2, kP2, kR2_0, kR2_1, kC3, kG3, kP3, kR3_0, kR3_1, kR3_2, kR3_3, kL4, kA4, kS4, kL5, kA5, kS5, kL6, kA6, kS6, kL7, kA7, kS7, kC8, kG8, kP8, kR8_0, kR8_1, kL9, kA9, kS9, kL10, kA10, kS10, kC11, kG11, kP11, kR11_0, kR11_1, kR11_2, kR11_3, kL12, kA12, kS12, kL13, kA13, kS13, kL14, kA14, kS14, kL15, kA15, kS15, kC16, kG16, kP16, kR16_0, kR16_1, kL17, kA17, kS17, kL18, kA18, kS18, kC19, kG19, kP19, kR19_0, kL20, kL141, kL146, kA146, kS146, kL151, kA151, kS151, kL156, kA156, kS156, kC157, kG157, kP157, kR157_0, kR157_1, kL158, kA158, kS158, kL159, kA159, kS159, kC161, kG161, kP161, kR161_0, kR161_1, kL162, kA162, kS162, kL163, kA163, kS163, kC165, kG165, kP165, kR165_0, kR165_1, kR165_2, kR165_3, kL166, kA166, kS166, kL167, kA167, kS167, kL168, kA168, kS168, kL169, kA169, kS169, kC170, kG170, kP170, kR170_0, kR170_1, kR170_2, kL171, kA171, kS171, kL172, kA172, kS172, kL173, kA173, kS173, kC174, kG174, kP174, kR174_0, kR174_1, kR174_2, kR174_3, kR174_4, kL175, kA175, kS175, kL176, kA176, kS176, kL177, kA177, kS177, kL178, kA178, kS178, kL179, kC180, kG180, kP180, kL181, kL182, kA182, kS182, kC183, kG183, kP183, kR183_1, kR183_3, kR183_5, kR183_6, kR183_7, kR183_8, kR183_9, kR183_21, kR183_26, kR183_27, kR183_30, kR183_31, kR183_33, kR183_34, kR183_36, kR183_37, kR183_38, kR183_39, kR183_40, kR183_41, kR183_42, kR183_43, kR183_44, kL184, kA184, kS184, kL185, kA185, kS185, kL186, kA186, kS186, kL187, kA187, kS187, kL188, kA188, kS188, kL189, kL190, kL191, kA191, kS191, kL192, kA192, kS192, kL193, kA193, kS193, kL194, kA194, kS194, kL195, kA195, kS195, kL196, kA196, kS196, kL197, kA197, kS197, kL198, kA198, kS198, kL199, kA199, kS199, kL200, kA200, kS200, kL201, kL202, kA202, kS202, kL203, kA203, kS203, kL204, kA204, kS204, kL205, kL206, kA206, kS206, v5, q1]
theorem fF_stay {x : Nat × Nat} {k : Nat} (h : fFF b m w l r k = some x) : ∀ e, k ≤ e → fFF b m w l r e = some x
  | 0, he => by rw [show k = 0 by omega] at h; exact h
  | e + 1, he => by
    by_cases z : k = e + 1
    · rw [← z]; exact h
    · have ih := fF_stay h e (by omega)
      unfold fFF at ih ⊢
      rw [foldL]
      by_cases hl : lsB b m e = true
      · rw [if_pos hl, ih]
      · rw [if_neg hl]; exact ih
theorem build_l (hS : Shp σ) (hC : CT J0 b m T) (hg : ((w, l, r) : GD) ∈ gAll) : ∀ k c n J, T - c ≤ k → n ≤ c → 4 ≤ c → c ≤ T → ws b m c = some 4 → DR J0 J b m w l r c → fFF b m w l r c = none → ∃ J1, (fFF b m w l r T = none → DR J0 J1 b m w l r T) ∧ (∀ x j, fFF b m w l r T = some (x, j) → DF J0 J1 b m x j) ∧ ∀ z, f_X1_build_j77 (xw σ J1) 2 = some z → xloop (f_X1_build_b39 2) (nI n, xw σ J) = some z := by
  have hT := hC.1
  have T400 := hT.2.1
  have last : ∀ c n J, n ≤ c → c = T → DR J0 J b m w l r c → ∀ z, f_X1_build_j77 (xw σ J) 2 = some z → xloop (f_X1_build_b39 2) (nI n, xw σ J) = some z := by
    intro c n J hn hc hD z hz
    refine xloop_end ?_
    have v5 : J 3 5 = nI T := by rw [hD.1 3 5 (by omega)]; exact hC.2.1
    have q1 : (nI T ≤ nI c) = True := by rw [nn_le (by omega) (by omega)]; exact eq_true (by omega)
    simp only [f_X1_build_b39]
    by_cases h400 : (400 : Int32) ≤ nI n
    · rw [if_pos h400, hz]; rfl
    · rw [if_neg h400, kG2 hS, Option.bind_some, if_pos hD.2.1, kG2 hS, Option.bind_some, hD.2.2.2.1, xw_gR, kR2_0 hS, Option.bind_some, kG3 hS, Option.bind_some, v5, if_pos (by rw [q1]; trivial), hz]
      rfl
  intro k
  induction k with
  | zero =>
    intro c n J hk hn h4 hc hws hD hF
    have e : c = T := by omega
    refine ⟨J, fun _ => by rw [← e]; exact hD, (fun x j hx1 => by rw [← e, hF] at hx1; cases hx1), last c n J hn e hD⟩
  | succ k ih =>
    intro c n J hk hn h4 hc hws hD hF
    by_cases e : c = T
    · exact ⟨J, fun _ => by rw [← e]; exact hD, (fun x j hx1 => by rw [← e, hF] at hx1; cases hx1), last c n J hn e hD⟩
    · have hcT : c < T := by omega
      obtain ⟨J2, e2, a1, a2⟩ := tell_ok (σ := σ) hS hC hg h4 hws hcT hD
      obtain ⟨-, l1, l2, l3, l4⟩ := line_at hT hws hcT
      have v5 : J 3 5 = nI T := by rw [hD.1 3 5 (by omega)]; exact hC.2.1
      have q0 : ((400 : Int32) ≤ nI n) = False := by rw [show (400 : Int32) = nI 400 from rfl, nn_le (by omega) (by omega)]; exact eq_false (by omega)
      have q1 : (nI T ≤ nI c) = False := by rw [nn_le (by omega) (by omega)]; exact eq_false (by omega)
      have stp : f_X1_build_b39 2 (nI n, xw σ J) = some (.inl (nI (n + 1), xw σ J2)) := by
        simp only [f_X1_build_b39]
        rw [if_neg (by rw [q0]; exact id), kG2 hS, Option.bind_some, if_pos hD.2.1, kG2 hS, Option.bind_some, hD.2.2.2.1, xw_gR, kR2_0 hS, Option.bind_some, kG3 hS, Option.bind_some, v5, if_neg (by rw [q1]; exact id), xw_ck, kC2 hS, Option.bind_some, e2, Option.bind_some, nI_succ]
      have eF : fFF b m w l r (lnE b m c + 1) = linF b m w l r c := by
        unfold fFF at hF ⊢
        rw [foldL_line _ _ hT h4 hws hcT, hF]
      cases hl : linF b m w l r c with
      | none =>
        obtain ⟨J1, b1, b2, b3⟩ := ih (lnE b m c + 1) (n + 1) J2 (by omega) (by omega) (by omega) l3 l2 (a1 hl) (by rw [eF]; exact hl)
        exact ⟨J1, b1, b2, fun z hz => by rw [xloop_step stp]; exact b3 z hz⟩
      | some x =>
        have hFT : fFF b m w l r T = some x := fF_stay (by rw [eF]; exact hl) T (by omega)
        refine ⟨J2, fun z => (by rw [hFT] at z; cases z), fun x' j' z => ?_, fun z hz => ?_⟩
        · rw [hFT] at z; cases z
          exact a2 x' j' hl
        · rw [xloop_step stp]
          refine xloop_end ?_
          have hd := a2 x.1 x.2 hl
          have xs := ff_in hT hFT
          have nz : J2 2 2 ≠ 0 := by rw [hd.2.1]; exact nI_ne0 (by omega) (by omega)
          simp only [f_X1_build_b39]
          by_cases h400 : (400 : Int32) ≤ nI (n + 1)
          · rw [if_pos h400, hz]; rfl
          · rw [if_neg h400, kG2 hS, Option.bind_some, if_neg nz, hz]
            rfl
end BUILD
end
section
/-! what is told is right; what is untold is given -/
section UNT
variable {σ : XS} {J0 J : Nat → Nat → Int32} {b : Nat → Int32} {m T w l r : Nat}
theorem foldL_ind {α : Type} (P : α → Prop) {a0 : α} {f : Nat → α → α} (h0 : P a0) : ∀ e, (∀ k, k < e → lsB b m k = true → ∀ a, P a → P (f k a)) → P (foldL b m a0 f e)
  | 0, _ => h0
  | e + 1, h => by
    have ih := foldL_ind P h0 e (fun k hk => h k (by omega))
    rw [foldL]
    by_cases hl : lsB b m e = true
    · rw [if_pos hl]; exact h e (by omega) hl _ ih
    · rw [if_neg hl]; exact ih
theorem jv_b {t : Nat} (h : tNu b m (jnT b m t) ≤ 3) : -3 ≤ jvT b m t ∧ jvT b m t ≤ 3 := by
  unfold jnT at h
  unfold jvT
  split
  · next z => rw [if_pos z] at h; omega
  · next z => rw [if_neg z] at h; omega
theorem al_b (hF : fFF b m w l r T = none) {c : Nat} (hc : c = 6 ∨ c = 7 ∨ c = 8) : -3 ≤ aLL b m c T ∧ aLL b m c T ≤ 3 := by
  refine foldL_ind (fun a => -3 ≤ a ∧ a ≤ 3) (by omega) T (fun k hk hl a ha => ?_)
  have hn := (fF_none T hF).2 k hk hl
  show -3 ≤ (if tKd b m k = c then jvT b m (k + 1) else a) ∧ (if tKd b m k = c then jvT b m (k + 1) else a) ≤ 3
  by_cases z : tKd b m k = c
  · rw [if_pos z]
    unfold linF at hn
    rw [if_pos (by omega)] at hn
    split at hn
    · cases hn
    · next q => exact jv_b (by omega)
  · rw [if_neg z]; exact ha
theorem ti_b (hF : fFF b m w l r T = none) {t : Nat} : ∀ v, tII b m t T = some v → (-3 ≤ v ∧ v ≤ 3) ∧ (gTo (w, l, r) t).isSome = true := by
  refine foldL_ind (fun a => ∀ v, a = some v → (-3 ≤ v ∧ v ≤ 3) ∧ (gTo (w, l, r) t).isSome = true) (fun v h => by cases h) T (fun k hk hl a ha => ?_)
  have hn := (fF_none T hF).2 k hk hl
  intro v hv
  have hv : (if tKd b m k = 10 ∧ tpl b m k = t then some (jvT b m (k + 3)) else a) = some v := hv
  by_cases z : tKd b m k = 10 ∧ tpl b m k = t
  · rw [if_pos z] at hv
    cases hv
    unfold linF at hn
    rw [if_neg (by omega), if_pos z.1] at hn
    split at hn
    · cases hn
    · next q1 =>
      split at hn
      · cases hn
      · next q2 =>
        refine ⟨jv_b (by omega), ?_⟩
        unfold badS at q1
        rw [z.2] at q1
        cases hg : gTo (w, l, r) t with
        | some e => rfl
        | none =>
          rw [hg, decide_eq_true z.1] at q1
          simp at q1
  · rw [if_neg z] at hv; exact ha v hv
theorem pu_b (hF : fFF b m w l r T = none) {i : Nat} : ∀ v, pUU b m i T = some v → (-3 ≤ v ∧ v ≤ 3) ∧ i < w * l := by
  refine foldL_ind (fun a => ∀ v, a = some v → (-3 ≤ v ∧ v ≤ 3) ∧ i < w * l) (fun v h => by cases h) T (fun k hk hl a ha => ?_)
  have hn := (fF_none T hF).2 k hk hl
  intro v hv
  have hv : (if tKd b m k = 11 ∧ tNu b m (k + 1) = i then some (jvT b m (k + 2)) else a) = some v := hv
  by_cases z : tKd b m k = 11 ∧ tNu b m (k + 1) = i
  · rw [if_pos z] at hv
    cases hv
    unfold linF at hn
    rw [if_neg (by omega), if_neg (by omega), if_pos z.1] at hn
    split at hn
    · cases hn
    · next q1 =>
      split at hn
      · cases hn
      · next q2 =>
        refine ⟨jv_b (by omega), ?_⟩
        rw [badS_n (by omega), z.2, decide_eq_true_eq] at q1
        omega
  · rw [if_neg z] at hv; exact ha v hv
theorem pi_b (hF : fFF b m w l r T = none) {i : Nat} : pII b m i T ≤ 2 ∧ (pII b m i T ≠ 0 → i < w * l) := by
  refine foldL_ind (fun a => a ≤ 2 ∧ (a ≠ 0 → i < w * l)) ⟨by omega, fun h => absurd rfl h⟩ T (fun k hk hl a ha => ?_)
  have hn := (fF_none T hF).2 k hk hl
  show (if tKd b m k = 12 ∧ tNu b m (k + 1) = i then (if tKd b m (k + 2) = 13 then 1 else 2) else a) ≤ 2 ∧ ((if tKd b m k = 12 ∧ tNu b m (k + 1) = i then (if tKd b m (k + 2) = 13 then 1 else 2) else a) ≠ 0 → i < w * l)
  by_cases z : tKd b m k = 12 ∧ tNu b m (k + 1) = i
  · rw [if_pos z]
    unfold linF at hn
    rw [if_neg (by omega), if_neg (by omega), if_neg (by omega), if_pos z.1] at hn
    split at hn
    · cases hn
    · next q1 =>
      rw [badS_n (by omega), z.2, decide_eq_true_eq] at q1
      refine ⟨by split <;> omega, fun _ => by omega⟩
  · rw [if_neg z]; exact ha
theorem sd_b (hT : OKT b m T) : sDD b m T < 10000 := by
  refine foldL_ind (fun a => a < 10000) (by omega) T (fun k hk hl a ha => ?_)
  show (if tKd b m k = 15 then tNu b m (k + 1) else a) < 10000
  by_cases z : tKd b m k = 15
  · rw [if_pos z]
    have hws := (ls_ws hT (lsB_4 hl) (by omega)).mp hl
    rcases (line_at hT hws hk).1 with ⟨h, -⟩ | ⟨h, -⟩ | ⟨h, -⟩ | ⟨h, -⟩ | ⟨h, -⟩ | ⟨-, h⟩
    · omega
    · omega
    · omega
    · omega
    · omega
    · exact tNu_b h
  · rw [if_neg z]; exact ha
/-- the bonds and fields of a text that is right -/
def bdT (b : Nat → Int32) (m T w l r t : Nat) : Int32 := if (gTo (w, l, r) t).isSome then iI ((tII b m t T).getD (if t < 16 then aLL b m 6 T else aLL b m 7 T)) else 0
def fdT (b : Nat → Int32) (m T w l i : Nat) : Int32 := if i < w * l then iI ((pUU b m i T).getD (aLL b m 8 T)) else 0
theorem untold_f (hS : Shp σ) (h2 : J 2 2 ≠ 0) : f_X1_build_j77 (xw σ J) 2 = some (xw σ J) := by
  have g : f_X1_giveUntold (xw σ J) 2 = some (xw σ J) := by
    unfold f_X1_giveUntold
    refine xloop_end ?_
    have g2 : xloop (f_X1_giveUntold_b79 2) ((0 : Int32), xw σ J) = some (xw σ J) := by
      refine xloop_end ?_
      simp only [f_X1_giveUntold_b79]
      rw [kG2 hS, Option.bind_some, if_neg h2]
      rfl
    simp only [f_X1_giveUntold_b2]
    rw [kG2 hS, Option.bind_some, if_neg h2, g2]
    rfl
  unfold f_X1_build_j77
  rw [xw_ck, kC2 hS, Option.bind_some, g, Option.bind_some]
theorem untold_ok (hS : Shp σ) (hg : ((w, l, r) : GD) ∈ gAll) (hD : DR J0 J b m w l r T) (hF : fFF b m w l r T = none) : ∃ J', f_X1_build_j77 (xw σ J) 2 = some (xw σ J') ∧ (∀ t, t < 32 → J' 9 t = bdT b m T w l r t) ∧ (∀ i, i < 16 → J' 10 i = fdT b m T w l i) ∧ ∀ a q, a ≠ 9 → a ≠ 10 → J' a q = J a q := by
  have hwl : w * l ≤ 16 := (gAll_b _ hg).2.2.1
  obtain ⟨d1, d2, d3, d4, d5, d6, d7, d8, d9, d10, d11⟩ := id hD
  -- the fields
  have flds : ∀ J1 : Nat → Nat → Int32, (∀ a q, a ≠ 9 → J1 a q = J a q) → ∃ x, xloop (f_X1_giveUntold_b79 2) ((0 : Int32), xw σ J1) = some x ∧ ∃ J', x = xw σ J' ∧ (∀ i, i < 16 → J' 10 i = fdT b m T w l i) ∧ ∀ a q, a ≠ 10 → J' a q = J1 a q := by
    intro J1 u1
    refine xforI (fun i a => ∃ J' : Nat → Nat → Int32, a = (nI i, xw σ J') ∧ (∀ q, q < i → J' 10 q = fdT b m T w l q) ∧ (∀ q, i ≤ q → J' 10 q = J1 10 q) ∧ ∀ a q, a ≠ 10 → J' a q = J1 a q) (w * l) ⟨J1, rfl, fun q hq => absurd hq (Nat.not_lt_zero _), fun _ _ => rfl, fun _ _ _ => rfl⟩ ?_ ?_
    · rintro i a hi ⟨J', rfl, h1, h3, u⟩
      have g : ∀ q, J' 2 q = J 2 q := fun q => by rw [u 2 q (by omega), u1 2 q (by omega)]
      have q1 : (nI w * nI l ≤ nI i) = False := by rw [nn_mul, nn_le (by omega) (by omega)]; exact eq_false (by omega)
      have bb := bit_bt (x := J 2 12) (t := i) (by omega)
      have v := h3 i (Nat.le_refl _)
      rw [u1 10 i (by omega), (d8 i (by omega)).2] at v
      rw [(d8 i (by omega)).1] at bb
      cases hp : pUU b m i T with
      | some z =>
        rw [hp] at bb v
        have bb : f_X11_bitOf (J 2 12) (nI i) = some 1 := bb
        refine ⟨(nI (i + 1), xw σ J'), ?_, J', rfl, fun q hq => ?_, fun q hq => h3 q (by omega), u⟩
        · simp only [f_X1_giveUntold_b79]
          simp only [kG2 hS, Option.bind_some, g, d2, d5.1, d5.2.1, q1, if_true, if_false, bb, one0, eq_self, nI_succ]
        · by_cases y : q = i
          · rw [y, v]; unfold fdT; rw [if_pos hi, hp]; rfl
          · exact h1 q (by omega)
      | none =>
        rw [hp] at bb v
        have bb : f_X11_bitOf (J 2 12) (nI i) = some 0 := bb
        have sf := setField_ok (σ := σ) (I := J') (a := 8) (t := i) hS suA_8 (by omega) (iI (aLL b m 8 T))
        refine ⟨(nI (i + 1), xw σ (xup J' 10 i (iI (aLL b m 8 T)))), ?_, _, rfl, fun q hq => ?_, fun q hq => ?_, fun a q ha => by rw [xup_at, if_neg (by omega)]; exact u a q ha⟩
        · simp only [f_X1_giveUntold_b79]
          simp only [kG2 hS, Option.bind_some, g, d2, d5.1, d5.2.1, q1, if_true, if_false, bb, eq_self, xw_gR, kR2_1 hS, d6.2.2, xw_ck, kC8 hS, sf, nI_succ]
        · rw [xup_at]
          by_cases y : q = i
          · rw [if_pos ⟨rfl, y⟩, y]; unfold fdT; rw [if_pos hi, hp]; rfl
          · rw [if_neg (by omega)]; exact h1 q (by omega)
        · rw [xup_at, if_neg (by omega)]; exact h3 q (by omega)
    · rintro a ⟨J', rfl, h1, h3, u⟩
      have g : ∀ q, J' 2 q = J 2 q := fun q => by rw [u 2 q (by omega), u1 2 q (by omega)]
      have q1 : (nI w * nI l ≤ nI (w * l)) = True := by rw [nn_mul, nn_le (by omega) (by omega)]; exact eq_true (Nat.le_refl _)
      refine ⟨xw σ J', ?_, J', rfl, fun i hi => ?_, u⟩
      · simp only [f_X1_giveUntold_b79]
        simp only [kG2 hS, Option.bind_some, g, d2, d5.1, d5.2.1, q1, if_true, eq_self, Option.map_some]
      · by_cases y : i < w * l
        · exact h1 i y
        · rw [h3 i (by omega), u1 10 i (by omega), (d8 i hi).2]
          have : pUU b m i T = none := by
            cases hp : pUU b m i T with
            | none => rfl
            | some z => exact absurd (pu_b hF z hp).2 y
          rw [this]; unfold fdT; rw [if_neg y]; rfl
  -- the bonds
  have key : ∃ x, xloop (f_X1_giveUntold_b2 2) ((0 : Int32), xw σ J) = some x ∧ ∃ J', x = xw σ J' ∧ (∀ t, t < 32 → J' 9 t = bdT b m T w l r t) ∧ (∀ i, i < 16 → J' 10 i = fdT b m T w l i) ∧ ∀ a q, a ≠ 9 → a ≠ 10 → J' a q = J a q := by
    refine xforI (fun t a => ∃ J' : Nat → Nat → Int32, a = (nI t, xw σ J') ∧ (∀ q, q < t → J' 9 q = bdT b m T w l r q) ∧ (∀ q, t ≤ q → J' 9 q = J 9 q) ∧ ∀ a q, a ≠ 9 → J' a q = J a q) 32 ⟨J, rfl, fun q hq => absurd hq (Nat.not_lt_zero _), fun _ _ => rfl, fun _ _ _ => rfl⟩ ?_ ?_
    · rintro t a ht ⟨J', rfl, h1, h3, u⟩
      have g : ∀ q, J' 2 q = J 2 q := fun q => u 2 q (by omega)
      have q1 : ((32 : Int32) ≤ nI t) = False := by rw [show (32 : Int32) = nI 32 from rfl, nn_le (by omega) (by omega)]; exact eq_false (by omega)
      have q16 : ((16 : Int32) ≤ nI t) = (16 ≤ t) := by rw [show (16 : Int32) = nI 16 from rfl, nn_le (by omega) (by omega)]
      have bb := bit_bt (x := J 2 11) (t := t) (by omega)
      have v := h3 t (Nat.le_refl _)
      rw [(d7 t ht).2] at v
      rw [(d7 t ht).1] at bb
      have eo := endOf_ok (w, l, r) hg t ht
      have eo : f_X3_endOf (nI w) (nI l) (nI r) (nI t) = some (oI (gTo (w, l, r) t)) := eo
      cases hp : tII b m t T with
      | some z =>
        rw [hp] at bb v
        have bb : f_X11_bitOf (J 2 11) (nI t) = some 1 := bb
        refine ⟨(nI (t + 1), xw σ J'), ?_, J', rfl, fun q hq => ?_, fun q hq => h3 q (by omega), u⟩
        · simp only [f_X1_giveUntold_b2]
          simp only [kG2 hS, Option.bind_some, g, d2, q1, if_true, if_false, bb, one0, eq_self, nI_succ]
        · by_cases y : q = t
          · rw [y, v]; unfold bdT; rw [if_pos (ti_b hF z hp).2, hp]; rfl
          · exact h1 q (by omega)
      | none =>
        rw [hp] at bb v
        have bb : f_X11_bitOf (J 2 11) (nI t) = some 0 := bb
        cases hgt : gTo (w, l, r) t with
        | none =>
          rw [hgt] at eo
          refine ⟨(nI (t + 1), xw σ J'), ?_, J', rfl, fun q hq => ?_, fun q hq => h3 q (by omega), u⟩
          · have qm : (oI none = -1) = True := eq_true rfl
            simp only [f_X1_giveUntold_b2]
            simp only [kG2 hS, Option.bind_some, g, d2, q1, if_true, if_false, bb, eq_self, d5.1, d5.2.1, d5.2.2, eo, qm, nI_succ]
          · by_cases y : q = t
            · rw [y, v]; unfold bdT; rw [hgt]; rfl
            · exact h1 q (by omega)
        | some e =>
          have e16 := (gTo_b (w, l, r) hg t ht e hgt).2.1
          have e16' : e < 16 := Nat.lt_of_lt_of_le e16 hwl
          rw [hgt] at eo
          have qm : (oI (some e) = -1) = False := nn_m1 (by omega)
          obtain ⟨vl, hvl⟩ : ∃ vl, vl = iI (if t < 16 then aLL b m 6 T else aLL b m 7 T) := ⟨_, rfl⟩
          have sb := setBond_ok (σ := σ) (I := J') (a := 8) (t := t) hS suA_8 ht vl
          refine ⟨(nI (t + 1), xw σ (xup J' 9 t vl)), ?_, _, rfl, fun q hq => ?_, fun q hq => ?_, fun a q ha => by rw [xup_at, if_neg (by omega)]; exact u a q ha⟩
          · have j68 : f_X1_giveUntold_j68 (xw σ J') 2 (nI t) 8 (nI t) vl = some (.inl (nI (t + 1), xw σ (xup J' 9 t vl))) := by
              unfold f_X1_giveUntold_j68
              rw [xw_ck, kC8 hS, Option.bind_some, sb, Option.bind_some, nI_succ]
            simp only [f_X1_giveUntold_b2]
            simp only [kG2 hS, Option.bind_some, g, d2, q1, if_true, if_false, bb, eq_self, d5.1, d5.2.1, d5.2.2, eo, qm, xw_gR, kR2_1 hS, q16, d6.1, d6.2.1]
            by_cases h16 : 16 ≤ t
            · rw [if_neg (by omega)] at hvl
              rw [if_pos h16, ← hvl]; exact j68
            · rw [if_pos (by omega)] at hvl
              rw [if_neg h16, ← hvl]; exact j68
          · rw [xup_at]
            by_cases y : q = t
            · rw [if_pos ⟨rfl, y⟩, y, hvl]; unfold bdT; rw [hgt, hp]; rfl
            · rw [if_neg (by omega)]; exact h1 q (by omega)
          · rw [xup_at, if_neg (by omega)]; exact h3 q (by omega)
    · rintro a ⟨J', rfl, h1, h3, u⟩
      have g : ∀ q, J' 2 q = J 2 q := fun q => u 2 q (by omega)
      obtain ⟨x, e, J2, rfl, b1, b2⟩ := flds J' u
      refine ⟨xw σ J2, ?_, J2, rfl, fun t ht => by rw [b2 9 t (by omega)]; exact h1 t ht, b1, fun a q ha1 ha2 => by rw [b2 a q ha2]; exact u a q ha1⟩
      have q1 : ((32 : Int32) ≤ nI 32) = True := eq_true (by decide)
      simp only [f_X1_giveUntold_b2]
      simp only [kG2 hS, Option.bind_some, g, d2, q1, if_true, eq_self, e, Option.map_some]
  obtain ⟨x, e, J', rfl, rest⟩ := key
  refine ⟨J', ?_, rest⟩
  unfold f_X1_build_j77 f_X1_giveUntold
  rw [xw_ck, kC2 hS, Option.bind_some, e, Option.bind_some]
end UNT
end
section
/-! the class builds a draft -/
section BLD
variable {σ : XS} {J : Nat → Nat → Int32} {m : Nat}
/-- the draft of a text that is right -/
def DE (J : Nat → Nat → Int32) (b : Nat → Int32) (m T : Nat) : Prop := J 2 2 = 0 ∧ J 2 3 = -1 ∧ J 2 5 = nI (tNu b m 1) ∧ J 2 6 = nI (tNu b m 2) ∧ J 2 7 = nI (rgN b m T) ∧ (∀ t, t < 32 → J 9 t = bdT b m T (tNu b m 1) (tNu b m 2) (rgN b m T) t) ∧ (∀ i, i < 16 → J 10 i = fdT b m T (tNu b m 1) (tNu b m 2) i) ∧ (∃ p u, J 8 2 = nI p ∧ J 8 3 = nI u ∧ (∀ i, p.testBit i = (decide (i < 16) && decide (pII b m i T ≠ 0))) ∧ ∀ i, u.testBit i = (decide (i < 16) && decide (pII b m i T = 1))) ∧ J 8 4 = 0 ∧ J 8 5 = nI (sDD b m T)
def fFT (b : Nat → Int32) (m T : Nat) : Option (Nat × Nat) := fFF b m (tNu b m 1) (tNu b m 2) (rgN b m T) T
theorem sz_in {b : Nat → Int32} {T : Nat} (h : szF (tNu b m 1) (tNu b m 2) = none) : ((tNu b m 1, tNu b m 2, rgN b m T) : GD) ∈ gAll := by
  unfold szF at h
  split at h
  · cases h
  · split at h
    · cases h
    · exact gAll_in (by omega) (by omega) (by omega) (by omega) (by omega) (rgN_b b m T)
theorem build_ok (hS : Shp σ) (hm : m ≤ 2000) (h4 : J 3 4 = nI m) : ∃ J', f_X1_build (xw σ J) 2 = some (xw σ J') ∧ (∀ a q, ¬ (a = 2 ∨ (5 ≤ a ∧ a ≤ 10)) → ¬ (a = 3 ∧ 5 ≤ q ∧ q ≤ 9) → J' a q = J a q) ∧ ((∃ n r pl, cutR (J 4) m n r pl ∧ 0 < r ∧ r < 3 ∧ J' 2 2 = nI r ∧ J' 2 3 = nI pl) ∨ ∃ T, cutR (J 4) m T 0 0 ∧ ((∃ x j, fFT (J 4) m T = some (x, j) ∧ J' 2 2 = nI x ∧ J' 2 3 = nI (tSt (J 4) m j)) ∨ (fFT (J 4) m T = none ∧ DE J' (J 4) m T))) := by
  obtain ⟨A, a0, a1, a2, a3, a4, a5, a6, a7, a8, a9, a10, a11, a12, a13, a14, a15, uA⟩ := begin_ok (σ := σ) (J := J) hS
  have A4 : A 3 4 = nI m := by rw [uA _ _ (by omega)]; exact h4
  have A3 : A 4 = J 4 := by funext k; exact uA 4 k (by omega)
  obtain ⟨r, n, pl, B, b0, b1, b2, b3, uB⟩ := cut_ok (σ := σ) (J := A) hS hm A4
  rw [A3] at b1 b2
  obtain ⟨bb, hbb⟩ : ∃ bb, bb = J 4 := ⟨_, rfl⟩
  rw [← hbb] at b1 b2 ⊢
  have r3 : r < 3 := by
    obtain ⟨w, -, h⟩ := b1
    rcases h with ⟨h, -⟩ | ⟨h, -⟩ | ⟨h, -⟩ <;> omega
  have st : ∀ z, (if nI r = 0 then ((xck (xw σ B) 2 1).bind fun _ => (f_X1_takeSize (xw σ B) 2).bind fun σ12 => (xck σ12 2 1).bind fun _ => (f_X1_seeRings σ12 2).bind fun σ15 => xloop (f_X1_build_b39 2) ((0 : Int32), σ15)) else (xgR (xw σ B) 2 1 0).bind fun z11 => (xgI (xw σ B) z11 8 8).bind fun v13 => (xck (xw σ B) 2 1).bind fun _ => (f_X1_blame (xw σ B) 2 (nI r) v13).bind fun σ16 => some σ16) = z → f_X1_build (xw σ J) 2 = z := by
    intro z hz
    rw [← hz]
    unfold f_X1_build
    rw [xw_ck, kC2 hS, Option.bind_some, a0, Option.bind_some, xw_gR, kR2_0 hS, Option.bind_some, xw_ck, kC3 hS, Option.bind_some, b0, Option.bind_some]
  by_cases hr : r = 0
  · subst hr
    obtain ⟨c1, c2⟩ := b2 rfl
    have pl0 : pl = 0 := by
      obtain ⟨w, -, h⟩ := b1
      rcases h with ⟨-, h, -⟩ | ⟨h, -⟩ | ⟨h, -⟩
      · exact h
      · cases h
      · cases h
    subst pl0
    have hT := OKT_of b1
    have hC : CT B bb m n := ⟨hT, c1, c2⟩
    have vB : ∀ a q, (a = 2 ∨ 8 ≤ a) → a ≤ 10 → B a q = A a q := fun a q h1 h2 => uB a q (by omega)
    obtain ⟨C, d0, d1, d2, d3, d4, d5, uC⟩ := takeSize_ok (σ := σ) (J := B) hS hC (by rw [vB _ _ (by omega) (by omega)]; exact a3) (by rw [vB _ _ (by omega) (by omega)]; exact a1)
    have hCC : CT C bb m n := CT_c (fun a q h1 _ _ _ => uC a q (by omega)) hC
    obtain ⟨D, e0, e1, uD⟩ := rings_ok (σ := σ) (J := C) hS hCC d1 (by rw [uC _ _ (by omega), vB _ _ (by omega) (by omega)]; exact a4)
    have head := head_at hT
    obtain ⟨w, hw⟩ : ∃ w, w = tNu bb m 1 := ⟨_, rfl⟩
    obtain ⟨l, hl⟩ : ∃ l, l = tNu bb m 2 := ⟨_, rfl⟩
    obtain ⟨rr, hrr⟩ : ∃ rr, rr = rgN bb m n := ⟨_, rfl⟩
    rw [← hw, ← hl] at d4 d5
    have hft : fFT bb m n = fFF bb m w l rr n := by unfold fFT; rw [hw, hl, hrr]
    have f4 : fFF bb m w l rr 4 = szF w l := foldL_4 _ _ 4 (Nat.le_refl _)
    have run : ∀ J1 J2, (∀ z, f_X1_build_j77 (xw σ J1) 2 = some z → xloop (f_X1_build_b39 2) ((0 : Int32), xw σ D) = some z) → f_X1_build_j77 (xw σ J1) 2 = some (xw σ J2) → f_X1_build (xw σ J) 2 = some (xw σ J2) := by
      intro J1 J2 h1 h2
      refine st _ ?_
      rw [if_pos (show nI 0 = 0 from rfl), xw_ck, kC2 hS, Option.bind_some, d0, Option.bind_some, xw_ck, kC2 hS, Option.bind_some, e0, Option.bind_some]
      exact h1 _ h2
    have uDB : ∀ a q, a ≠ 2 → D a q = B a q := fun a q h => by rw [uD a q (by omega), uC a q (by omega)]
    cases hz : szF w l with
    | some x =>
      have g := d5 x.1 x.2 hz
      have hf : fFT bb m n = some (x.1, x.2) := by rw [hft]; exact fF_stay (by rw [f4]; exact hz) n head.1
      have D2 : D 2 2 = nI x.1 := by rw [uD _ _ (by omega)]; exact g.1
      have x3 := szF_in (w := w) (l := l) (c := x.1) (j := x.2) hz
      have nz : D 2 2 ≠ 0 := by rw [D2, x3.1]; decide
      refine ⟨D, run D D (fun z hz => xloop_end ?_) (untold_f hS nz), fun a q h1 h2 => ?_, .inr ⟨n, b1, .inl ⟨x.1, x.2, hf, D2, by rw [uD _ _ (by omega)]; exact g.2⟩⟩⟩
      · simp only [f_X1_build_b39]
        rw [if_neg (by decide), kG2 hS, Option.bind_some, if_neg nz, hz]
        rfl
      · rw [uDB a q (by omega), uB a q (by omega)]; exact uA a q (by omega)
    | none =>
      have g := d4 hz
      have hgA : ((w, l, rr) : GD) ∈ gAll := by rw [hw, hl, hrr]; exact sz_in (by rw [← hw, ← hl]; exact hz)
      have z4 : ∀ {α : Type} (x0 : α) (f : Nat → α → α), foldL bb m x0 f 4 = x0 := fun x0 f => foldL_4 x0 f 4 (Nat.le_refl _)
      have dr : DR B D bb m w l rr 4 := by
        refine ⟨fun a q h => uDB a q (by omega), ?_, ?_, ?_, ⟨?_, ?_, ?_⟩, ⟨?_, ?_, ?_⟩, fun t ht => ⟨?_, ?_⟩, fun i hi => ⟨?_, ?_⟩, ⟨0, 0, ?_, ?_, fun i => ?_, fun i => ?_⟩, ?_, ?_⟩
        · rw [uD _ _ (by omega), g.1, vB _ _ (by omega) (by omega)]; exact a1
        · rw [uD _ _ (by omega), g.2, vB _ _ (by omega) (by omega)]; exact a2
        · rw [uD _ _ (by omega)]; exact d1
        · rw [uD _ _ (by omega), hw]; exact d2
        · rw [uD _ _ (by omega), hl]; exact d3
        · rw [hrr]; exact e1
        · unfold aLL; rw [z4, uD _ _ (by omega), uC _ _ (by omega), vB _ _ (by omega) (by omega)]; exact a5
        · unfold aLL; rw [z4, uD _ _ (by omega), uC _ _ (by omega), vB _ _ (by omega) (by omega)]; exact a6
        · unfold aLL; rw [z4, uD _ _ (by omega), uC _ _ (by omega), vB _ _ (by omega) (by omega)]; exact a7
        · unfold tII; rw [z4, uD _ _ (by omega), uC _ _ (by omega), vB _ _ (by omega) (by omega), a8]; exact b_0 t
        · unfold tII; rw [z4, uDB _ _ (by omega), vB _ _ (by omega) (by omega)]; exact a10 t ht
        · unfold pUU; rw [z4, uD _ _ (by omega), uC _ _ (by omega), vB _ _ (by omega) (by omega), a9]; exact b_0 i
        · unfold pUU; rw [z4, uDB _ _ (by omega), vB _ _ (by omega) (by omega)]; exact a11 i hi
        · rw [uDB _ _ (by omega), vB _ _ (by omega) (by omega)]; exact a12
        · rw [uDB _ _ (by omega), vB _ _ (by omega) (by omega)]; exact a13
        · unfold pII; rw [z4, Nat.zero_testBit]; simp
        · unfold pII; rw [z4, Nat.zero_testBit]; simp
        · rw [uDB _ _ (by omega), vB _ _ (by omega) (by omega)]; exact a14
        · unfold sDD; rw [z4, uDB _ _ (by omega), vB _ _ (by omega) (by omega)]; exact a15
      obtain ⟨J1, p1, p2, p3⟩ := build_l (σ := σ) hS hC hgA (n - 4) 4 0 D (by omega) (by omega) (by omega) head.1 head.2.2.2.2.2 dr (by rw [f4]; exact hz)
      have p3 : ∀ z, f_X1_build_j77 (xw σ J1) 2 = some z → xloop (f_X1_build_b39 2) ((0 : Int32), xw σ D) = some z := p3
      have fr : ∀ J1, DRb B J1 → ∀ a q, ¬ (a = 2 ∨ (5 ≤ a ∧ a ≤ 10)) → ¬ (a = 3 ∧ 5 ≤ q ∧ q ≤ 9) → J1 a q = J a q := fun J1 h a q h1 h2 => by rw [h a q (by omega), uB a q (by omega)]; exact uA a q (by omega)
      cases hf : fFF bb m w l rr n with
      | some x =>
        have df := p2 x.1 x.2 hf
        have xs := ff_in hT (c := x.1) (i := x.2) hf
        have nz : J1 2 2 ≠ 0 := by rw [df.2.1]; exact nI_ne0 (by omega) (by omega)
        exact ⟨J1, run J1 J1 p3 (untold_f hS nz), fr J1 df.1, .inr ⟨n, b1, .inl ⟨x.1, x.2, by rw [hft]; exact hf, df.2.1, df.2.2⟩⟩⟩
      | none =>
        have dt := p1 hf
        obtain ⟨J2, q1, q2, q3, q4⟩ := untold_ok (σ := σ) hS hgA dt hf
        obtain ⟨e1, e2, e3, e4, e5, e6, e7, e8, e9, e10, e11⟩ := id dt
        refine ⟨J2, run J1 J2 p3 q1, fr J2 (fun a q h => by rw [q4 a q (by omega) (by omega)]; exact e1 a q h), .inr ⟨n, b1, .inr ⟨by rw [hft]; exact hf, ?_⟩⟩⟩
        refine ⟨by rw [q4 _ _ (by omega) (by omega)]; exact e2, by rw [q4 _ _ (by omega) (by omega)]; exact e3, by rw [q4 _ _ (by omega) (by omega), ← hw]; exact e5.1, by rw [q4 _ _ (by omega) (by omega), ← hl]; exact e5.2.1, by rw [q4 _ _ (by omega) (by omega), ← hrr]; exact e5.2.2, fun t ht => by rw [← hw, ← hl, ← hrr]; exact q2 t ht, fun i hi => by rw [← hw, ← hl]; exact q3 i hi, ?_, by rw [q4 _ _ (by omega) (by omega)]; exact e10, by rw [q4 _ _ (by omega) (by omega)]; exact e11⟩
        obtain ⟨p, u, y1, y2, y3, y4⟩ := e9
        exact ⟨p, u, by rw [q4 _ _ (by omega) (by omega)]; exact y1, by rw [q4 _ _ (by omega) (by omega)]; exact y2, y3, y4⟩
  · have B2 : B 2 2 = 0 := by rw [uB _ _ (by omega)]; exact a1
    have B8 := b3 hr
    refine ⟨xup (xup B 2 2 (nI r)) 2 3 (nI pl), st _ ?_, fun a q h1 h2 => ?_, .inl ⟨n, r, pl, b1, by omega, r3, by rw [xup_at, if_neg (by omega), xup_at, if_pos ⟨rfl, rfl⟩], by rw [xup_at, if_pos ⟨rfl, rfl⟩]⟩⟩
    · rw [if_neg (nI_ne0 (by omega) (by omega)), xw_gR, kR2_0 hS, Option.bind_some, kG3 hS, Option.bind_some, B8, xw_ck, kC2 hS, Option.bind_some, blame_0 hS B2, Option.bind_some]
    · rw [xup_at, if_neg (by omega), xup_at, if_neg (by omega), uB a q (by omega)]; exact uA a q (by omega)
end BLD
end
section
/-! the grid is laid anew -/
def gCt (g : GD) (i t : Nat) : List (Nat × Nat) := match gTo g t with
  | none => []
  | some e => if gFr t = i then [(e, t)] else if e = i then [(gFr t, t)] else []
def gMp (g : GD) (i n : Nat) : List (Nat × Nat) := (List.range n).flatMap (gCt g i)
theorem gMp_s (g : GD) (i n : Nat) : gMp g i (n + 1) = gMp g i n ++ gCt g i n := by
  unfold gMp
  rw [List.range_succ, List.flatMap_append]
  simp
theorem gMp_32 (g : GD) (i : Nat) : gMp g i 32 = gMt g i := rfl
theorem gMp_le (g : GD) (i : Nat) : ∀ d n, (gMp g i n).length ≤ (gMp g i (n + d)).length
  | 0, n => Nat.le_refl _
  | d + 1, n => by
    have ih := gMp_le g i d n
    rw [show n + (d + 1) = n + d + 1 by omega, gMp_s, List.length_append]
    omega
section LAYS
variable {σ : XS} {J : Nat → Nat → Int32} {g : GD}
theorem addMate_ok (hS : Shp σ) {i x y L : Nat} (hi : i < 16) (hL : L < 4) (h : J 15 i = nI L) : f_X3_addMate (xw σ J) 11 (nI i) (nI x) (nI y) = some (xw σ (xup (xup (xup J 13 (4 * i + L) (nI x)) 14 (4 * i + L) (nI y)) 15 i (nI (L + 1)))) := by
  unfold f_X3_addMate
  have q1 : ((16 : Int32) ≤ nI i) = False := by rw [show (16 : Int32) = nI 16 from rfl, nn_le (by omega) (by omega)]; exact eq_false (by omega)
  have q2 : (nI L < (4 : Int32)) = True := by rw [show (4 : Int32) = nI 4 from rfl, nn_lt (by omega) (by omega)]; exact eq_true hL
  have e : (4 : Int32) * nI i + nI L = nI (4 * i + L) := by rw [show (4 : Int32) = nI 4 from rfl, nn_mul, nn_add]
  have i64 : 4 * i + L < 64 := by omega
  rw [if_neg (nI_pos (by omega)), if_neg (by rw [q1]; exact id)]
  simp (disch := first | assumption | omega) only [Option.bind_some, Option.map_some, xw_gR, xw_gN, xw_al, xw_ck, xw_uI, xw_ur, xup_at, xur_at, if_true, if_false, reduceIte, and_true, true_and, and_false, false_and, not_true_eq_false, not_false_eq_true, Nat.reduceEqDiff, eq_self, Nat.reduceAdd, Nat.reduceMul, kC1, kG1, kP1, kR1_0, kR1_1, kR1_2, kR1_3, kR1_4, kR1_5, kR1_6, kR1_7, kR1_8, kR1_9, kR1_10, kR1_11, kR1_12, kR1_13, kC2, kG2, kP2, kR2_0, kR2_1, kC3, kG3, kP3, kR3_0, kR3_1, kR3_2, kR3_3, kL4, kA4, kS4, kL5, kA5, kS5, kL6, kA6, kS6, kL7, kA7, kS7, kC8, kG8, kP8, kR8_0, kR8_1, kL9, kA9, kS9, kL10, kA10, kS10, kC11, kG11, kP11, kR11_0, kR11_1, kR11_2, kR11_3, kL12, kA12, kS12, kL13, kA13, kS13, kL14, kA14, kS14, kL15, kA15, kS15, kC16, kG16, kP16, kR16_0, kR16_1, kL17, kA17, kS17, kL18, kA18, kS18, kC19, kG19, kP19, kR19_0, kL20, kL141, kL146, kA146, kS146, kL151, kA151, kS151, kL156, kA156, kS156, kC157, kG157, kP157, kR157_0, kR157_1, kL158, kA158, kS158, kL159, kA159, kS159, kC161, kG161, kP161, kR161_0, kR161_1, kL162, kA162, kS162, kL163, kA163, kS163, kC165, kG165, kP165, kR165_0, kR165_1, kR165_2, kR165_3, kL166, kA166, kS166, kL167, kA167, kS167, kL168, kA168, kS168, kL169, kA169, kS169, kC170, kG170, kP170, kR170_0, kR170_1, kR170_2, kL171, kA171, kS171, kL172, kA172, kS172, kL173, kA173, kS173, kC174, kG174, kP174, kR174_0, kR174_1, kR174_2, kR174_3, kR174_4, kL175, kA175, kS175, kL176, kA176, kS176, kL177, kA177, kS177, kL178, kA178, kS178, kL179, kC180, kG180, kP180, kL181, kL182, kA182, kS182, kC183, kG183, kP183, kR183_1, kR183_3, kR183_5, kR183_6, kR183_7, kR183_8, kR183_9, kR183_21, kR183_26, kR183_27, kR183_30, kR183_31, kR183_33, kR183_34, kR183_36, kR183_37, kR183_38, kR183_39, kR183_40, kR183_41, kR183_42, kR183_43, kR183_44, kL184, kA184, kS184, kL185, kA185, kS185, kL186, kA186, kS186, kL187, kA187, kS187, kL188, kA188, kS188, kL189, kL190, kL191, kA191, kS191, kL192, kA192, kS192, kL193, kA193, kS193, kL194, kA194, kS194, kL195, kA195, kS195, kL196, kA196, kS196, kL197, kA197, kS197, kL198, kA198, kS198, kL199, kA199, kS199, kL200, kA200, kS200, kL201, kL202, kA202, kS202, kL203, kA203, kS203, kL204, kA204, kS204, kL205, kL206, kA206, kS206, h, q2, e]
  rw [← nI_succ]
/-- the mates as they lie when n ties are laid -/
def GM (J : Nat → Nat → Int32) (g : GD) (n : Nat) : Prop := (∀ t, t < n → J 12 t = oI (gTo g t)) ∧ (∀ i, i < 16 → J 15 i = nI (gMp g i n).length) ∧ ∀ i j, i < 16 → j < (gMp g i n).length → J 13 (4 * i + j) = nI ((gMp g i n).getD j (0, 0)).1 ∧ J 14 (4 * i + j) = nI ((gMp g i n).getD j (0, 0)).2
theorem getD_app1 {l1 l2 : List (Nat × Nat)} {j : Nat} (h : j < l1.length) : (l1 ++ l2).getD j (0, 0) = l1.getD j (0, 0) := by
  rw [List.getD_eq_getElem?_getD, List.getD_eq_getElem?_getD, List.getElem?_append_left h]
theorem getD_app2 {l1 : List (Nat × Nat)} {p : Nat × Nat} : (l1 ++ [p]).getD l1.length (0, 0) = p := by
  rw [List.getD_eq_getElem?_getD, List.getElem?_append_right (Nat.le_refl _), Nat.sub_self]
  rfl
theorem lay_l (hS : Shp σ) (hg : g ∈ gAll) (h4 : J 11 4 = nI g.1) (h5 : J 11 5 = nI g.2.1) (h6 : J 11 6 = nI g.2.2) (h15 : ∀ i, i < 16 → J 15 i = 0) : ∃ x, xloop (f_X3_lay_b39 11) ((0 : Int32), xw σ J) = some x ∧ ∃ J', x = xw σ J' ∧ GM J' g 32 ∧ ∀ a q, ¬ (12 ≤ a ∧ a ≤ 15) → J' a q = J a q := by
  have h16 := (gAll_b g hg).2.2.1
  have b4 : ∀ i n, i < 16 → n ≤ 32 → (gMp g i n).length ≤ 4 := fun i n hi hn => by
    have h1 := gMp_le g i (32 - n) n
    rw [show n + (32 - n) = 32 by omega, gMp_32] at h1
    have := (gMt_b g hg i hi).1
    omega
  refine xforI (fun t a => ∃ J' : Nat → Nat → Int32, a = (nI t, xw σ J') ∧ GM J' g t ∧ ∀ a q, ¬ (12 ≤ a ∧ a ≤ 15) → J' a q = J a q) 32 ⟨J, rfl, ⟨fun t ht => absurd ht (Nat.not_lt_zero _), fun i hi => h15 i hi, fun i j hi hj => absurd hj (Nat.not_lt_zero _)⟩, fun _ _ _ => rfl⟩ ?_ ?_
  · rintro t a ht ⟨J', rfl, ⟨m1, m2, m3⟩, u⟩
    have eo := endOf_ok g hg t ht
    have q32 : ((32 : Int32) ≤ nI t) = False := by rw [show (32 : Int32) = nI 32 from rfl, nn_le (by omega) (by omega)]; exact eq_false (by omega)
    have v4 : J' 11 4 = nI g.1 := by rw [u _ _ (by omega)]; exact h4
    have v5 : J' 11 5 = nI g.2.1 := by rw [u _ _ (by omega)]; exact h5
    have v6 : J' 11 6 = nI g.2.2 := by rw [u _ _ (by omega)]; exact h6
    obtain ⟨A, hA⟩ : ∃ A, A = xup J' 12 t (oI (gTo g t)) := ⟨_, rfl⟩
    have uA : ∀ a q, a ≠ 12 → A a q = J' a q := fun a q h => by rw [hA, xup_at, if_neg (by omega)]
    have A12 : A 12 t = oI (gTo g t) := by rw [hA, xup_at, if_pos ⟨rfl, rfl⟩]
    have mA : ∀ q, q < t + 1 → A 12 q = oI (gTo g q) := fun q hq => by
      rw [hA, xup_at]
      by_cases z : q = t
      · rw [if_pos ⟨rfl, z⟩, z]
      · rw [if_neg (by omega)]; exact m1 q (by omega)
    cases hgt : gTo g t with
    | none =>
      have ec : ∀ i, gMp g i (t + 1) = gMp g i t := fun i => by
        rw [gMp_s]; unfold gCt; rw [hgt]; simp
      refine ⟨(nI (t + 1), xw σ A), ?_, A, rfl, ⟨mA, fun i hi => by rw [ec, uA _ _ (by omega)]; exact m2 i hi, fun i j hi hj => by rw [ec] at hj ⊢; rw [uA _ _ (by omega), uA _ _ (by omega)]; exact m3 i j hi hj⟩, fun a q h => by rw [uA a q (by omega)]; exact u a q h⟩
      have qm : (oI none = -1) = True := eq_true rfl
      rw [hgt] at eo hA A12
      simp only [f_X3_lay_b39]
      simp (disch := first | assumption | omega) only [Option.bind_some, Option.map_some, xw_gR, xw_gN, xw_al, xw_ck, xw_uI, xw_ur, xup_at, xur_at, if_true, if_false, reduceIte, and_true, true_and, and_false, false_and, not_true_eq_false, not_false_eq_true, Nat.reduceEqDiff, eq_self, Nat.reduceAdd, Nat.reduceMul, kC1, kG1, kP1, kR1_0, kR1_1, kR1_2, kR1_3, kR1_4, kR1_5, kR1_6, kR1_7, kR1_8, kR1_9, kR1_10, kR1_11, kR1_12, kR1_13, kC2, kG2, kP2, kR2_0, kR2_1, kC3, kG3, kP3, kR3_0, kR3_1, kR3_2, kR3_3, kL4, kA4, kS4, kL5, kA5, kS5, kL6, kA6, kS6, kL7, kA7, kS7, kC8, kG8, kP8, kR8_0, kR8_1, kL9, kA9, kS9, kL10, kA10, kS10, kC11, kG11, kP11, kR11_0, kR11_1, kR11_2, kR11_3, kL12, kA12, kS12, kL13, kA13, kS13, kL14, kA14, kS14, kL15, kA15, kS15, kC16, kG16, kP16, kR16_0, kR16_1, kL17, kA17, kS17, kL18, kA18, kS18, kC19, kG19, kP19, kR19_0, kL20, kL141, kL146, kA146, kS146, kL151, kA151, kS151, kL156, kA156, kS156, kC157, kG157, kP157, kR157_0, kR157_1, kL158, kA158, kS158, kL159, kA159, kS159, kC161, kG161, kP161, kR161_0, kR161_1, kL162, kA162, kS162, kL163, kA163, kS163, kC165, kG165, kP165, kR165_0, kR165_1, kR165_2, kR165_3, kL166, kA166, kS166, kL167, kA167, kS167, kL168, kA168, kS168, kL169, kA169, kS169, kC170, kG170, kP170, kR170_0, kR170_1, kR170_2, kL171, kA171, kS171, kL172, kA172, kS172, kL173, kA173, kS173, kC174, kG174, kP174, kR174_0, kR174_1, kR174_2, kR174_3, kR174_4, kL175, kA175, kS175, kL176, kA176, kS176, kL177, kA177, kS177, kL178, kA178, kS178, kL179, kC180, kG180, kP180, kL181, kL182, kA182, kS182, kC183, kG183, kP183, kR183_1, kR183_3, kR183_5, kR183_6, kR183_7, kR183_8, kR183_9, kR183_21, kR183_26, kR183_27, kR183_30, kR183_31, kR183_33, kR183_34, kR183_36, kR183_37, kR183_38, kR183_39, kR183_40, kR183_41, kR183_42, kR183_43, kR183_44, kL184, kA184, kS184, kL185, kA185, kS185, kL186, kA186, kS186, kL187, kA187, kS187, kL188, kA188, kS188, kL189, kL190, kL191, kA191, kS191, kL192, kA192, kS192, kL193, kA193, kS193, kL194, kA194, kS194, kL195, kA195, kS195, kL196, kA196, kS196, kL197, kA197, kS197, kL198, kA198, kS198, kL199, kA199, kS199, kL200, kA200, kS200, kL201, kL202, kA202, kS202, kL203, kA203, kS203, kL204, kA204, kS204, kL205, kL206, kA206, kS206, q32, v4, v5, v6, eo, ← hA, A12, qm]
      rw [nI_succ]
    | some e =>
      obtain ⟨f1, f2, f3⟩ := gTo_b g hg t ht e hgt
      obtain ⟨f, hf⟩ : ∃ f, f = gFr t := ⟨_, rfl⟩
      rw [← hf] at f1 f3
      have ec : ∀ i, gMp g i (t + 1) = gMp g i t ++ (if f = i then [(e, t)] else if e = i then [(f, t)] else []) := fun i => by
        rw [gMp_s]; unfold gCt; rw [hgt, hf]
      have lf : (gMp g f t).length < 4 := by
        have := b4 f (t + 1) (by omega) (by omega)
        rw [ec, if_pos rfl, List.length_append] at this
        simp at this
        omega
      have le : (gMp g e t).length < 4 := by
        have := b4 e (t + 1) (by omega) (by omega)
        rw [ec, if_neg f3, if_pos rfl, List.length_append] at this
        simp at this
        omega
      have so : f_X3_startOf (nI t) = some (nI f) := by
        unfold f_X3_startOf
        have q16 : ((16 : Int32) ≤ nI t) = (16 ≤ t) := by rw [show (16 : Int32) = nI 16 from rfl, nn_le (by omega) (by omega)]
        simp only [q16]
        rw [hf]
        unfold gFr
        by_cases z : 16 ≤ t
        · rw [if_pos z, if_neg (by omega), show (16 : Int32) = nI 16 from rfl, nn_sub z]
        · rw [if_neg z, if_pos (by omega)]
      obtain ⟨p, hp⟩ : ∃ p, p = 4 * f + (gMp g f t).length := ⟨_, rfl⟩
      obtain ⟨q, hq⟩ : ∃ q, q = 4 * e + (gMp g e t).length := ⟨_, rfl⟩
      have ad1 := addMate_ok (σ := σ) (J := A) (i := f) (x := e) (y := t) hS (by omega) lf (by rw [uA _ _ (by omega)]; exact m2 f (by omega))
      rw [← hp] at ad1
      obtain ⟨B, hB⟩ : ∃ B, B = xup (xup (xup A 13 p (nI e)) 14 p (nI t)) 15 f (nI ((gMp g f t).length + 1)) := ⟨_, rfl⟩
      rw [← hB] at ad1
      have uB : ∀ a k, ¬ (13 ≤ a ∧ a ≤ 15) → B a k = A a k := fun a k h => by rw [hB, xup_at, if_neg (by omega), xup_at, if_neg (by omega), xup_at, if_neg (by omega)]
      have B15 : ∀ i, i ≠ f → B 15 i = A 15 i := fun i h => by rw [hB, xup_at, if_neg (by omega), xup_at, if_neg (by omega), xup_at, if_neg (by omega)]
      have ad2 := addMate_ok (σ := σ) (J := B) (i := e) (x := f) (y := t) hS (by omega) le (by rw [B15 e (fun z => f3 z.symm), uA _ _ (by omega)]; exact m2 e (by omega))
      rw [← hq] at ad2
      obtain ⟨C, hC⟩ : ∃ C, C = xup (xup (xup B 13 q (nI f)) 14 q (nI t)) 15 e (nI ((gMp g e t).length + 1)) := ⟨_, rfl⟩
      rw [← hC] at ad2
      have uC : ∀ a k, ¬ (13 ≤ a ∧ a ≤ 15) → C a k = B a k := fun a k h => by rw [hC, xup_at, if_neg (by omega), xup_at, if_neg (by omega), xup_at, if_neg (by omega)]
      have pq : p ≠ q := by omega
      have c13 : ∀ k, C 13 k = if k = q then nI f else if k = p then nI e else J' 13 k := fun k => by
        rw [hC, xup_at, if_neg (by omega), xup_at, if_neg (by omega), xup_at]
        by_cases z : k = q
        · rw [if_pos ⟨rfl, z⟩, if_pos z]
        · rw [if_neg (by omega), if_neg z, hB, xup_at, if_neg (by omega), xup_at, if_neg (by omega), xup_at]
          by_cases y : k = p
          · rw [if_pos ⟨rfl, y⟩, if_pos y]
          · rw [if_neg (by omega), if_neg y]; exact uA _ _ (by omega)
      have c14 : ∀ k, C 14 k = if k = q then nI t else if k = p then nI t else J' 14 k := fun k => by
        rw [hC, xup_at, if_neg (by omega), xup_at]
        by_cases z : k = q
        · rw [if_pos ⟨rfl, z⟩, if_pos z]
        · rw [if_neg (by omega), if_neg z, xup_at, if_neg (by omega), hB, xup_at, if_neg (by omega), xup_at]
          by_cases y : k = p
          · rw [if_pos ⟨rfl, y⟩, if_pos y]
          · rw [if_neg (by omega), if_neg y, xup_at, if_neg (by omega)]; exact uA _ _ (by omega)
      have c15 : ∀ i, C 15 i = if i = e then nI ((gMp g e t).length + 1) else if i = f then nI ((gMp g f t).length + 1) else J' 15 i := fun i => by
        rw [hC, xup_at]
        by_cases z : i = e
        · rw [if_pos ⟨rfl, z⟩, if_pos z]
        · rw [if_neg (by omega), if_neg z, xup_at, if_neg (by omega), xup_at, if_neg (by omega), hB, xup_at]
          by_cases y : i = f
          · rw [if_pos ⟨rfl, y⟩, if_pos y]
          · rw [if_neg (by omega), if_neg y, xup_at, if_neg (by omega), xup_at, if_neg (by omega)]; exact uA _ _ (by omega)
      refine ⟨(nI (t + 1), xw σ C), ?_, C, rfl, ⟨fun k hk => by rw [uC _ _ (by omega), uB _ _ (by omega)]; exact mA k hk, fun i hi => ?_, fun i j hi hj => ?_⟩, fun a k h => by rw [uC a k (by omega), uB a k (by omega), uA a k (by omega)]; exact u a k h⟩
      · have qm : (oI (some e) = -1) = False := nn_m1 (by omega)
        have B12 : B 12 t = oI (some e) := by rw [uB _ _ (by omega), A12, hgt]
        rw [hgt] at eo hA A12
        have ad1' : f_X3_addMate (xw σ A) 11 (nI f) (oI (some e)) (nI t) = some (xw σ B) := ad1
        have ad2' : f_X3_addMate (xw σ B) 11 (oI (some e)) (nI f) (nI t) = some (xw σ C) := ad2
        simp only [f_X3_lay_b39]
        simp (disch := first | assumption | omega) only [Option.bind_some, Option.map_some, xw_gR, xw_gN, xw_al, xw_ck, xw_uI, xw_ur, xup_at, xur_at, if_true, if_false, reduceIte, and_true, true_and, and_false, false_and, not_true_eq_false, not_false_eq_true, Nat.reduceEqDiff, eq_self, Nat.reduceAdd, Nat.reduceMul, kC1, kG1, kP1, kR1_0, kR1_1, kR1_2, kR1_3, kR1_4, kR1_5, kR1_6, kR1_7, kR1_8, kR1_9, kR1_10, kR1_11, kR1_12, kR1_13, kC2, kG2, kP2, kR2_0, kR2_1, kC3, kG3, kP3, kR3_0, kR3_1, kR3_2, kR3_3, kL4, kA4, kS4, kL5, kA5, kS5, kL6, kA6, kS6, kL7, kA7, kS7, kC8, kG8, kP8, kR8_0, kR8_1, kL9, kA9, kS9, kL10, kA10, kS10, kC11, kG11, kP11, kR11_0, kR11_1, kR11_2, kR11_3, kL12, kA12, kS12, kL13, kA13, kS13, kL14, kA14, kS14, kL15, kA15, kS15, kC16, kG16, kP16, kR16_0, kR16_1, kL17, kA17, kS17, kL18, kA18, kS18, kC19, kG19, kP19, kR19_0, kL20, kL141, kL146, kA146, kS146, kL151, kA151, kS151, kL156, kA156, kS156, kC157, kG157, kP157, kR157_0, kR157_1, kL158, kA158, kS158, kL159, kA159, kS159, kC161, kG161, kP161, kR161_0, kR161_1, kL162, kA162, kS162, kL163, kA163, kS163, kC165, kG165, kP165, kR165_0, kR165_1, kR165_2, kR165_3, kL166, kA166, kS166, kL167, kA167, kS167, kL168, kA168, kS168, kL169, kA169, kS169, kC170, kG170, kP170, kR170_0, kR170_1, kR170_2, kL171, kA171, kS171, kL172, kA172, kS172, kL173, kA173, kS173, kC174, kG174, kP174, kR174_0, kR174_1, kR174_2, kR174_3, kR174_4, kL175, kA175, kS175, kL176, kA176, kS176, kL177, kA177, kS177, kL178, kA178, kS178, kL179, kC180, kG180, kP180, kL181, kL182, kA182, kS182, kC183, kG183, kP183, kR183_1, kR183_3, kR183_5, kR183_6, kR183_7, kR183_8, kR183_9, kR183_21, kR183_26, kR183_27, kR183_30, kR183_31, kR183_33, kR183_34, kR183_36, kR183_37, kR183_38, kR183_39, kR183_40, kR183_41, kR183_42, kR183_43, kR183_44, kL184, kA184, kS184, kL185, kA185, kS185, kL186, kA186, kS186, kL187, kA187, kS187, kL188, kA188, kS188, kL189, kL190, kL191, kA191, kS191, kL192, kA192, kS192, kL193, kA193, kS193, kL194, kA194, kS194, kL195, kA195, kS195, kL196, kA196, kS196, kL197, kA197, kS197, kL198, kA198, kS198, kL199, kA199, kS199, kL200, kA200, kS200, kL201, kL202, kA202, kS202, kL203, kA203, kS203, kL204, kA204, kS204, kL205, kL206, kA206, kS206, q32, v4, v5, v6, eo, ← hA, A12, qm, so, ad1', B12, ad2']
        rw [nI_succ]
      · rw [c15, ec]
        by_cases z : i = e
        · rw [if_pos z, z, if_neg f3, if_pos rfl, List.length_append]; rfl
        · rw [if_neg z]
          by_cases y : i = f
          · rw [if_pos y, y, if_pos rfl, List.length_append]; rfl
          · rw [if_neg y, if_neg (fun w => y w.symm), if_neg (fun w => z w.symm), List.append_nil]; exact m2 i hi
      · rw [c13, c14]
        have l4 : (gMp g i t).length ≤ 4 := b4 i t hi (by omega)
        rw [ec] at hj ⊢
        by_cases z : i = e
        · subst z
          rw [if_neg f3, if_pos rfl] at hj ⊢
          rw [List.length_append] at hj
          have hj : j < (gMp g i t).length + 1 := hj
          by_cases y : j = (gMp g i t).length
          · have k1 : 4 * i + j = q := by omega
            rw [if_pos k1, if_pos k1, y, getD_app2]
            exact ⟨rfl, rfl⟩
          · have k1 : ¬ 4 * i + j = q := by omega
            have k2 : ¬ 4 * i + j = p := by omega
            rw [if_neg k1, if_neg k1, if_neg k2, if_neg k2, getD_app1 (by omega)]
            exact m3 i j hi (by omega)
        · by_cases y : i = f
          · subst y
            rw [if_pos rfl] at hj ⊢
            rw [List.length_append] at hj
            have hj : j < (gMp g i t).length + 1 := hj
            have k1 : ¬ 4 * i + j = q := by omega
            by_cases v : j = (gMp g i t).length
            · have k2 : 4 * i + j = p := by omega
              rw [if_neg k1, if_neg k1, if_pos k2, if_pos k2, v, getD_app2]
              exact ⟨rfl, rfl⟩
            · have k2 : ¬ 4 * i + j = p := by omega
              rw [if_neg k1, if_neg k1, if_neg k2, if_neg k2, getD_app1 (by omega)]
              exact m3 i j hi (by omega)
          · rw [if_neg (show ¬ f = i from fun w => y w.symm), if_neg (show ¬ e = i from fun w => z w.symm), List.append_nil] at hj ⊢
            have k1 : ¬ 4 * i + j = q := by omega
            have k2 : ¬ 4 * i + j = p := by omega
            rw [if_neg k1, if_neg k1, if_neg k2, if_neg k2]
            exact m3 i j hi hj
  · rintro a ⟨J', rfl, hM, u⟩
    refine ⟨xw σ J', ?_, J', rfl, hM, u⟩
    simp only [f_X3_lay_b39]
    rw [if_pos (by decide)]
    rfl
theorem lay_ok (hS : Shp σ) (hg : g ∈ gAll) : ∃ J', f_X3_lay (xw σ J) 11 (nI g.1) (nI g.2.1) (nI g.2.2) = some (xw σ J') ∧ J' 11 4 = nI g.1 ∧ J' 11 5 = nI g.2.1 ∧ J' 11 6 = nI g.2.2 ∧ J' 11 7 = nI (gSz g) ∧ GM J' g 32 ∧ ∀ a q, ¬ (11 ≤ a ∧ a ≤ 15) → J' a q = J a q := by
  have K15 : σ.1 15 = (20, 16) := xw_K hS (by decide) (by decide) (by decide)
  obtain ⟨A, hA⟩ : ∃ A, A = xup (xup (xup (xup J 11 4 (nI g.1)) 11 5 (nI g.2.1)) 11 6 (nI g.2.2)) 11 7 (nI g.1 * nI g.2.1) := ⟨_, rfl⟩
  have f := fillI_ok (σ := σ) (I := A) (v := 0) K15 (by decide)
  obtain ⟨B, hB⟩ : ∃ B, B = xur A 15 (fun j => if j < 16 then 0 else A 15 j) := ⟨_, rfl⟩
  rw [← hB] at f
  have uB : ∀ a q, a ≠ 15 → B a q = A a q := fun a q h => by rw [hB, xur_at, if_neg h]
  have A4 : A 11 4 = nI g.1 := by rw [hA, xup_at, if_neg (by omega), xup_at, if_neg (by omega), xup_at, if_neg (by omega), xup_at, if_pos ⟨rfl, rfl⟩]
  have A5 : A 11 5 = nI g.2.1 := by rw [hA, xup_at, if_neg (by omega), xup_at, if_neg (by omega), xup_at, if_pos ⟨rfl, rfl⟩]
  have A6 : A 11 6 = nI g.2.2 := by rw [hA, xup_at, if_neg (by omega), xup_at, if_pos ⟨rfl, rfl⟩]
  have A7 : A 11 7 = nI (gSz g) := by rw [hA, xup_at, if_pos ⟨rfl, rfl⟩, nn_mul]; rfl
  obtain ⟨x, e, J', rfl, hM, u⟩ := lay_l (σ := σ) (J := B) hS hg (by rw [uB _ _ (by omega)]; exact A4) (by rw [uB _ _ (by omega)]; exact A5) (by rw [uB _ _ (by omega)]; exact A6) (fun i hi => by rw [hB, xur_at, if_pos rfl, if_pos hi])
  refine ⟨J', ?_, by rw [u _ _ (by omega), uB _ _ (by omega)]; exact A4, by rw [u _ _ (by omega), uB _ _ (by omega)]; exact A5, by rw [u _ _ (by omega), uB _ _ (by omega)]; exact A6, by rw [u _ _ (by omega), uB _ _ (by omega)]; exact A7, hM, fun a q h => ?_⟩
  · unfold f_X3_lay
    simp (disch := first | assumption | omega) only [Option.bind_some, Option.map_some, xw_gR, xw_gN, xw_al, xw_ck, xw_uI, xw_ur, xup_at, xur_at, if_true, if_false, reduceIte, and_true, true_and, and_false, false_and, not_true_eq_false, not_false_eq_true, Nat.reduceEqDiff, eq_self, Nat.reduceAdd, Nat.reduceMul, kC1, kG1, kP1, kR1_0, kR1_1, kR1_2, kR1_3, kR1_4, kR1_5, kR1_6, kR1_7, kR1_8, kR1_9, kR1_10, kR1_11, kR1_12, kR1_13, kC2, kG2, kP2, kR2_0, kR2_1, kC3, kG3, kP3, kR3_0, kR3_1, kR3_2, kR3_3, kL4, kA4, kS4, kL5, kA5, kS5, kL6, kA6, kS6, kL7, kA7, kS7, kC8, kG8, kP8, kR8_0, kR8_1, kL9, kA9, kS9, kL10, kA10, kS10, kC11, kG11, kP11, kR11_0, kR11_1, kR11_2, kR11_3, kL12, kA12, kS12, kL13, kA13, kS13, kL14, kA14, kS14, kL15, kA15, kS15, kC16, kG16, kP16, kR16_0, kR16_1, kL17, kA17, kS17, kL18, kA18, kS18, kC19, kG19, kP19, kR19_0, kL20, kL141, kL146, kA146, kS146, kL151, kA151, kS151, kL156, kA156, kS156, kC157, kG157, kP157, kR157_0, kR157_1, kL158, kA158, kS158, kL159, kA159, kS159, kC161, kG161, kP161, kR161_0, kR161_1, kL162, kA162, kS162, kL163, kA163, kS163, kC165, kG165, kP165, kR165_0, kR165_1, kR165_2, kR165_3, kL166, kA166, kS166, kL167, kA167, kS167, kL168, kA168, kS168, kL169, kA169, kS169, kC170, kG170, kP170, kR170_0, kR170_1, kR170_2, kL171, kA171, kS171, kL172, kA172, kS172, kL173, kA173, kS173, kC174, kG174, kP174, kR174_0, kR174_1, kR174_2, kR174_3, kR174_4, kL175, kA175, kS175, kL176, kA176, kS176, kL177, kA177, kS177, kL178, kA178, kS178, kL179, kC180, kG180, kP180, kL181, kL182, kA182, kS182, kC183, kG183, kP183, kR183_1, kR183_3, kR183_5, kR183_6, kR183_7, kR183_8, kR183_9, kR183_21, kR183_26, kR183_27, kR183_30, kR183_31, kR183_33, kR183_34, kR183_36, kR183_37, kR183_38, kR183_39, kR183_40, kR183_41, kR183_42, kR183_43, kR183_44, kL184, kA184, kS184, kL185, kA185, kS185, kL186, kA186, kS186, kL187, kA187, kS187, kL188, kA188, kS188, kL189, kL190, kL191, kA191, kS191, kL192, kA192, kS192, kL193, kA193, kS193, kL194, kA194, kS194, kL195, kA195, kS195, kL196, kA196, kS196, kL197, kA197, kS197, kL198, kA198, kS198, kL199, kA199, kS199, kL200, kA200, kS200, kL201, kL202, kA202, kS202, kL203, kA203, kS203, kL204, kA204, kS204, kL205, kL206, kA206, kS206]
    rw [← hA]
    simp (disch := first | assumption | omega) only [Option.bind_some, Option.map_some, xw_gR, xw_gN, xw_al, xw_ck, xw_uI, xw_ur, xup_at, xur_at, if_true, if_false, reduceIte, and_true, true_and, and_false, false_and, not_true_eq_false, not_false_eq_true, Nat.reduceEqDiff, eq_self, Nat.reduceAdd, Nat.reduceMul, kC1, kG1, kP1, kR1_0, kR1_1, kR1_2, kR1_3, kR1_4, kR1_5, kR1_6, kR1_7, kR1_8, kR1_9, kR1_10, kR1_11, kR1_12, kR1_13, kC2, kG2, kP2, kR2_0, kR2_1, kC3, kG3, kP3, kR3_0, kR3_1, kR3_2, kR3_3, kL4, kA4, kS4, kL5, kA5, kS5, kL6, kA6, kS6, kL7, kA7, kS7, kC8, kG8, kP8, kR8_0, kR8_1, kL9, kA9, kS9, kL10, kA10, kS10, kC11, kG11, kP11, kR11_0, kR11_1, kR11_2, kR11_3, kL12, kA12, kS12, kL13, kA13, kS13, kL14, kA14, kS14, kL15, kA15, kS15, kC16, kG16, kP16, kR16_0, kR16_1, kL17, kA17, kS17, kL18, kA18, kS18, kC19, kG19, kP19, kR19_0, kL20, kL141, kL146, kA146, kS146, kL151, kA151, kS151, kL156, kA156, kS156, kC157, kG157, kP157, kR157_0, kR157_1, kL158, kA158, kS158, kL159, kA159, kS159, kC161, kG161, kP161, kR161_0, kR161_1, kL162, kA162, kS162, kL163, kA163, kS163, kC165, kG165, kP165, kR165_0, kR165_1, kR165_2, kR165_3, kL166, kA166, kS166, kL167, kA167, kS167, kL168, kA168, kS168, kL169, kA169, kS169, kC170, kG170, kP170, kR170_0, kR170_1, kR170_2, kL171, kA171, kS171, kL172, kA172, kS172, kL173, kA173, kS173, kC174, kG174, kP174, kR174_0, kR174_1, kR174_2, kR174_3, kR174_4, kL175, kA175, kS175, kL176, kA176, kS176, kL177, kA177, kS177, kL178, kA178, kS178, kL179, kC180, kG180, kP180, kL181, kL182, kA182, kS182, kC183, kG183, kP183, kR183_1, kR183_3, kR183_5, kR183_6, kR183_7, kR183_8, kR183_9, kR183_21, kR183_26, kR183_27, kR183_30, kR183_31, kR183_33, kR183_34, kR183_36, kR183_37, kR183_38, kR183_39, kR183_40, kR183_41, kR183_42, kR183_43, kR183_44, kL184, kA184, kS184, kL185, kA185, kS185, kL186, kA186, kS186, kL187, kA187, kS187, kL188, kA188, kS188, kL189, kL190, kL191, kA191, kS191, kL192, kA192, kS192, kL193, kA193, kS193, kL194, kA194, kS194, kL195, kA195, kS195, kL196, kA196, kS196, kL197, kA197, kS197, kL198, kA198, kS198, kL199, kA199, kS199, kL200, kA200, kS200, kL201, kL202, kA202, kS202, kL203, kA203, kS203, kL204, kA204, kS204, kL205, kL206, kA206, kS206, f]
    exact e
  · rw [u a q (by omega), uB a q (by omega), hA, xup_at, if_neg (by omega), xup_at, if_neg (by omega), xup_at, if_neg (by omega), xup_at, if_neg (by omega)]
end LAYS
end
section
/-! the class begins anew -/
section ANEW
variable {σ : XS} {J : Nat → Nat → Int32} {g : GD} {st : Nat}
theorem anew_ok (hS : Shp σ) (hg : g ∈ gAll) (h5 : J 2 5 = nI g.1) (h6 : J 2 6 = nI g.2.1) (h7 : J 2 7 = nI g.2.2) (hst : J 1 15 = nI st) : ∃ J', f_X11_beginAnew (xw σ J) 1 = some (xw σ J') ∧ (J' 11 4 = nI g.1 ∧ J' 11 5 = nI g.2.1 ∧ J' 11 6 = nI g.2.2 ∧ J' 11 7 = nI (gSz g) ∧ GM J' g 32) ∧ (∀ t, t < 32 → J' 17 t = J 9 t) ∧ (∀ i, i < 16 → J' 18 i = J 10 i) ∧ J' 16 2 = J 8 2 ∧ J' 16 3 = J 8 3 ∧ J' 16 4 = J 8 3 ∧ J' 16 5 = J 8 5 ∧ J' 16 6 = nI (st + 1) ∧ J' 16 7 = nI (st + 1) ∧ J' 1 15 = nI (st + 1) ∧ J' 19 1 = 0 ∧ J' 19 2 = 0 ∧ (∀ i, i < 3 → J' (142 + 5 * i) 2 = 0) ∧ ∀ a q, ¬ (11 ≤ a ∧ a ≤ 19) → ¬ (a = 1 ∧ q = 15) → ¬ ((a = 142 ∨ a = 147 ∨ a = 152) ∧ q = 2) → J' a q = J a q := by
  obtain ⟨A, e1, a1, a2, a3, a4, a5, uA⟩ := lay_ok (σ := σ) (J := J) hS hg
  have cp := cp_ok (σ := σ) (I := A) hS suA_16 suA_8 (by decide) (by decide) (by decide) (by decide) (by decide)
  obtain ⟨B, hB⟩ : ∃ B, B = cpI A 16 8 := ⟨_, rfl⟩
  rw [← hB] at cp
  have uB : ∀ a q, (a < 16 ∨ 18 < a) → B a q = A a q := fun a q h => by rw [hB]; exact cpI_out h
  have B0 : ∀ k, 2 ≤ k → k ≤ 7 → B 16 k = J 8 k := fun k h1 h2 => by rw [hB, cpI_0 h1 h2, uA _ _ (by omega)]
  obtain ⟨C, hC⟩ : ∃ C, C = xup (xup (xup B 16 4 (B 16 3)) 19 1 0) 19 2 0 := ⟨_, rfl⟩
  have uC : ∀ a q, ¬ (a = 16 ∧ q = 4) → a ≠ 19 → C a q = B a q := fun a q h1 h2 => by rw [hC, xup_at, if_neg (by omega), xup_at, if_neg (by omega), xup_at, if_neg h1]
  obtain ⟨D, hD⟩ : ∃ D : Nat → Nat → Nat → Int32, D = fun n a q => if q = 2 ∧ ((a = 142 ∧ 0 < n) ∨ (a = 147 ∧ 1 < n) ∨ (a = 152 ∧ 2 < n)) then 0 else C a q := ⟨_, rfl⟩
  have uD : ∀ n a q, ¬ ((a = 142 ∨ a = 147 ∨ a = 152) ∧ q = 2) → D n a q = C a q := fun n a q h => by
    rw [hD]
    show (if q = 2 ∧ ((a = 142 ∧ 0 < n) ∨ (a = 147 ∧ 1 < n) ∨ (a = 152 ∧ 2 < n)) then 0 else C a q) = _
    rw [if_neg (by omega)]
  have D0 : D 0 = C := by
    rw [hD]
    funext a q
    show (if q = 2 ∧ ((a = 142 ∧ 0 < 0) ∨ (a = 147 ∧ 1 < 0) ∨ (a = 152 ∧ 2 < 0)) then 0 else C a q) = _
    rw [if_neg (by omega)]
  have Ds : ∀ i, i < 3 → xup (D i) (142 + 5 * i) 2 0 = D (i + 1) := fun i hi => by
    funext a q
    rw [xup_at, hD]
    show (if a = 142 + 5 * i ∧ q = 2 then (0 : Int32) else if q = 2 ∧ ((a = 142 ∧ 0 < i) ∨ (a = 147 ∧ 1 < i) ∨ (a = 152 ∧ 2 < i)) then 0 else C a q) = if q = 2 ∧ ((a = 142 ∧ 0 < i + 1) ∨ (a = 147 ∧ 1 < i + 1) ∨ (a = 152 ∧ 2 < i + 1)) then 0 else C a q
    by_cases z : a = 142 + 5 * i ∧ q = 2
    · rw [if_pos z, if_pos (by omega)]
    · rw [if_neg z]
      by_cases y : q = 2 ∧ ((a = 142 ∧ 0 < i) ∨ (a = 147 ∧ 1 < i) ∨ (a = 152 ∧ 2 < i))
      · rw [if_pos y, if_pos (by omega)]
      · rw [if_neg y, if_neg (by omega)]
  have C15 : ∀ n, D n 1 15 = nI st := fun n => by rw [uD _ _ _ (by omega), uC _ _ (by omega) (by omega), uB _ _ (by omega), uA _ _ (by omega)]; exact hst
  have stp := stampTies_ok (σ := σ) (I := D 3) hS (C15 3)
  obtain ⟨E, hE⟩ : ∃ E, E = xup (xup (xup (D 3) 1 15 (nI (st + 1))) 16 6 (nI (st + 1))) 16 7 (nI (st + 1)) := ⟨_, rfl⟩
  rw [← hE] at stp
  have uE : ∀ a q, ¬ (a = 1 ∧ q = 15) → ¬ (a = 16 ∧ (q = 6 ∨ q = 7)) → E a q = D 3 a q := fun a q h1 h2 => by rw [hE, xup_at, if_neg (by omega), xup_at, if_neg (by omega), xup_at, if_neg h1]
  have loop : xloop (f_X11_beginAnew_b65 1) ((0 : Int32), xw σ C) = some (xw σ E) := by
    refine xforE (fun i : Nat => (nI i, xw σ (D i))) 3 (by rw [D0]; rfl) (fun i hi => ?_) ?_
    · have q1 : (nI 3 ≤ nI i) = False := by rw [nn_le (by omega) (by omega)]; exact eq_false (by omega)
      have sa := slA (σ := σ) (I := D i) hS hi
      have sp := slP (σ := σ) (I := D i) (j := 2) (v := 0) hS hi
      rw [Ds i hi] at sp
      simp only [f_X11_beginAnew_b65]
      rw [xw_gR, kR1_5 hS, Option.bind_some, xw_al, kL141 hS, Option.bind_some, if_neg (by rw [q1]; exact id), Option.bind_some, sa, Option.bind_some, sp, Option.bind_some, nI_succ]
    · simp only [f_X11_beginAnew_b65]
      rw [xw_gR, kR1_5 hS, Option.bind_some, xw_al, kL141 hS, Option.bind_some, if_pos (by decide), xw_ck, kC1 hS, Option.bind_some, stp, Option.bind_some]
      rfl
  refine ⟨E, ?_, ⟨?_, ?_, ?_, ?_, ?_, ?_, ?_⟩, fun t ht => ?_, fun i hi => ?_, ?_, ?_, ?_, ?_, ?_, ?_, ?_, ?_, ?_, fun i hi => ?_, fun a q h1 h2 h3 => ?_⟩
  · unfold f_X11_beginAnew
    rw [xw_gR, kR1_2 hS, Option.bind_some, xw_gR, kR1_1 hS, Option.bind_some, kG2 hS, Option.bind_some, Option.bind_some, kG2 hS, Option.bind_some, Option.bind_some, kG2 hS, Option.bind_some, h5, h6, h7, xw_ck, kC11 hS, Option.bind_some, e1, Option.bind_some, xw_gR, kR1_3 hS, Option.bind_some, xw_gR, kR1_1 hS, Option.bind_some, xw_gR, kR2_1 hS, Option.bind_some, xw_ck, kC16 hS, Option.bind_some, cp, Option.bind_some, xw_gR, kR1_3 hS, Option.bind_some, Option.bind_some, kG16 hS, Option.bind_some, kP16 hS, Option.bind_some, xw_gR, kR1_4 hS, Option.bind_some, xw_ck, kC19 hS, Option.bind_some]
    unfold f_X5_forget
    rw [kP19 hS, Option.bind_some, kP19 hS, Option.bind_some, Option.bind_some, ← hC]
    exact loop
  all_goals first
    | (rw [uE _ _ (by omega) (by omega), uD _ _ _ (by omega), uC _ _ (by omega) (by omega), uB _ _ (by omega)]; assumption)
    | skip
  · intro t ht
    rw [uE _ _ (by omega) (by omega), uD _ _ _ (by omega), uC _ _ (by omega) (by omega), uB _ _ (by omega)]; exact a5.1 t ht
  · intro i hi
    rw [uE _ _ (by omega) (by omega), uD _ _ _ (by omega), uC _ _ (by omega) (by omega), uB _ _ (by omega)]; exact a5.2.1 i hi
  · intro i j hi hj
    rw [uE _ _ (by omega) (by omega), uD _ _ _ (by omega), uC _ _ (by omega) (by omega), uB _ _ (by omega), uE _ _ (by omega) (by omega), uD _ _ _ (by omega), uC _ _ (by omega) (by omega), uB _ _ (by omega)]; exact a5.2.2 i j hi hj
  · rw [uE _ _ (by omega) (by omega), uD _ _ _ (by omega), uC _ _ (by omega) (by omega), hB]
    have : cpI A 16 8 (16 + 1) t = A (8 + 1) t := cpI_1 ht
    rw [this]; exact uA _ _ (by omega)
  · rw [uE _ _ (by omega) (by omega), uD _ _ _ (by omega), uC _ _ (by omega) (by omega), hB]
    have : cpI A 16 8 (16 + 2) i = A (8 + 2) i := by
      unfold cpI
      rw [if_neg (by omega), if_pos ⟨rfl, hi⟩]
    rw [this]; exact uA _ _ (by omega)
  · rw [uE _ _ (by omega) (by omega), uD _ _ _ (by omega), uC _ _ (by omega) (by omega)]; exact B0 2 (by omega) (by omega)
  · rw [uE _ _ (by omega) (by omega), uD _ _ _ (by omega), uC _ _ (by omega) (by omega)]; exact B0 3 (by omega) (by omega)
  · rw [uE _ _ (by omega) (by omega), uD _ _ _ (by omega), hC, xup_at, if_neg (by omega), xup_at, if_neg (by omega), xup_at, if_pos ⟨rfl, rfl⟩]; exact B0 3 (by omega) (by omega)
  · rw [uE _ _ (by omega) (by omega), uD _ _ _ (by omega), uC _ _ (by omega) (by omega)]; exact B0 5 (by omega) (by omega)
  · rw [hE, xup_at, if_neg (by omega), xup_at, if_pos ⟨rfl, rfl⟩]
  · rw [hE, xup_at, if_pos ⟨rfl, rfl⟩]
  · rw [hE, xup_at, if_neg (by omega), xup_at, if_neg (by omega), xup_at, if_pos ⟨rfl, rfl⟩]
  · rw [uE _ _ (by omega) (by omega), uD _ _ _ (by omega), hC, xup_at, if_neg (by omega), xup_at, if_pos ⟨rfl, rfl⟩]
  · rw [uE _ _ (by omega) (by omega), uD _ _ _ (by omega), hC, xup_at, if_pos ⟨rfl, rfl⟩]
  · rw [uE _ _ (by omega) (by omega), hD]
    show (if 2 = 2 ∧ ((142 + 5 * i = 142 ∧ 0 < 3) ∨ (142 + 5 * i = 147 ∧ 1 < 3) ∨ (142 + 5 * i = 152 ∧ 2 < 3)) then (0 : Int32) else C (142 + 5 * i) 2) = 0
    rw [if_pos (by omega)]
  · rw [uE _ _ (by omega) (by omega), uD _ _ _ (by omega), uC _ _ (by omega) (by omega), uB _ _ (by omega)]; exact uA _ _ (by omega)
end ANEW
end
section
/-! the model's meaning: what is wrong, what all sites get -/
def MB (J0 : Nat → Nat → Int32) (b : Nat → Int32) (m T : Nat) : Prop := OKT b m T ∧ TKM J0 b m (T + 1) ∧ J0 183 10 = nI (T + 1) ∧ J0 183 12 = 0 ∧ m ≤ 2000
def MF (J0 J : Nat → Nat → Int32) : Prop := ∀ a q, a ≠ 192 → ¬ (a = 183 ∧ (q = 14 ∨ q = 15 ∨ (22 ≤ q ∧ q ≤ 25))) → J a q = J0 a q
def MW (J : Nat → Nat → Int32) (b : Nat → Int32) (m : Nat) (W : Nat → Nat → Prop) : Prop := (J 183 14 = 0 ∧ ∀ c j, ¬ W c j) ∨ ∃ c j, W c j ∧ 0 < c ∧ c < 5 ∧ J 183 14 = nI c ∧ J 183 15 = nI (tSt b m j) ∧ ∀ c' j', W c' j' → tSt b m j < tSt b m j' ∨ (tSt b m j = tSt b m j' ∧ c ≤ c')
theorem MW_c {J J' : Nat → Nat → Int32} {b : Nat → Int32} {m : Nat} {W W' : Nat → Nat → Prop} (h4 : J' 183 14 = J 183 14) (h5 : J' 183 15 = J 183 15) (hW : ∀ c j, W' c j ↔ W c j) (h : MW J b m W) : MW J' b m W' := by
  have e : W' = W := by funext c j; exact propext (hW c j)
  rw [e]
  unfold MW
  rw [h4, h5]
  exact h
section MM
variable {τ : XS} {J0 J : Nat → Nat → Int32} {b : Nat → Int32} {m T : Nat} {W : Nat → Nat → Prop}
theorem mK (hB : MB J0 b m T) (hF : MF J0 J) {k : Nat} (hk : k ≤ T) : KMr (tKd b m k) (J 186 k) ∧ J 187 k = nI (tSt b m k) ∧ (tKd b m k = 2 → J 188 k = nI (tNu b m k)) := by
  rw [hF 186 k (by omega) (by omega), hF 187 k (by omega) (by omega), hF 188 k (by omega) (by omega)]
  exact hB.2.1 k (by omega)
theorem mKe (hB : MB J0 b m T) (hF : MF J0 J) {k k' : Nat} (hk : k ≤ T) (hk' : k' ≤ 15) (h1 : k' ≠ 1) : (J 186 k = nI (kmN k')) = (tKd b m k = k') := KMr_eq (mK hB hF hk).1 (tKd_b k) hk' h1
theorem wrong_ok (hS : Shp τ) (hB : MB J0 b m T) (hF : MF J0 J) (hW : MW J b m W) {c j : Nat} (hc : 0 < c) (hc5 : c < 5) (hj : j ≤ T) : ∃ J', f_X12_wrong (xw τ J) 183 (nI c) (nI j) = some (xw τ J') ∧ MW J' b m (fun c' j' => W c' j' ∨ (c' = c ∧ j' = j)) ∧ ∀ a q, ¬ (a = 183 ∧ (q = 14 ∨ q = 15)) → J' a q = J a q := by
  have hT := hB.1.2.1
  have hm := hB.2.2.2.2
  have vp := (mK hB hF hj).2.1
  have v12 : J 183 12 = 0 := by rw [hF _ _ (by omega) (by omega)]; exact hB.2.2.2.1
  have j403 : j < 403 := by omega
  have sb := (tSt_b (b := b) (m := m) j).2
  have z0 : ((0 : Int32) < 0) = False := eq_false (by decide)
  obtain ⟨S1, hS1⟩ : ∃ S1, S1 = xup (xup J 183 14 (nI c)) 183 15 (nI (tSt b m j)) := ⟨_, rfl⟩
  have j46 : f_X12_wrong_j46 (xw τ J) 183 (nI c) (nI (tSt b m j)) = some (xw τ S1) := by
    unfold f_X12_wrong_j46
    simp (disch := first | assumption | omega) only [Option.bind_some, Option.map_some, xw_gR, xw_gN, xw_al, xw_ck, xw_uI, xw_ur, xup_at, xur_at, if_true, if_false, reduceIte, and_true, true_and, and_false, false_and, not_true_eq_false, not_false_eq_true, Nat.reduceEqDiff, eq_self, Nat.reduceAdd, Nat.reduceMul, kC1, kG1, kP1, kR1_0, kR1_1, kR1_2, kR1_3, kR1_4, kR1_5, kR1_6, kR1_7, kR1_8, kR1_9, kR1_10, kR1_11, kR1_12, kR1_13, kC2, kG2, kP2, kR2_0, kR2_1, kC3, kG3, kP3, kR3_0, kR3_1, kR3_2, kR3_3, kL4, kA4, kS4, kL5, kA5, kS5, kL6, kA6, kS6, kL7, kA7, kS7, kC8, kG8, kP8, kR8_0, kR8_1, kL9, kA9, kS9, kL10, kA10, kS10, kC11, kG11, kP11, kR11_0, kR11_1, kR11_2, kR11_3, kL12, kA12, kS12, kL13, kA13, kS13, kL14, kA14, kS14, kL15, kA15, kS15, kC16, kG16, kP16, kR16_0, kR16_1, kL17, kA17, kS17, kL18, kA18, kS18, kC19, kG19, kP19, kR19_0, kL20, kL141, kL146, kA146, kS146, kL151, kA151, kS151, kL156, kA156, kS156, kC157, kG157, kP157, kR157_0, kR157_1, kL158, kA158, kS158, kL159, kA159, kS159, kC161, kG161, kP161, kR161_0, kR161_1, kL162, kA162, kS162, kL163, kA163, kS163, kC165, kG165, kP165, kR165_0, kR165_1, kR165_2, kR165_3, kL166, kA166, kS166, kL167, kA167, kS167, kL168, kA168, kS168, kL169, kA169, kS169, kC170, kG170, kP170, kR170_0, kR170_1, kR170_2, kL171, kA171, kS171, kL172, kA172, kS172, kL173, kA173, kS173, kC174, kG174, kP174, kR174_0, kR174_1, kR174_2, kR174_3, kR174_4, kL175, kA175, kS175, kL176, kA176, kS176, kL177, kA177, kS177, kL178, kA178, kS178, kL179, kC180, kG180, kP180, kL181, kL182, kA182, kS182, kC183, kG183, kP183, kR183_1, kR183_3, kR183_5, kR183_6, kR183_7, kR183_8, kR183_9, kR183_21, kR183_26, kR183_27, kR183_30, kR183_31, kR183_33, kR183_34, kR183_36, kR183_37, kR183_38, kR183_39, kR183_40, kR183_41, kR183_42, kR183_43, kR183_44, kL184, kA184, kS184, kL185, kA185, kS185, kL186, kA186, kS186, kL187, kA187, kS187, kL188, kA188, kS188, kL189, kL190, kL191, kA191, kS191, kL192, kA192, kS192, kL193, kA193, kS193, kL194, kA194, kS194, kL195, kA195, kS195, kL196, kA196, kS196, kL197, kA197, kS197, kL198, kA198, kS198, kL199, kA199, kS199, kL200, kA200, kS200, kL201, kL202, kA202, kS202, kL203, kA203, kS203, kL204, kA204, kS204, kL205, kL206, kA206, kS206, ← hS1]
  have s14 : S1 183 14 = nI c := by rw [hS1, xup_at, if_neg (by omega), xup_at, if_pos ⟨rfl, rfl⟩]
  have s15 : S1 183 15 = nI (tSt b m j) := by rw [hS1, xup_at, if_pos ⟨rfl, rfl⟩]
  have uS : ∀ a q, ¬ (a = 183 ∧ (q = 14 ∨ q = 15)) → S1 a q = J a q := fun a q h => by rw [hS1, xup_at, if_neg (by omega), xup_at, if_neg (by omega)]
  -- it becomes the worst
  have set : (∀ c' j', W c' j' → tSt b m j < tSt b m j' ∨ (tSt b m j = tSt b m j' ∧ c ≤ c')) → MW S1 b m (fun c' j' => W c' j' ∨ (c' = c ∧ j' = j)) := fun h => .inr ⟨c, j, .inr ⟨rfl, rfl⟩, hc, hc5, s14, s15, fun c' j' hh => by
    rcases hh with z | ⟨z1, z2⟩
    · exact h c' j' z
    · rw [z1, z2]; exact .inr ⟨rfl, Nat.le_refl _⟩⟩
  unfold f_X12_wrong
  rw [xw_gR, kR183_6 hS, Option.bind_some, kA187 hS j403, Option.bind_some, vp, kG183 hS, Option.bind_some, v12, if_neg (by decide), kG183 hS, Option.bind_some]
  rcases hW with ⟨w1, w2⟩ | ⟨c0, j0, w1, w2, w3, w4, w5, w6⟩
  · rw [w1, if_pos rfl, j46]
    exact ⟨S1, rfl, set (fun c' j' h => absurd h (w2 c' j')), uS⟩
  · have sb0 := (tSt_b (b := b) (m := m) j0).2
    have q1 : (nI (tSt b m j0) < nI (tSt b m j)) = (tSt b m j0 < tSt b m j) := nn_lt (by omega) (by omega)
    have q2 : (nI (tSt b m j) = nI (tSt b m j0)) = (tSt b m j = tSt b m j0) := nn_eq (by omega) (by omega)
    have q3 : (nI c < nI c0) = (c < c0) := nn_lt (by omega) (by omega)
    have keep : (tSt b m j0 < tSt b m j ∨ (tSt b m j0 = tSt b m j ∧ c0 ≤ c)) → MW J b m (fun c' j' => W c' j' ∨ (c' = c ∧ j' = j)) := fun h => .inr ⟨c0, j0, .inl w1, w2, w3, w4, w5, fun c' j' hh => by
      rcases hh with z | ⟨z1, z2⟩
      · exact w6 c' j' z
      · rw [z1, z2]; exact h⟩
    rw [w4, if_neg (nI_ne0 (by omega) (by omega)), kG183 hS, Option.bind_some, w5]
    simp only [q1]
    by_cases h1 : tSt b m j0 < tSt b m j
    · rw [if_pos h1]
      exact ⟨J, rfl, keep (.inl h1), fun _ _ _ => rfl⟩
    · rw [if_neg h1]
      simp only [Option.bind_some, q2, kG183 hS, w5, w4, q3]
      by_cases h2 : tSt b m j = tSt b m j0
      · rw [if_pos h2]
        by_cases h3 : c < c0
        · rw [if_pos h3, j46]
          refine ⟨S1, rfl, set (fun c' j' h => ?_), uS⟩
          have := w6 c' j' h
          omega
        · rw [if_neg h3]
          exact ⟨J, rfl, keep (.inr ⟨h2.symm, by omega⟩), fun _ _ _ => rfl⟩
      · rw [if_neg h2, j46]
        refine ⟨S1, rfl, set (fun c' j' h => ?_), uS⟩
        have := w6 c' j' h
        omega
theorem jAt_ok (hS : Shp τ) (hB : MB J0 b m T) (hF : MF J0 J) (hW : MW J b m W) {t : Nat} (hJ : isJt b m t) (ht : t + jlT b m t ≤ T) : ∃ J', f_X12_jAt (xw τ J) 183 (nI t) = some (iI (jvT b m t), xw τ J') ∧ MW J' b m (fun c j => W c j ∨ (3 < tNu b m (jnT b m t) ∧ c = 3 ∧ j = jnT b m t)) ∧ ∀ a q, ¬ (a = 183 ∧ (q = 14 ∨ q = 15)) → J' a q = J a q := by
  have hT := hB.1.2.1
  have jl1 : 1 ≤ jlT b m t := by unfold jlT; split <;> omega
  have jnb := jn_b (b := b) (m := m) t
  obtain ⟨n, hn⟩ : ∃ n, n = jnT b m t := ⟨_, rfl⟩
  rw [← hn] at jnb ⊢
  have kn : tKd b m n = 2 := by
    rw [hn]; unfold jnT
    rcases hJ with ⟨a1, a2⟩ | a1
    · rw [if_pos a1]; exact a2
    · rw [if_neg (by omega)]; exact a1
  have nv := tNu_b kn
  have n403 : n < 403 := by omega
  have t403 : t < 403 := by omega
  have q5 : ∀ J1, MF J0 J1 → (J1 186 t = (5 : Int32)) = (tKd b m t = 3) := fun J1 h => mKe (k' := 3) hB h (by omega) (by omega) (by omega)
  have v8 : ∀ J1, MF J0 J1 → J1 188 n = nI (tNu b m n) := fun J1 h => (mK hB h (by omega)).2.2 kn
  have j34 : ∀ J1, MF J0 J1 → f_X12_jAt_j34 (xw τ J1) 183 (nI t) (nI n) = some (iI (jvT b m t), xw τ J1) := fun J1 h => by
    unfold f_X12_jAt_j34
    simp only [xw_gR, kR183_5 hS, kR183_7 hS, Option.bind_some, kA186 hS t403, kA188 hS n403, v8 J1 h, q5 J1 h]
    unfold jvT
    by_cases z : tKd b m t = 3
    · have en : n = t + 1 := by rw [hn]; unfold jnT; rw [if_pos z]
      rw [if_pos z, if_pos z, ← en, iI_n, iI_neg]
    · have en : n = t := by rw [hn]; unfold jnT; rw [if_neg z]
      rw [if_neg z, if_neg z, ← en, iI_n]
  have j17 : f_X12_jAt (xw τ J) 183 (nI t) = f_X12_jAt_j17 (xw τ J) 183 (nI t) (nI n) := by
    unfold f_X12_jAt
    rw [xw_gR, kR183_5 hS, Option.bind_some, kA186 hS t403, Option.bind_some]
    simp only [q5 J hF]
    by_cases z : tKd b m t = 3
    · have en : n = t + 1 := by rw [hn]; unfold jnT; rw [if_pos z]
      rw [if_pos z, en, nI_succ]
    · have en : n = t := by rw [hn]; unfold jnT; rw [if_neg z]
      rw [if_neg z, en]
  have q3 : (nI (tNu b m n) ≤ (3 : Int32)) = (tNu b m n ≤ 3) := by rw [show (3 : Int32) = nI 3 from rfl, nn_le (by omega) (by omega)]
  rw [j17]
  unfold f_X12_jAt_j17
  rw [xw_gR, kR183_7 hS, Option.bind_some, kA188 hS n403, Option.bind_some, v8 J hF]
  simp only [q3]
  by_cases h3 : tNu b m n ≤ 3
  · rw [if_pos h3, j34 J hF]
    refine ⟨J, rfl, MW_c rfl rfl (fun c j => ⟨fun z => z.elim id (fun y => by omega), .inl⟩) hW, fun _ _ _ => rfl⟩
  · rw [if_neg h3]
    obtain ⟨J', e, w, u⟩ := wrong_ok (τ := τ) hS hB hF hW (c := 3) (j := n) (by omega) (by omega) (by omega)
    have e : f_X12_wrong (xw τ J) 183 (3 : Int32) (nI n) = some (xw τ J') := e
    have hF' : MF J0 J' := fun a q h1 h2 => by rw [u a q (by omega)]; exact hF a q h1 h2
    rw [xw_ck, kC183 hS, Option.bind_some, e, Option.bind_some, j34 J' hF']
    refine ⟨J', rfl, MW_c rfl rfl (fun c j => ⟨fun z => z.elim .inl (fun y => .inr ⟨y.2.1, y.2.2⟩), fun z => z.elim .inl (fun y => .inr ⟨by omega, y.1, y.2⟩)⟩) w, u⟩
/-- the new row behind the first pass -/
def FR1 (J : Nat → Nat → Int32) (b : Nat → Int32) (m k : Nat) : Prop := (∀ i, i < 16 → J 192 i = iI (aLL b m 6 k) ∧ J 192 (16 + i) = iI (aLL b m 7 k) ∧ J 192 (32 + i) = iI (aLL b m 8 k) ∧ J 192 (48 + i) = 0) ∧ J 192 64 = 0 ∧ J 192 65 = nI (sDD b m k)
theorem fold_at {α : Type} {x0 : α} {f : Nat → α → α} {k : Nat} (h : lsB b m k = true) : foldL b m x0 f (k + 1) = f k (foldL b m x0 f k) := by rw [foldL, if_pos h]
theorem fold_no {α : Type} {x0 : α} {f : Nat → α → α} {k : Nat} (h : lsB b m k = false) : foldL b m x0 f (k + 1) = foldL b m x0 f k := by rw [foldL, h, if_neg (by decide)]
theorem all16 (hS : Shp τ) {at_ : Nat} (ha : at_ + 16 ≤ 66) (v : Int32) : xloop (f_X12_meansAll_b105 183 (nI at_) v) ((0 : Int32), xw τ J) = some (xw τ (fun a q => if a = 192 ∧ at_ ≤ q ∧ q < at_ + 16 then v else J a q)) := by
  refine xforE (fun i : Nat => (nI i, xw τ (fun a q => if a = 192 ∧ at_ ≤ q ∧ q < at_ + i then v else J a q))) 16 ?_ (fun i hi => ?_) ?_
  · have : (fun a q => if a = 192 ∧ at_ ≤ q ∧ q < at_ + 0 then v else J a q) = J := by
      funext a q
      rw [if_neg (by omega)]
    simp only [this]
    rfl
  · have q1 : ((16 : Int32) ≤ nI i) = False := by rw [show (16 : Int32) = nI 16 from rfl, nn_le (by omega) (by omega)]; exact eq_false (by omega)
    have e : xup (fun a q => if a = 192 ∧ at_ ≤ q ∧ q < at_ + i then v else J a q) 192 (at_ + i) v = fun a q => if a = 192 ∧ at_ ≤ q ∧ q < at_ + (i + 1) then v else J a q := by
      funext a q
      rw [xup_at]
      by_cases z : a = 192 ∧ q = at_ + i
      · rw [if_pos z, if_pos (by omega)]
      · rw [if_neg z]
        by_cases y : a = 192 ∧ at_ ≤ q ∧ q < at_ + i
        · rw [if_pos y, if_pos (by omega)]
        · rw [if_neg y, if_neg (by omega)]
    simp only [f_X12_meansAll_b105]
    rw [if_neg (by rw [q1]; exact id), xw_gR, kR183_26 hS, Option.bind_some, nn_add, kS192 hS (by omega), Option.bind_some, e, nI_succ]
  · simp only [f_X12_meansAll_b105]
    rw [if_pos (by decide)]
    rfl
theorem meansAll_ok (hS : Shp τ) (hB : MB J0 b m T) (hF : MF J0 J) (hW : MW J b m W) {k : Nat} (hk4 : 4 ≤ k) (hkT : k ≤ T) (hl : lsB b m k = true) (hR : FR1 J b m k) : ∃ J', f_X12_meansAll (xw τ J) 183 (nI k) = some (xw τ J') ∧ MF J0 J' ∧ MW J' b m (fun c j => W c j ∨ ((tKd b m k = 6 ∨ tKd b m k = 7 ∨ tKd b m k = 8) ∧ 3 < tNu b m (jnT b m (k + 1)) ∧ c = 3 ∧ j = jnT b m (k + 1))) ∧ FR1 J' b m (k + 1) ∧ ∀ q, 22 ≤ q → q ≤ 25 → J' 183 q = J 183 q := by
  have hT := hB.1
  have T400 := hT.2.1
  have k403 : k < 403 := by omega
  have q30 : ∀ J1, MF J0 J1 → (J1 186 k = (30 : Int32)) = (tKd b m k = 15) := fun J1 h => mKe (k' := 15) hB h hkT (by omega) (by omega)
  have q21 : ∀ J1, MF J0 J1 → (J1 186 k = (21 : Int32)) = (tKd b m k = 6) := fun J1 h => mKe (k' := 6) hB h hkT (by omega) (by omega)
  have q22 : ∀ J1, MF J0 J1 → (J1 186 k = (22 : Int32)) = (tKd b m k = 7) := fun J1 h => mKe (k' := 7) hB h hkT (by omega) (by omega)
  have q23 : ∀ J1, MF J0 J1 → (J1 186 k = (23 : Int32)) = (tKd b m k = 8) := fun J1 h => mKe (k' := 8) hB h hkT (by omega) (by omega)
  have hws := (ls_ws hT hk4 hkT).mp hl
  have eA : ∀ c, aLL b m c (k + 1) = if tKd b m k = c then jvT b m (k + 1) else aLL b m c k := fun c => fold_at hl
  have eS : sDD b m (k + 1) = if tKd b m k = 15 then tNu b m (k + 1) else sDD b m k := fold_at hl
  obtain ⟨r1, r2, r3⟩ := hR
  -- the second half, whatever the first did
  have half : ∀ J1, MF J0 J1 → (∀ a q, ¬ (a = 192 ∧ q = 65) → J1 a q = J a q) → J1 192 65 = nI (sDD b m (k + 1)) → ∃ J', f_X12_meansAll_j26 (xw τ J1) 183 (nI k) = some (xw τ J') ∧ MF J0 J' ∧ MW J' b m (fun c j => W c j ∨ ((tKd b m k = 6 ∨ tKd b m k = 7 ∨ tKd b m k = 8) ∧ 3 < tNu b m (jnT b m (k + 1)) ∧ c = 3 ∧ j = jnT b m (k + 1))) ∧ FR1 J' b m (k + 1) ∧ ∀ q, 22 ≤ q → q ≤ 25 → J' 183 q = J 183 q := by
    intro J1 hF1 u1 s1
    have hW1 : MW J1 b m W := MW_c (u1 _ _ (by omega)) (u1 _ _ (by omega)) (fun _ _ => Iff.rfl) hW
    by_cases hk : tKd b m k = 6 ∨ tKd b m k = 7 ∨ tKd b m k = 8
    · have hlt : k < T := by
        rcases Nat.lt_or_ge k T with z | z
        · exact z
        · have : k = T := by omega
          rw [this, hT.2.2] at hk; omega
      have hJ : isJt b m (k + 1) := by
        rcases (line_at hT hws hlt).1 with ⟨-, h⟩ | ⟨h, -⟩ | ⟨h, -⟩ | ⟨h, -⟩ | ⟨h, -⟩ | ⟨h, -⟩
        · exact h
        all_goals omega
      have hend : k + 1 + jlT b m (k + 1) ≤ T := by
        have h1 := (line_at hT hws hlt).2.2.2.1
        unfold lnE at h1
        rw [if_neg (by omega), if_neg (by omega), if_neg (by omega), if_neg (by omega)] at h1
        omega
      obtain ⟨J2, e2, w2, u2⟩ := jAt_ok (τ := τ) hS hB hF1 hW1 hJ hend
      obtain ⟨at_, hat⟩ : ∃ at_, at_ = if tKd b m k = 6 then 0 else if tKd b m k = 7 then 16 else 32 := ⟨_, rfl⟩
      have at48 : at_ + 16 ≤ 48 := by rw [hat]; split; omega; split <;> omega
      have al := all16 (τ := τ) (J := J2) hS (show at_ + 16 ≤ 66 by omega) (iI (jvT b m (k + 1)))
      obtain ⟨J3, hJ3⟩ : ∃ J3 : Nat → Nat → Int32, J3 = fun a q => if a = 192 ∧ at_ ≤ q ∧ q < at_ + 16 then iI (jvT b m (k + 1)) else J2 a q := ⟨_, rfl⟩
      rw [← hJ3] at al
      have j93 : f_X12_meansAll_j93 (xw τ J1) 183 (nI k) (nI at_) = some (xw τ J3) := by
        unfold f_X12_meansAll_j93
        rw [xw_ck, kC183 hS, Option.bind_some, ← nI_succ, e2, Option.bind_some]
        exact al
      have j60 : f_X12_meansAll_j60 (xw τ J1) 183 (nI k) = some (xw τ J3) := by
        unfold f_X12_meansAll_j60
        simp only [xw_gR, kR183_5 hS, Option.bind_some, kA186 hS k403, q21 J1 hF1, q22 J1 hF1]
        rw [hat] at j93
        by_cases z1 : tKd b m k = 6
        · rw [if_pos z1] at j93 ⊢; exact j93
        · rw [if_neg z1] at j93 ⊢
          by_cases z2 : tKd b m k = 7
          · rw [if_pos z2] at j93 ⊢; exact j93
          · rw [if_neg z2] at j93 ⊢; exact j93
      have u3 : ∀ a q, ¬ (a = 192 ∧ at_ ≤ q ∧ q < at_ + 16) → J3 a q = J2 a q := fun a q h => by
        rw [hJ3]
        show (if a = 192 ∧ at_ ≤ q ∧ q < at_ + 16 then _ else J2 a q) = _
        rw [if_neg h]
      have i3 : ∀ q, at_ ≤ q → q < at_ + 16 → J3 192 q = iI (jvT b m (k + 1)) := fun q h1 h2 => by
        rw [hJ3]
        show (if 192 = 192 ∧ at_ ≤ q ∧ q < at_ + 16 then _ else J2 192 q) = _
        rw [if_pos ⟨rfl, h1, h2⟩]
      have old : ∀ q, q < 65 → J2 192 q = J 192 q := fun q hq => by rw [u2 _ _ (by omega)]; exact u1 _ _ (by omega)
      refine ⟨J3, ?_, fun a q h1 h2 => by rw [u3 a q (by omega), u2 a q (by omega)]; exact hF1 a q h1 h2, ?_, ⟨fun i hi => ?_, ?_, ?_⟩, fun q h1 h2 => by rw [u3 _ _ (by omega), u2 _ _ (by omega)]; exact u1 _ _ (by omega)⟩
      · unfold f_X12_meansAll_j26
        simp only [xw_gR, kR183_5 hS, Option.bind_some, kA186 hS k403, j60, q21 J1 hF1, q22 J1 hF1, q23 J1 hF1]
        by_cases z1 : tKd b m k = 6
        · rw [if_pos z1]
        · rw [if_neg z1]
          by_cases z2 : tKd b m k = 7
          · rw [if_pos z2]
          · rw [if_neg z2, if_pos (by omega)]
      · refine MW_c (u3 _ _ (by omega)) (u3 _ _ (by omega)) (fun c j => ?_) w2
        constructor
        · rintro (z | ⟨-, z⟩)
          · exact .inl z
          · exact .inr z
        · rintro (z | z)
          · exact .inl z
          · exact .inr ⟨hk, z⟩
      · obtain ⟨o1, o2, o3, o4⟩ := r1 i hi
        rw [eA, eA, eA]
        rcases hk with z | z | z
        · have ea : at_ = 0 := by rw [hat, if_pos z]
          rw [if_pos z, if_neg (by omega), if_neg (by omega)]
          refine ⟨i3 i (by omega) (by omega), ?_, ?_, ?_⟩
          · rw [u3 _ _ (by omega), old _ (by omega)]; exact o2
          · rw [u3 _ _ (by omega), old _ (by omega)]; exact o3
          · rw [u3 _ _ (by omega), old _ (by omega)]; exact o4
        · have ea : at_ = 16 := by rw [hat, if_neg (by omega), if_pos z]
          rw [if_neg (by omega), if_pos z, if_neg (by omega)]
          refine ⟨?_, i3 _ (by omega) (by omega), ?_, ?_⟩
          · rw [u3 _ _ (by omega), old _ (by omega)]; exact o1
          · rw [u3 _ _ (by omega), old _ (by omega)]; exact o3
          · rw [u3 _ _ (by omega), old _ (by omega)]; exact o4
        · have ea : at_ = 32 := by rw [hat, if_neg (by omega), if_neg (by omega)]
          rw [if_neg (by omega), if_neg (by omega), if_pos z]
          refine ⟨?_, ?_, i3 _ (by omega) (by omega), ?_⟩
          · rw [u3 _ _ (by omega), old _ (by omega)]; exact o1
          · rw [u3 _ _ (by omega), old _ (by omega)]; exact o2
          · rw [u3 _ _ (by omega), old _ (by omega)]; exact o4
      · rw [u3 _ _ (by omega), old _ (by omega)]; exact r2
      · rw [u3 _ _ (by omega), u2 _ _ (by omega)]; exact s1
    · refine ⟨J1, ?_, hF1, MW_c rfl rfl (fun c j => ⟨fun z => z.elim id (fun y => absurd y.1 hk), .inl⟩) hW1, ⟨fun i hi => ?_, ?_, s1⟩, fun q h1 h2 => u1 _ _ (by omega)⟩
      · unfold f_X12_meansAll_j26
        simp only [xw_gR, kR183_5 hS, Option.bind_some, kA186 hS k403, q21 J1 hF1, q22 J1 hF1, q23 J1 hF1]
        rw [if_neg (by omega), if_neg (by omega), if_neg (by omega)]
      · obtain ⟨o1, o2, o3, o4⟩ := r1 i hi
        rw [eA, eA, eA, if_neg (by omega), if_neg (by omega), if_neg (by omega), u1 _ _ (by omega), u1 _ _ (by omega), u1 _ _ (by omega), u1 _ _ (by omega)]
        exact ⟨o1, o2, o3, o4⟩
      · rw [u1 _ _ (by omega)]; exact r2
  unfold f_X12_meansAll
  rw [xw_gR, kR183_5 hS, Option.bind_some, kA186 hS k403, Option.bind_some]
  simp only [q30 J hF]
  by_cases hk : tKd b m k = 15
  · have hlt : k < T := by
      rcases Nat.lt_or_ge k T with z | z
      · exact z
      · have : k = T := by omega
        rw [this, hT.2.2] at hk; omega
    have hk1 : tKd b m (k + 1) = 2 := by
      rcases (line_at hT hws hlt).1 with ⟨h, -⟩ | ⟨h, -⟩ | ⟨h, -⟩ | ⟨h, -⟩ | ⟨h, -⟩ | ⟨-, h⟩
      all_goals first
        | exact h
        | omega
    have v8 := (mK hB hF (show k + 1 ≤ T by omega)).2.2 hk1
    rw [if_pos hk, xw_gR, kR183_26 hS, Option.bind_some, xw_gR, kR183_7 hS, Option.bind_some, ← nI_succ, kA188 hS (by omega), Option.bind_some, v8, show (65 : Int32) = nI 65 from rfl, kS192 hS (by omega), Option.bind_some]
    exact half _ (fun a q h1 h2 => by rw [xup_at, if_neg (by omega)]; exact hF a q h1 h2) (fun a q h => by rw [xup_at, if_neg h]) (by rw [xup_at, if_pos ⟨rfl, rfl⟩, eS, if_pos hk])
  · rw [if_neg hk]
    exact half J hF (fun _ _ _ => rfl) (by rw [eS, if_neg hk]; exact r3)
end MM
end
