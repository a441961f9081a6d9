section
/-! pass and hill -/
section PASS
variable {σ : XS} {J : Nat → Nat → Int32} {g : GD} {F : Nat → Int32}
theorem pass12_ok (hS : Shp σ) (hG : GRD J g) (ho : RO g F) (hK : KNK J g F) (h10 : gSt g ≤ 1024) {one other : Nat} (h1 : lwS g F one) (h2 : lwS g F other) :
    ∃ (J' : Nat → Nat → Int32) (h' : Nat → Int), xloop (f_X12_pass_b35 183 (nI one) (nI other)) ((0 : Int32), xw σ J) = some (iI (h' one), xw σ J') ∧ (∀ a k, a ≠ 202 → J' a k = J a k) ∧ HI g F (fun q => q = other) h' ∧ ∀ x y, lwS g F x → aj g F x y → h' x ≤ max (eE g (zR F) x) (h' y) := by
  have hg := hG.1
  have hSt := (gSt_b hg).1
  obtain ⟨h0, hh0⟩ : ∃ h0 : Nat → Int, h0 = fun y => if y = other then eE g (zR F) y else 100000 := ⟨_, rfl⟩
  have hI0 : HI g F (fun q => q = other) h0 := by
    rw [hh0]
    refine ⟨fun x hx1 hn => ?_, fun x hx1 => ?_, fun q hq => ?_⟩
    · show (if x = other then eE g (zR F) x else 100000) = 100000
      rw [if_neg (fun z => by rw [z, h2.2] at hn; cases hn)]
    · show (if x = other then eE g (zR F) x else 100000) = 100000 ∨ ((if x = other then eE g (zR F) x else 100000) ≤ 144 ∧ eE g (zR F) x ≤ (if x = other then eE g (zR F) x else 100000) ∧ ∃ q, q = other ∧ cn (Se g F (if x = other then eE g (zR F) x else 100000)) q x)
      by_cases z : x = other
      · rw [if_pos z]
        have := eE_b hg ho x
        exact .inr ⟨this.2, Int.le_refl _, other, rfl, by rw [z]; exact cn_r _ _⟩
      · rw [if_neg z]; exact .inl rfl
    · have hq' : q = other := hq
      show lwS g F q ∧ (if q = other then eE g (zR F) q else 100000) ≤ _
      rw [hq', if_pos rfl]; exact ⟨h2, Int.le_refl _⟩
  have key := xforI (f := f_X12_pass_b35 183 (nI one) (nI other)) (fun s a => ∃ J' : Nat → Nat → Int32, a = (nI s, xw σ J') ∧ (∀ a k, a ≠ 202 → J' a k = J a k) ∧ ∀ y, y < s → J' 202 y = iI (h0 y)) (gSt g) (Q := fun b => ∃ (J' : Nat → Nat → Int32) (h' : Nat → Int), b = (iI (h' one), xw σ J') ∧ (∀ a k, a ≠ 202 → J' a k = J a k) ∧ HI g F (fun q => q = other) h' ∧ ∀ x y, lwS g F x → aj g F x y → h' x ≤ max (eE g (zR F) x) (h' y)) (a0 := ((0 : Int32), xw σ J)) ⟨J, rfl, fun _ _ _ => rfl, fun y hy => absurd hy (Nat.not_lt_zero _)⟩ ?_ ?_
  · obtain ⟨b, e, J', h', rfl, rest⟩ := key
    exact ⟨J', h', e, rest⟩
  · rintro s a hs ⟨J', rfl, u, v⟩
    have hG' : GRD J' g := GRD_c (fun a k w => u a k (by unfold sGRD at w; omega)) hG
    have s24 : s < 1024 := by omega
    have qs : (nI s = nI other) = (s = other) := nn_eq (by omega) (by have := h2.1; omega)
    have fin : ∀ v0, v0 = iI (h0 s) → ∃ J2 : Nat → Nat → Int32, (nI (s + 1), xw σ (xup J' 202 s v0)) = (nI (s + 1), xw σ J2) ∧ (∀ a k, a ≠ 202 → J2 a k = J a k) ∧ ∀ y, y < s + 1 → J2 202 y = iI (h0 y) := by
      rintro v0 rfl
      refine ⟨_, rfl, fun a k ha => by rw [xup_at, if_neg (by omega)]; exact u a k ha, fun y hy => ?_⟩
      rw [xup_at]
      by_cases z : y = s
      · rw [if_pos ⟨rfl, z⟩, z]
      · rw [if_neg (by omega)]; exact v y (by omega)
    by_cases z : s = other
    · have hk := hK.1 s hs
      rw [z, h2.2, if_pos rfl, ← z] at hk
      have hk' : J' 196 s = iI (eE g (zR F) s) := by rw [u _ _ (by omega)]; exact hk
      refine ⟨_, ?_, fin (iI (eE g (zR F) s)) (by rw [hh0]; show _ = iI (if s = other then _ else _); rw [if_pos z])⟩
      simp only [f_X12_pass_b35]
      have qs1 : (nI s = nI other) = True := qs.trans (eq_true z)
      simp (disch := first | assumption | omega) only [Option.bind_some, Option.map_some, xw_gR, xw_gN, xw_al, xw_ck, xw_uI, xw_ur, xup_at, xur_at, if_true, if_false, reduceIte, and_true, true_and, and_false, false_and, not_true_eq_false, not_false_eq_true, Nat.reduceEqDiff, eq_self, Nat.reduceAdd, Nat.reduceMul, kC1, kG1, kP1, kR1_0, kR1_1, kR1_2, kR1_3, kR1_4, kR1_5, kR1_6, kR1_7, kR1_8, kR1_9, kR1_10, kR1_11, kR1_12, kR1_13, kC2, kG2, kP2, kR2_0, kR2_1, kC3, kG3, kP3, kR3_0, kR3_1, kR3_2, kR3_3, kL4, kA4, kS4, kL5, kA5, kS5, kL6, kA6, kS6, kL7, kA7, kS7, kC8, kG8, kP8, kR8_0, kR8_1, kL9, kA9, kS9, kL10, kA10, kS10, kC11, kG11, kP11, kR11_0, kR11_1, kR11_2, kR11_3, kL12, kA12, kS12, kL13, kA13, kS13, kL14, kA14, kS14, kL15, kA15, kS15, kC16, kG16, kP16, kR16_0, kR16_1, kL17, kA17, kS17, kL18, kA18, kS18, kC19, kG19, kP19, kR19_0, kL20, kL141, kL146, kA146, kS146, kL151, kA151, kS151, kL156, kA156, kS156, kC157, kG157, kP157, kR157_0, kR157_1, kL158, kA158, kS158, kL159, kA159, kS159, kC161, kG161, kP161, kR161_0, kR161_1, kL162, kA162, kS162, kL163, kA163, kS163, kC165, kG165, kP165, kR165_0, kR165_1, kR165_2, kR165_3, kL166, kA166, kS166, kL167, kA167, kS167, kL168, kA168, kS168, kL169, kA169, kS169, kC170, kG170, kP170, kR170_0, kR170_1, kR170_2, kL171, kA171, kS171, kL172, kA172, kS172, kL173, kA173, kS173, kC174, kG174, kP174, kR174_0, kR174_1, kR174_2, kR174_3, kR174_4, kL175, kA175, kS175, kL176, kA176, kS176, kL177, kA177, kS177, kL178, kA178, kS178, kL179, kC180, kG180, kP180, kL181, kL182, kA182, kS182, kC183, kG183, kP183, kR183_1, kR183_3, kR183_5, kR183_6, kR183_7, kR183_8, kR183_9, kR183_21, kR183_26, kR183_27, kR183_30, kR183_31, kR183_33, kR183_34, kR183_36, kR183_37, kR183_38, kR183_39, kR183_40, kR183_41, kR183_42, kR183_43, kR183_44, kL184, kA184, kS184, kL185, kA185, kS185, kL186, kA186, kS186, kL187, kA187, kS187, kL188, kA188, kS188, kL189, kL190, kL191, kA191, kS191, kL192, kA192, kS192, kL193, kA193, kS193, kL194, kA194, kS194, kL195, kA195, kS195, kL196, kA196, kS196, kL197, kA197, kS197, kL198, kA198, kS198, kL199, kA199, kS199, kL200, kA200, kS200, kL201, kL202, kA202, kS202, kL203, kA203, kS203, kL204, kA204, kS204, kL205, kL206, kA206, kS206, states12_ok hS hG', nn_le, show ¬ (gSt g ≤ s) by omega, qs1, hk']
      rw [nI_succ]
    · refine ⟨_, ?_, fin (100000 : Int32) (by rw [hh0]; show _ = iI (if s = other then _ else _); rw [if_neg z]; rfl)⟩
      simp only [f_X12_pass_b35]
      simp (disch := first | assumption | omega) only [Option.bind_some, Option.map_some, xw_gR, xw_gN, xw_al, xw_ck, xw_uI, xw_ur, xup_at, xur_at, if_true, if_false, reduceIte, and_true, true_and, and_false, false_and, not_true_eq_false, not_false_eq_true, Nat.reduceEqDiff, eq_self, Nat.reduceAdd, Nat.reduceMul, kC1, kG1, kP1, kR1_0, kR1_1, kR1_2, kR1_3, kR1_4, kR1_5, kR1_6, kR1_7, kR1_8, kR1_9, kR1_10, kR1_11, kR1_12, kR1_13, kC2, kG2, kP2, kR2_0, kR2_1, kC3, kG3, kP3, kR3_0, kR3_1, kR3_2, kR3_3, kL4, kA4, kS4, kL5, kA5, kS5, kL6, kA6, kS6, kL7, kA7, kS7, kC8, kG8, kP8, kR8_0, kR8_1, kL9, kA9, kS9, kL10, kA10, kS10, kC11, kG11, kP11, kR11_0, kR11_1, kR11_2, kR11_3, kL12, kA12, kS12, kL13, kA13, kS13, kL14, kA14, kS14, kL15, kA15, kS15, kC16, kG16, kP16, kR16_0, kR16_1, kL17, kA17, kS17, kL18, kA18, kS18, kC19, kG19, kP19, kR19_0, kL20, kL141, kL146, kA146, kS146, kL151, kA151, kS151, kL156, kA156, kS156, kC157, kG157, kP157, kR157_0, kR157_1, kL158, kA158, kS158, kL159, kA159, kS159, kC161, kG161, kP161, kR161_0, kR161_1, kL162, kA162, kS162, kL163, kA163, kS163, kC165, kG165, kP165, kR165_0, kR165_1, kR165_2, kR165_3, kL166, kA166, kS166, kL167, kA167, kS167, kL168, kA168, kS168, kL169, kA169, kS169, kC170, kG170, kP170, kR170_0, kR170_1, kR170_2, kL171, kA171, kS171, kL172, kA172, kS172, kL173, kA173, kS173, kC174, kG174, kP174, kR174_0, kR174_1, kR174_2, kR174_3, kR174_4, kL175, kA175, kS175, kL176, kA176, kS176, kL177, kA177, kS177, kL178, kA178, kS178, kL179, kC180, kG180, kP180, kL181, kL182, kA182, kS182, kC183, kG183, kP183, kR183_1, kR183_3, kR183_5, kR183_6, kR183_7, kR183_8, kR183_9, kR183_21, kR183_26, kR183_27, kR183_30, kR183_31, kR183_33, kR183_34, kR183_36, kR183_37, kR183_38, kR183_39, kR183_40, kR183_41, kR183_42, kR183_43, kR183_44, kL184, kA184, kS184, kL185, kA185, kS185, kL186, kA186, kS186, kL187, kA187, kS187, kL188, kA188, kS188, kL189, kL190, kL191, kA191, kS191, kL192, kA192, kS192, kL193, kA193, kS193, kL194, kA194, kS194, kL195, kA195, kS195, kL196, kA196, kS196, kL197, kA197, kS197, kL198, kA198, kS198, kL199, kA199, kS199, kL200, kA200, kS200, kL201, kL202, kA202, kS202, kL203, kA203, kS203, kL204, kA204, kS204, kL205, kL206, kA206, kS206, states12_ok hS hG', nn_le, show ¬ (gSt g ≤ s) by omega, qs, z]
      rw [nI_succ]
  · rintro a ⟨J', rfl, u, v⟩
    have hG' : GRD J' g := GRD_c (fun a k w => u a k (by unfold sGRD at w; omega)) hG
    have hK' : KNK J' g F := KNK_c (I := J) hg (fun a k w => u a k (by omega)) (fun _ _ => rfl) hK
    obtain ⟨J2, h', e, u2, v2, hI', fx⟩ := hills_ok (σ := σ) hS ho h10 ⟨hG', hK', v, hI0⟩
    have o24 : one < 1024 := by have := h1.1; omega
    refine ⟨(iI (h' one), xw σ J2), ?_, J2, h', rfl, fun a k ha => by rw [u2 a k ha]; exact u a k ha, hI', fx⟩
    simp only [f_X12_pass_b35]
    simp (disch := first | assumption | omega) only [Option.bind_some, Option.map_some, xw_gR, xw_gN, xw_al, xw_ck, xw_uI, xw_ur, xup_at, xur_at, if_true, if_false, reduceIte, and_true, true_and, and_false, false_and, not_true_eq_false, not_false_eq_true, Nat.reduceEqDiff, eq_self, Nat.reduceAdd, Nat.reduceMul, kC1, kG1, kP1, kR1_0, kR1_1, kR1_2, kR1_3, kR1_4, kR1_5, kR1_6, kR1_7, kR1_8, kR1_9, kR1_10, kR1_11, kR1_12, kR1_13, kC2, kG2, kP2, kR2_0, kR2_1, kC3, kG3, kP3, kR3_0, kR3_1, kR3_2, kR3_3, kL4, kA4, kS4, kL5, kA5, kS5, kL6, kA6, kS6, kL7, kA7, kS7, kC8, kG8, kP8, kR8_0, kR8_1, kL9, kA9, kS9, kL10, kA10, kS10, kC11, kG11, kP11, kR11_0, kR11_1, kR11_2, kR11_3, kL12, kA12, kS12, kL13, kA13, kS13, kL14, kA14, kS14, kL15, kA15, kS15, kC16, kG16, kP16, kR16_0, kR16_1, kL17, kA17, kS17, kL18, kA18, kS18, kC19, kG19, kP19, kR19_0, kL20, kL141, kL146, kA146, kS146, kL151, kA151, kS151, kL156, kA156, kS156, kC157, kG157, kP157, kR157_0, kR157_1, kL158, kA158, kS158, kL159, kA159, kS159, kC161, kG161, kP161, kR161_0, kR161_1, kL162, kA162, kS162, kL163, kA163, kS163, kC165, kG165, kP165, kR165_0, kR165_1, kR165_2, kR165_3, kL166, kA166, kS166, kL167, kA167, kS167, kL168, kA168, kS168, kL169, kA169, kS169, kC170, kG170, kP170, kR170_0, kR170_1, kR170_2, kL171, kA171, kS171, kL172, kA172, kS172, kL173, kA173, kS173, kC174, kG174, kP174, kR174_0, kR174_1, kR174_2, kR174_3, kR174_4, kL175, kA175, kS175, kL176, kA176, kS176, kL177, kA177, kS177, kL178, kA178, kS178, kL179, kC180, kG180, kP180, kL181, kL182, kA182, kS182, kC183, kG183, kP183, kR183_1, kR183_3, kR183_5, kR183_6, kR183_7, kR183_8, kR183_9, kR183_21, kR183_26, kR183_27, kR183_30, kR183_31, kR183_33, kR183_34, kR183_36, kR183_37, kR183_38, kR183_39, kR183_40, kR183_41, kR183_42, kR183_43, kR183_44, kL184, kA184, kS184, kL185, kA185, kS185, kL186, kA186, kS186, kL187, kA187, kS187, kL188, kA188, kS188, kL189, kL190, kL191, kA191, kS191, kL192, kA192, kS192, kL193, kA193, kS193, kL194, kA194, kS194, kL195, kA195, kS195, kL196, kA196, kS196, kL197, kA197, kS197, kL198, kA198, kS198, kL199, kA199, kS199, kL200, kA200, kS200, kL201, kL202, kA202, kS202, kL203, kA203, kS203, kL204, kA204, kS204, kL205, kL206, kA206, kS206, states12_ok hS hG', nn_le, Nat.le_refl, e, v2 one h1.1]
theorem hill12_ok (hS : Shp σ) (hG : GRD J g) (ho : RO g F) (hK : KNK J g F) (h10 : gSt g ≤ 1024) {one : Nat} {e0 : Int} (h1 : lwS g F one) (he0 : J 198 0 = iI e0) (hb0 : -144 ≤ e0 ∧ e0 ≤ 144) :
    ∃ (J' : Nat → Nat → Int32) (h' : Nat → Int), xloop (f_X12_hill_b27 183 (nI one)) ((0 : Int32), xw σ J) = some (iI (h' one), xw σ J') ∧ (∀ a k, a ≠ 202 → J' a k = J a k) ∧ HI g F (fun q => lwS g F q ∧ eE g (zR F) q = e0) h' ∧ ∀ x y, lwS g F x → aj g F x y → h' x ≤ max (eE g (zR F) x) (h' y) := by
  have hg := hG.1
  have hSt := (gSt_b hg).1
  obtain ⟨h0, hh0⟩ : ∃ h0 : Nat → Int, h0 = fun y => if lW g F y = true ∧ eE g (zR F) y = e0 then e0 else 100000 := ⟨_, rfl⟩
  have hI0 : HI g F (fun q => lwS g F q ∧ eE g (zR F) q = e0) h0 := by
    rw [hh0]
    refine ⟨fun x hx1 hn => ?_, fun x hx1 => ?_, fun q hq => ⟨hq.1, ?_⟩⟩
    · show (if lW g F x = true ∧ eE g (zR F) x = e0 then e0 else 100000) = 100000
      rw [if_neg (fun z => by rw [hn] at z; cases z.1)]
    · show (if lW g F x = true ∧ eE g (zR F) x = e0 then e0 else 100000) = 100000 ∨ ((if lW g F x = true ∧ eE g (zR F) x = e0 then e0 else 100000) ≤ 144 ∧ eE g (zR F) x ≤ (if lW g F x = true ∧ eE g (zR F) x = e0 then e0 else 100000) ∧ ∃ q, (lwS g F q ∧ eE g (zR F) q = e0) ∧ cn (Se g F (if lW g F x = true ∧ eE g (zR F) x = e0 then e0 else 100000)) q x)
      by_cases z : lW g F x = true ∧ eE g (zR F) x = e0
      · rw [if_pos z]
        exact .inr ⟨hb0.2, by omega, x, ⟨⟨hx1, z.1⟩, z.2⟩, cn_r _ _⟩
      · rw [if_neg z]; exact .inl rfl
    · show (if lW g F q = true ∧ eE g (zR F) q = e0 then e0 else 100000) ≤ _
      rw [if_pos ⟨hq.1.2, hq.2⟩]; omega
  have key := xforI (f := f_X12_hill_b27 183 (nI one)) (fun s a => ∃ J' : Nat → Nat → Int32, a = (nI s, xw σ J') ∧ (∀ a k, a ≠ 202 → J' a k = J a k) ∧ ∀ y, y < s → J' 202 y = iI (h0 y)) (gSt g) (Q := fun b => ∃ (J' : Nat → Nat → Int32) (h' : Nat → Int), b = (iI (h' one), xw σ J') ∧ (∀ a k, a ≠ 202 → J' a k = J a k) ∧ HI g F (fun q => lwS g F q ∧ eE g (zR F) q = e0) h' ∧ ∀ x y, lwS g F x → aj g F x y → h' x ≤ max (eE g (zR F) x) (h' y)) (a0 := ((0 : Int32), xw σ J)) ⟨J, rfl, fun _ _ _ => rfl, fun y hy => absurd hy (Nat.not_lt_zero _)⟩ ?_ ?_
  · obtain ⟨b, e, J', h', rfl, rest⟩ := key
    exact ⟨J', h', e, rest⟩
  · rintro s a hs ⟨J', rfl, u, v⟩
    have hG' : GRD J' g := GRD_c (fun a k w => u a k (by unfold sGRD at w; omega)) hG
    have s24 : s < 1024 := by omega
    have z0 : xaI (xw σ J') 20 198 (0 : Int32) = some (iI e0) := by
      have := kA198 (σ := σ) (I := J') hS (i := 0) (by decide)
      rw [u _ _ (by omega), he0] at this
      exact this
    have hk : J' 196 s = if lW g F s then iI (eE g (zR F) s) else nI 100000 := by rw [u _ _ (by omega)]; exact hK.1 s hs
    have hbs := eE_b hg ho s
    have qs : ((if lW g F s then iI (eE g (zR F) s) else nI 100000) = iI e0) = (lW g F s = true ∧ eE g (zR F) s = e0) := by
      cases hl : lW g F s with
      | true =>
        rw [if_pos rfl, iI_eq (by omega) (by omega) (by omega) (by omega)]
        simp
      | false =>
        rw [if_neg (by decide), iI_n, iI_eq (by omega) (by omega) (by omega) (by omega)]
        apply propext
        constructor
        · intro z; omega
        · intro z; cases z.1
    have fin : ∀ v0, v0 = iI (h0 s) → ∃ J2 : Nat → Nat → Int32, (nI (s + 1), xw σ (xup J' 202 s v0)) = (nI (s + 1), xw σ J2) ∧ (∀ a k, a ≠ 202 → J2 a k = J a k) ∧ ∀ y, y < s + 1 → J2 202 y = iI (h0 y) := by
      rintro v0 rfl
      refine ⟨_, rfl, fun a k ha => by rw [xup_at, if_neg (by omega)]; exact u a k ha, fun y hy => ?_⟩
      rw [xup_at]
      by_cases z : y = s
      · rw [if_pos ⟨rfl, z⟩, z]
      · rw [if_neg (by omega)]; exact v y (by omega)
    by_cases z : lW g F s = true ∧ eE g (zR F) s = e0
    · refine ⟨_, ?_, fin (iI e0) (by rw [hh0]; show _ = iI (if lW g F s = true ∧ eE g (zR F) s = e0 then _ else _); rw [if_pos z])⟩
      simp only [f_X12_hill_b27]
      simp (disch := first | assumption | omega) only [Option.bind_some, Option.map_some, xw_gR, xw_gN, xw_al, xw_ck, xw_uI, xw_ur, xup_at, xur_at, if_true, if_false, reduceIte, and_true, true_and, and_false, false_and, not_true_eq_false, not_false_eq_true, Nat.reduceEqDiff, eq_self, Nat.reduceAdd, Nat.reduceMul, kC1, kG1, kP1, kR1_0, kR1_1, kR1_2, kR1_3, kR1_4, kR1_5, kR1_6, kR1_7, kR1_8, kR1_9, kR1_10, kR1_11, kR1_12, kR1_13, kC2, kG2, kP2, kR2_0, kR2_1, kC3, kG3, kP3, kR3_0, kR3_1, kR3_2, kR3_3, kL4, kA4, kS4, kL5, kA5, kS5, kL6, kA6, kS6, kL7, kA7, kS7, kC8, kG8, kP8, kR8_0, kR8_1, kL9, kA9, kS9, kL10, kA10, kS10, kC11, kG11, kP11, kR11_0, kR11_1, kR11_2, kR11_3, kL12, kA12, kS12, kL13, kA13, kS13, kL14, kA14, kS14, kL15, kA15, kS15, kC16, kG16, kP16, kR16_0, kR16_1, kL17, kA17, kS17, kL18, kA18, kS18, kC19, kG19, kP19, kR19_0, kL20, kL141, kL146, kA146, kS146, kL151, kA151, kS151, kL156, kA156, kS156, kC157, kG157, kP157, kR157_0, kR157_1, kL158, kA158, kS158, kL159, kA159, kS159, kC161, kG161, kP161, kR161_0, kR161_1, kL162, kA162, kS162, kL163, kA163, kS163, kC165, kG165, kP165, kR165_0, kR165_1, kR165_2, kR165_3, kL166, kA166, kS166, kL167, kA167, kS167, kL168, kA168, kS168, kL169, kA169, kS169, kC170, kG170, kP170, kR170_0, kR170_1, kR170_2, kL171, kA171, kS171, kL172, kA172, kS172, kL173, kA173, kS173, kC174, kG174, kP174, kR174_0, kR174_1, kR174_2, kR174_3, kR174_4, kL175, kA175, kS175, kL176, kA176, kS176, kL177, kA177, kS177, kL178, kA178, kS178, kL179, kC180, kG180, kP180, kL181, kL182, kA182, kS182, kC183, kG183, kP183, kR183_1, kR183_3, kR183_5, kR183_6, kR183_7, kR183_8, kR183_9, kR183_21, kR183_26, kR183_27, kR183_30, kR183_31, kR183_33, kR183_34, kR183_36, kR183_37, kR183_38, kR183_39, kR183_40, kR183_41, kR183_42, kR183_43, kR183_44, kL184, kA184, kS184, kL185, kA185, kS185, kL186, kA186, kS186, kL187, kA187, kS187, kL188, kA188, kS188, kL189, kL190, kL191, kA191, kS191, kL192, kA192, kS192, kL193, kA193, kS193, kL194, kA194, kS194, kL195, kA195, kS195, kL196, kA196, kS196, kL197, kA197, kS197, kL198, kA198, kS198, kL199, kA199, kS199, kL200, kA200, kS200, kL201, kL202, kA202, kS202, kL203, kA203, kS203, kL204, kA204, kS204, kL205, kL206, kA206, kS206, states12_ok hS hG', nn_le, show ¬ (gSt g ≤ s) by omega, hk, z0]
      rw [if_pos (qs.mpr z)]
      rw [nI_succ]
    · refine ⟨_, ?_, fin (100000 : Int32) (by rw [hh0]; show _ = iI (if lW g F s = true ∧ eE g (zR F) s = e0 then _ else _); rw [if_neg z]; rfl)⟩
      simp only [f_X12_hill_b27]
      simp (disch := first | assumption | omega) only [Option.bind_some, Option.map_some, xw_gR, xw_gN, xw_al, xw_ck, xw_uI, xw_ur, xup_at, xur_at, if_true, if_false, reduceIte, and_true, true_and, and_false, false_and, not_true_eq_false, not_false_eq_true, Nat.reduceEqDiff, eq_self, Nat.reduceAdd, Nat.reduceMul, kC1, kG1, kP1, kR1_0, kR1_1, kR1_2, kR1_3, kR1_4, kR1_5, kR1_6, kR1_7, kR1_8, kR1_9, kR1_10, kR1_11, kR1_12, kR1_13, kC2, kG2, kP2, kR2_0, kR2_1, kC3, kG3, kP3, kR3_0, kR3_1, kR3_2, kR3_3, kL4, kA4, kS4, kL5, kA5, kS5, kL6, kA6, kS6, kL7, kA7, kS7, kC8, kG8, kP8, kR8_0, kR8_1, kL9, kA9, kS9, kL10, kA10, kS10, kC11, kG11, kP11, kR11_0, kR11_1, kR11_2, kR11_3, kL12, kA12, kS12, kL13, kA13, kS13, kL14, kA14, kS14, kL15, kA15, kS15, kC16, kG16, kP16, kR16_0, kR16_1, kL17, kA17, kS17, kL18, kA18, kS18, kC19, kG19, kP19, kR19_0, kL20, kL141, kL146, kA146, kS146, kL151, kA151, kS151, kL156, kA156, kS156, kC157, kG157, kP157, kR157_0, kR157_1, kL158, kA158, kS158, kL159, kA159, kS159, kC161, kG161, kP161, kR161_0, kR161_1, kL162, kA162, kS162, kL163, kA163, kS163, kC165, kG165, kP165, kR165_0, kR165_1, kR165_2, kR165_3, kL166, kA166, kS166, kL167, kA167, kS167, kL168, kA168, kS168, kL169, kA169, kS169, kC170, kG170, kP170, kR170_0, kR170_1, kR170_2, kL171, kA171, kS171, kL172, kA172, kS172, kL173, kA173, kS173, kC174, kG174, kP174, kR174_0, kR174_1, kR174_2, kR174_3, kR174_4, kL175, kA175, kS175, kL176, kA176, kS176, kL177, kA177, kS177, kL178, kA178, kS178, kL179, kC180, kG180, kP180, kL181, kL182, kA182, kS182, kC183, kG183, kP183, kR183_1, kR183_3, kR183_5, kR183_6, kR183_7, kR183_8, kR183_9, kR183_21, kR183_26, kR183_27, kR183_30, kR183_31, kR183_33, kR183_34, kR183_36, kR183_37, kR183_38, kR183_39, kR183_40, kR183_41, kR183_42, kR183_43, kR183_44, kL184, kA184, kS184, kL185, kA185, kS185, kL186, kA186, kS186, kL187, kA187, kS187, kL188, kA188, kS188, kL189, kL190, kL191, kA191, kS191, kL192, kA192, kS192, kL193, kA193, kS193, kL194, kA194, kS194, kL195, kA195, kS195, kL196, kA196, kS196, kL197, kA197, kS197, kL198, kA198, kS198, kL199, kA199, kS199, kL200, kA200, kS200, kL201, kL202, kA202, kS202, kL203, kA203, kS203, kL204, kA204, kS204, kL205, kL206, kA206, kS206, states12_ok hS hG', nn_le, show ¬ (gSt g ≤ s) by omega, hk, z0]
      rw [if_neg (fun w => z (qs.mp w))]
      rw [nI_succ]
  · rintro a ⟨J', rfl, u, v⟩
    have hG' : GRD J' g := GRD_c (fun a k w => u a k (by unfold sGRD at w; omega)) hG
    have hK' : KNK J' g F := KNK_c (I := J) hg (fun a k w => u a k (by omega)) (fun _ _ => rfl) hK
    obtain ⟨J2, h', e, u2, v2, hI', fx⟩ := hills_ok (σ := σ) hS ho h10 ⟨hG', hK', v, hI0⟩
    have o24 : one < 1024 := by have := h1.1; omega
    refine ⟨(iI (h' one), xw σ J2), ?_, J2, h', rfl, fun a k ha => by rw [u2 a k ha]; exact u a k ha, hI', fx⟩
    simp only [f_X12_hill_b27]
    simp (disch := first | assumption | omega) only [Option.bind_some, Option.map_some, xw_gR, xw_gN, xw_al, xw_ck, xw_uI, xw_ur, xup_at, xur_at, if_true, if_false, reduceIte, and_true, true_and, and_false, false_and, not_true_eq_false, not_false_eq_true, Nat.reduceEqDiff, eq_self, Nat.reduceAdd, Nat.reduceMul, kC1, kG1, kP1, kR1_0, kR1_1, kR1_2, kR1_3, kR1_4, kR1_5, kR1_6, kR1_7, kR1_8, kR1_9, kR1_10, kR1_11, kR1_12, kR1_13, kC2, kG2, kP2, kR2_0, kR2_1, kC3, kG3, kP3, kR3_0, kR3_1, kR3_2, kR3_3, kL4, kA4, kS4, kL5, kA5, kS5, kL6, kA6, kS6, kL7, kA7, kS7, kC8, kG8, kP8, kR8_0, kR8_1, kL9, kA9, kS9, kL10, kA10, kS10, kC11, kG11, kP11, kR11_0, kR11_1, kR11_2, kR11_3, kL12, kA12, kS12, kL13, kA13, kS13, kL14, kA14, kS14, kL15, kA15, kS15, kC16, kG16, kP16, kR16_0, kR16_1, kL17, kA17, kS17, kL18, kA18, kS18, kC19, kG19, kP19, kR19_0, kL20, kL141, kL146, kA146, kS146, kL151, kA151, kS151, kL156, kA156, kS156, kC157, kG157, kP157, kR157_0, kR157_1, kL158, kA158, kS158, kL159, kA159, kS159, kC161, kG161, kP161, kR161_0, kR161_1, kL162, kA162, kS162, kL163, kA163, kS163, kC165, kG165, kP165, kR165_0, kR165_1, kR165_2, kR165_3, kL166, kA166, kS166, kL167, kA167, kS167, kL168, kA168, kS168, kL169, kA169, kS169, kC170, kG170, kP170, kR170_0, kR170_1, kR170_2, kL171, kA171, kS171, kL172, kA172, kS172, kL173, kA173, kS173, kC174, kG174, kP174, kR174_0, kR174_1, kR174_2, kR174_3, kR174_4, kL175, kA175, kS175, kL176, kA176, kS176, kL177, kA177, kS177, kL178, kA178, kS178, kL179, kC180, kG180, kP180, kL181, kL182, kA182, kS182, kC183, kG183, kP183, kR183_1, kR183_3, kR183_5, kR183_6, kR183_7, kR183_8, kR183_9, kR183_21, kR183_26, kR183_27, kR183_30, kR183_31, kR183_33, kR183_34, kR183_36, kR183_37, kR183_38, kR183_39, kR183_40, kR183_41, kR183_42, kR183_43, kR183_44, kL184, kA184, kS184, kL185, kA185, kS185, kL186, kA186, kS186, kL187, kA187, kS187, kL188, kA188, kS188, kL189, kL190, kL191, kA191, kS191, kL192, kA192, kS192, kL193, kA193, kS193, kL194, kA194, kS194, kL195, kA195, kS195, kL196, kA196, kS196, kL197, kA197, kS197, kL198, kA198, kS198, kL199, kA199, kS199, kL200, kA200, kS200, kL201, kL202, kA202, kS202, kL203, kA203, kS203, kL204, kA204, kS204, kL205, kL206, kA206, kS206, states12_ok hS hG', nn_le, Nat.le_refl, e, v2 one h1.1]
end PASS
/-- the terrain asked, then the model's notes at hand -/
theorem terr_both {n : Nat} {τ : XS} {g : GD} {gT gP : GH} {st : Nat} {F : Nat → Int32} {J' : Nat → Nat → Int32} (H1 : IV n τ g gT gP st) (r1 : xI τ 191 = F) (u : ∀ a k, ¬ (176 ≤ a ∧ a ≤ 182) → ¬ (a = 174 ∧ k = 9) → J' a k = xI τ a k) : IV n (xw τ J') g gT gP st ∧ GRD J' g ∧ J' 191 = F ∧ ∃ Q, f_X12_knows (xw τ J') 183 = some (xw τ Q) ∧ IV n (xw τ Q) g gT gP st ∧ GRD Q g ∧ KNK Q g F ∧ Q 191 = F := by
  have H3 : IV n (xw τ J') g gT gP st := H1.terr u
  obtain ⟨Q, e4, H4, K4, u4⟩ := knows_ok H3
  have r3 : J' 191 = F := by rw [← r1]; funext k; exact u 191 k (by omega) (by omega)
  have r4 : Q 191 = F := by rw [← r3]; funext k; exact u4 191 k (by omega) (by omega)
  rw [r4] at K4
  exact ⟨H3, H3.grd, r3, Q, e4, H4, H4.grd, K4, r4⟩
theorem IV.hills {n : Nat} {σ : XS} {g : GD} {gT gP : GH} {st : Nat} (H : IV n σ g gT gP st) {J' : Nat → Nat → Int32} (u : ∀ a k, ¬ (202 ≤ a ∧ a ≤ 206) → J' a k = xI σ a k) : IV n (xw σ J') g gT gP st :=
  H.model (fun a k h => by
    by_cases z : 202 ≤ a ∧ a ≤ 206
    · omega
    · exact u a k z) (KNW_c H.grd.1 (fun a k q => u a k (by unfold sKNW at q; omega)) H.knw)
theorem op_pass : Op_pass INV := by
  intro n σ hn ⟨g, gT, gP, st, H⟩ x y
  have hS := H.shp
  have hG := H.grd
  have hg := hG.1
  have hSt := (gSt_b hg).1
  have sm := isSmall_ok (σ := σ) (I := xI σ) hS hG
  have l1 := isLawful11_ok (σ := σ) (I := xI σ) hS hG H.now.1
  have l2 := isLawful12_ok (σ := σ) (I := xI σ) hS hG H.now.2.1
  have s2 := sites_ok (σ := σ) (I := xI σ) hS hG
  have sm2 := small12 hS hG
  by_cases h10 : gSz g ≤ 10 ∧ isB g (xI σ 191) x = true ∧ isB g (xI σ 191) y = true
  · obtain ⟨h10, hb, hb'⟩ := h10
    rw [if_pos h10] at sm
    have l1x := l1 x
    have l1y := l1 y
    rw [hb, if_pos rfl] at l1x
    rw [hb', if_pos rfl] at l1y
    obtain ⟨b, hb1, rfl, hbl⟩ := isB_t hb
    obtain ⟨d, hd1, rfl, hdl⟩ := isB_t hb'
    obtain ⟨τ, c, m, M, o, e1, H1, hT, hO, r1⟩ := terr_ready (by omega) H h10
    obtain ⟨F, hF⟩ : ∃ F, F = xI σ 191 := ⟨_, rfl⟩
    rw [← hF] at hT hO hbl hdl r1
    obtain ⟨i, J', hi, e3, m1, m2, u3⟩ := meetP_ok hT hO (one := b) (other := d) ⟨hb1, hbl⟩ ⟨hd1, hdl⟩
    obtain ⟨H3, hG3, r3, Q, e4, H4, hG4, K4, r4⟩ := terr_both H1 r1 u3
    have hS3 : Shp τ := H1.shp
    have ho := hT.2.2.1
    obtain ⟨J5, h', e5, u5, hI5, fx5⟩ := pass12_ok (σ := τ) (J := Q) hS3 hG4 ho K4 hT.st (one := b) (other := d) ⟨hb1, hbl⟩ ⟨hd1, hdl⟩
    have heq := meet_eq hg ho hO hi hI5 fx5 ⟨hb1, hbl⟩ ⟨hd1, hdl⟩ (fun q _ => Iff.rfl) rfl (fun q hq => by rw [show q = d from hq]; exact Int.le_refl _) m1 m2
    rw [heq] at e5
    have l3 := fun s => isLawful12_ok (σ := τ) (I := J') hS3 hG3 (show RO g (J' 191) from H3.now.2.1) (nI s)
    have l3b := l3 b
    have l3d := l3 d
    rw [r3, isB_n hg hb1, hbl, if_pos rfl] at l3b
    rw [r3, isB_n hg hd1, hdl, if_pos rfl] at l3d
    refine ⟨iI (eE g (zR F) (o i)), xw τ J', xw τ J5, ?_, ?_, INV_i (IV.nop (H4.hills (fun a k h => u5 a k (by omega))))⟩
    · unfold f_X11_pass
      show ((xck σ 1 11).bind fun _ => (f_X11_isSmall (xw σ (xI σ)) 1).bind _) = _
      rw [xck_ok (sT1 hS), Option.bind_some, sm, Option.bind_some, if_neg (by decide), Option.bind_some]
      show ((f_X11_isLawful (xw σ (xI σ)) 1 (nI b)).bind _) = _
      rw [l1x, Option.bind_some, if_neg (by decide), Option.bind_some]
      show ((f_X11_isLawful (xw σ (xI σ)) 1 (nI d)).bind _) = _
      rw [l1y, Option.bind_some, if_neg (by decide), Option.bind_some, e1, Option.bind_some]
      dsimp only
      rw [xnz_ok (by decide), Option.bind_some]
      unfold f_X11_pass_j30
      rw [xck_ok (sT174 hS3), Option.bind_some]
      show ((f_X9_meetingEnergy (xw τ (xI τ)) 174 (nI b) (nI d) 0).bind _) = _
      rw [e3, Option.bind_some]
    · unfold f_X12_pass
      simp (disch := first | assumption | omega) only [Option.bind_some, Option.map_some, xw_gR, xw_gN, xw_al, xw_ck, xw_uI, xw_ur, xup_at, xur_at, if_true, if_false, reduceIte, and_true, true_and, and_false, false_and, not_true_eq_false, not_false_eq_true, Nat.reduceEqDiff, eq_self, Nat.reduceAdd, Nat.reduceMul, kC1, kG1, kP1, kR1_0, kR1_1, kR1_2, kR1_3, kR1_4, kR1_5, kR1_6, kR1_7, kR1_8, kR1_9, kR1_10, kR1_11, kR1_12, kR1_13, kC2, kG2, kP2, kR2_0, kR2_1, kC3, kG3, kP3, kR3_0, kR3_1, kR3_2, kR3_3, kL4, kA4, kS4, kL5, kA5, kS5, kL6, kA6, kS6, kL7, kA7, kS7, kC8, kG8, kP8, kR8_0, kR8_1, kL9, kA9, kS9, kL10, kA10, kS10, kC11, kG11, kP11, kR11_0, kR11_1, kR11_2, kR11_3, kL12, kA12, kS12, kL13, kA13, kS13, kL14, kA14, kS14, kL15, kA15, kS15, kC16, kG16, kP16, kR16_0, kR16_1, kL17, kA17, kS17, kL18, kA18, kS18, kC19, kG19, kP19, kR19_0, kL20, kL141, kL146, kA146, kS146, kL151, kA151, kS151, kL156, kA156, kS156, kC157, kG157, kP157, kR157_0, kR157_1, kL158, kA158, kS158, kL159, kA159, kS159, kC161, kG161, kP161, kR161_0, kR161_1, kL162, kA162, kS162, kL163, kA163, kS163, kC165, kG165, kP165, kR165_0, kR165_1, kR165_2, kR165_3, kL166, kA166, kS166, kL167, kA167, kS167, kL168, kA168, kS168, kL169, kA169, kS169, kC170, kG170, kP170, kR170_0, kR170_1, kR170_2, kL171, kA171, kS171, kL172, kA172, kS172, kL173, kA173, kS173, kC174, kG174, kP174, kR174_0, kR174_1, kR174_2, kR174_3, kR174_4, kL175, kA175, kS175, kL176, kA176, kS176, kL177, kA177, kS177, kL178, kA178, kS178, kL179, kC180, kG180, kP180, kL181, kL182, kA182, kS182, kC183, kG183, kP183, kR183_1, kR183_3, kR183_5, kR183_6, kR183_7, kR183_8, kR183_9, kR183_21, kR183_26, kR183_27, kR183_30, kR183_31, kR183_33, kR183_34, kR183_36, kR183_37, kR183_38, kR183_39, kR183_40, kR183_41, kR183_42, kR183_43, kR183_44, kL184, kA184, kS184, kL185, kA185, kS185, kL186, kA186, kS186, kL187, kA187, kS187, kL188, kA188, kS188, kL189, kL190, kL191, kA191, kS191, kL192, kA192, kS192, kL193, kA193, kS193, kL194, kA194, kS194, kL195, kA195, kS195, kL196, kA196, kS196, kL197, kA197, kS197, kL198, kA198, kS198, kL199, kA199, kS199, kL200, kA200, kS200, kL201, kL202, kA202, kS202, kL203, kA203, kS203, kL204, kA204, kS204, kL205, kL206, kA206, kS206, l3b, l3d, one0, sites_ok hS3 hG3, sm2, h10, e4]
      exact e5
  · have A : f_X11_pass σ 1 x y = some (-100000, σ) := by
      show f_X11_pass (xw σ (xI σ)) 1 x y = _
      unfold f_X11_pass
      simp (disch := first | assumption | omega) only [Option.bind_some, Option.map_some, xw_gR, xw_gN, xw_al, xw_ck, xw_uI, xw_ur, xup_at, xur_at, if_true, if_false, reduceIte, and_true, true_and, and_false, false_and, not_true_eq_false, not_false_eq_true, Nat.reduceEqDiff, eq_self, Nat.reduceAdd, Nat.reduceMul, kC1, kG1, kP1, kR1_0, kR1_1, kR1_2, kR1_3, kR1_4, kR1_5, kR1_6, kR1_7, kR1_8, kR1_9, kR1_10, kR1_11, kR1_12, kR1_13, kC2, kG2, kP2, kR2_0, kR2_1, kC3, kG3, kP3, kR3_0, kR3_1, kR3_2, kR3_3, kL4, kA4, kS4, kL5, kA5, kS5, kL6, kA6, kS6, kL7, kA7, kS7, kC8, kG8, kP8, kR8_0, kR8_1, kL9, kA9, kS9, kL10, kA10, kS10, kC11, kG11, kP11, kR11_0, kR11_1, kR11_2, kR11_3, kL12, kA12, kS12, kL13, kA13, kS13, kL14, kA14, kS14, kL15, kA15, kS15, kC16, kG16, kP16, kR16_0, kR16_1, kL17, kA17, kS17, kL18, kA18, kS18, kC19, kG19, kP19, kR19_0, kL20, kL141, kL146, kA146, kS146, kL151, kA151, kS151, kL156, kA156, kS156, kC157, kG157, kP157, kR157_0, kR157_1, kL158, kA158, kS158, kL159, kA159, kS159, kC161, kG161, kP161, kR161_0, kR161_1, kL162, kA162, kS162, kL163, kA163, kS163, kC165, kG165, kP165, kR165_0, kR165_1, kR165_2, kR165_3, kL166, kA166, kS166, kL167, kA167, kS167, kL168, kA168, kS168, kL169, kA169, kS169, kC170, kG170, kP170, kR170_0, kR170_1, kR170_2, kL171, kA171, kS171, kL172, kA172, kS172, kL173, kA173, kS173, kC174, kG174, kP174, kR174_0, kR174_1, kR174_2, kR174_3, kR174_4, kL175, kA175, kS175, kL176, kA176, kS176, kL177, kA177, kS177, kL178, kA178, kS178, kL179, kC180, kG180, kP180, kL181, kL182, kA182, kS182, kC183, kG183, kP183, kR183_1, kR183_3, kR183_5, kR183_6, kR183_7, kR183_8, kR183_9, kR183_21, kR183_26, kR183_27, kR183_30, kR183_31, kR183_33, kR183_34, kR183_36, kR183_37, kR183_38, kR183_39, kR183_40, kR183_41, kR183_42, kR183_43, kR183_44, kL184, kA184, kS184, kL185, kA185, kS185, kL186, kA186, kS186, kL187, kA187, kS187, kL188, kA188, kS188, kL189, kL190, kL191, kA191, kS191, kL192, kA192, kS192, kL193, kA193, kS193, kL194, kA194, kS194, kL195, kA195, kS195, kL196, kA196, kS196, kL197, kA197, kS197, kL198, kA198, kS198, kL199, kA199, kS199, kL200, kA200, kS200, kL201, kL202, kA202, kS202, kL203, kA203, kS203, kL204, kA204, kS204, kL205, kL206, kA206, kS206, sm, l1]
      by_cases q1 : gSz g ≤ 10
      · by_cases q2 : isB g (xI σ 191) x = true
        · by_cases q3 : isB g (xI σ 191) y = true
          · exact absurd ⟨q1, q2, q3⟩ h10
          · simp only [q1, q2, q3, if_true, if_false, one0, Bool.false_eq_true]; rfl
        · simp only [q1, q2, if_true, if_false, one0, Bool.false_eq_true]; rfl
      · simp only [q1, if_false, if_true]; rfl
    have B : f_X12_pass σ 183 x y = some (-100000, σ) := by
      show f_X12_pass (xw σ (xI σ)) 183 x y = _
      unfold f_X12_pass
      simp (disch := first | assumption | omega) only [Option.bind_some, Option.map_some, xw_gR, xw_gN, xw_al, xw_ck, xw_uI, xw_ur, xup_at, xur_at, if_true, if_false, reduceIte, and_true, true_and, and_false, false_and, not_true_eq_false, not_false_eq_true, Nat.reduceEqDiff, eq_self, Nat.reduceAdd, Nat.reduceMul, kC1, kG1, kP1, kR1_0, kR1_1, kR1_2, kR1_3, kR1_4, kR1_5, kR1_6, kR1_7, kR1_8, kR1_9, kR1_10, kR1_11, kR1_12, kR1_13, kC2, kG2, kP2, kR2_0, kR2_1, kC3, kG3, kP3, kR3_0, kR3_1, kR3_2, kR3_3, kL4, kA4, kS4, kL5, kA5, kS5, kL6, kA6, kS6, kL7, kA7, kS7, kC8, kG8, kP8, kR8_0, kR8_1, kL9, kA9, kS9, kL10, kA10, kS10, kC11, kG11, kP11, kR11_0, kR11_1, kR11_2, kR11_3, kL12, kA12, kS12, kL13, kA13, kS13, kL14, kA14, kS14, kL15, kA15, kS15, kC16, kG16, kP16, kR16_0, kR16_1, kL17, kA17, kS17, kL18, kA18, kS18, kC19, kG19, kP19, kR19_0, kL20, kL141, kL146, kA146, kS146, kL151, kA151, kS151, kL156, kA156, kS156, kC157, kG157, kP157, kR157_0, kR157_1, kL158, kA158, kS158, kL159, kA159, kS159, kC161, kG161, kP161, kR161_0, kR161_1, kL162, kA162, kS162, kL163, kA163, kS163, kC165, kG165, kP165, kR165_0, kR165_1, kR165_2, kR165_3, kL166, kA166, kS166, kL167, kA167, kS167, kL168, kA168, kS168, kL169, kA169, kS169, kC170, kG170, kP170, kR170_0, kR170_1, kR170_2, kL171, kA171, kS171, kL172, kA172, kS172, kL173, kA173, kS173, kC174, kG174, kP174, kR174_0, kR174_1, kR174_2, kR174_3, kR174_4, kL175, kA175, kS175, kL176, kA176, kS176, kL177, kA177, kS177, kL178, kA178, kS178, kL179, kC180, kG180, kP180, kL181, kL182, kA182, kS182, kC183, kG183, kP183, kR183_1, kR183_3, kR183_5, kR183_6, kR183_7, kR183_8, kR183_9, kR183_21, kR183_26, kR183_27, kR183_30, kR183_31, kR183_33, kR183_34, kR183_36, kR183_37, kR183_38, kR183_39, kR183_40, kR183_41, kR183_42, kR183_43, kR183_44, kL184, kA184, kS184, kL185, kA185, kS185, kL186, kA186, kS186, kL187, kA187, kS187, kL188, kA188, kS188, kL189, kL190, kL191, kA191, kS191, kL192, kA192, kS192, kL193, kA193, kS193, kL194, kA194, kS194, kL195, kA195, kS195, kL196, kA196, kS196, kL197, kA197, kS197, kL198, kA198, kS198, kL199, kA199, kS199, kL200, kA200, kS200, kL201, kL202, kA202, kS202, kL203, kA203, kS203, kL204, kA204, kS204, kL205, kL206, kA206, kS206, l2, s2, sm2]
      by_cases q2 : isB g (xI σ 191) x = true
      · by_cases q3 : isB g (xI σ 191) y = true
        · by_cases q1 : gSz g ≤ 10
          · exact absurd ⟨q1, q2, q3⟩ h10
          · simp only [q1, q2, q3, if_true, if_false, one0, Bool.false_eq_true]; rfl
        · simp only [q2, q3, if_true, if_false, one0, Bool.false_eq_true]; rfl
      · simp only [q2, if_true, if_false, one0, Bool.false_eq_true]; rfl
    exact ⟨-100000, σ, σ, A, B, INV_i H.nop⟩
theorem op_hill : Op_hill INV := by
  intro n σ hn ⟨g, gT, gP, st, H⟩ x
  have hS := H.shp
  have hG := H.grd
  have hg := hG.1
  have hSt := (gSt_b hg).1
  have sm := isSmall_ok (σ := σ) (I := xI σ) hS hG
  have l1 := isLawful11_ok (σ := σ) (I := xI σ) hS hG H.now.1
  have l2 := isLawful12_ok (σ := σ) (I := xI σ) hS hG H.now.2.1
  have s2 := sites_ok (σ := σ) (I := xI σ) hS hG
  have sm2 := small12 hS hG
  by_cases h10 : gSz g ≤ 10 ∧ isB g (xI σ 191) x = true
  · obtain ⟨h10, hb⟩ := h10
    rw [if_pos h10] at sm
    have l1x := l1 x
    rw [hb, if_pos rfl] at l1x
    obtain ⟨b, hb1, rfl, hbl⟩ := isB_t hb
    obtain ⟨τ, c, m, M, o, e1, H1, hT, hO, r1⟩ := terr_ready (by omega) H h10
    obtain ⟨F, hF⟩ : ∃ F, F = xI σ 191 := ⟨_, rfl⟩
    rw [← hF] at hT hO hbl r1
    have ho := hT.2.2.1
    have hM0 : 0 < M := by
      obtain ⟨j, hj, -⟩ := hO.2.2.2.2 b hb1 hbl
      omega
    obtain ⟨i, J', hi, e3, m1, m2, u3⟩ := meetH_ok hT hO (one := b) ⟨hb1, hbl⟩ hM0
    obtain ⟨H3, hG3, r3, Q, e4, H4, hG4, K4, r4⟩ := terr_both H1 r1 u3
    have hS3 : Shp τ := H1.shp
    obtain ⟨e, he, hE, hp⟩ := lE_slot hg ho hb1 hbl
    have hlv : 0 < lvN g F := fb_ct_pos.mpr ⟨e, he, hp⟩
    obtain ⟨k, hk, hpk, hki⟩ := lv_first (g := g) (F := F) hlv
    have q0 : Q 198 0 = iI ((k : Int) - 144) := by rw [← hki]; exact K4.2.2.2 k hk hpk
    have eo : eE g (zR F) (o 0) = (k : Int) - 144 := by
      have a1 := ground_le hg ho hki (hO.2.2.1 0 hM0).2.1 (hO.2.2.1 0 hM0).2.2
      have a2 : 0 < lC g F ((k : Int) - 144) := of_decide_eq_true hpk
      obtain ⟨s, s1, s2⟩ := fb_ct_pos.mp a2
      unfold lE at s2
      simp only [Bool.and_eq_true, decide_eq_true_eq] at s2
      obtain ⟨j, j1, j2⟩ := hO.2.2.2.2 s s1 s2.1
      by_cases z : j = 0
      · rw [z] at j2; rw [j2]; exact s2.2
      · have := (hO.2.2.2.1 0 j (by omega) j1).1
        rw [j2] at this
        omega
    obtain ⟨J5, h', e5, u5, hI5, fx5⟩ := hill12_ok (σ := τ) (J := Q) hS3 hG4 ho K4 hT.st (one := b) ⟨hb1, hbl⟩ q0 (by omega)
    have heq := meet_eq (Qc := fun x => eE g (zR F) x = eE g (zR F) (o 0)) hg ho hO hi hI5 fx5 ⟨hb1, hbl⟩ (hO.2.2.1 0 hM0).2 (fun q hq => by
      constructor
      · rintro ⟨z1, z2⟩; show _ = _; omega
      · intro z
        have z' : eE g (zR F) q = eE g (zR F) (o 0) := z
        exact ⟨hq, by omega⟩) rfl (fun q hq => by rw [hq.2]; omega) m1 m2
    rw [heq] at e5
    have l3b := isLawful12_ok (σ := τ) (I := J') hS3 hG3 (show RO g (J' 191) from H3.now.2.1) (nI b)
    rw [r3, isB_n hg hb1, hbl, if_pos rfl] at l3b
    have low : f_X9_lowest τ 174 = some (nI (o 0)) := by
      show f_X9_lowest (xw τ (xI τ)) 174 = _
      unfold f_X9_lowest
      have z0 : xaI (xw τ (xI τ)) 20 175 (0 : Int32) = some (xI τ 175 0) := kA175 hS3 (i := 0) (by decide)
      simp (disch := first | assumption | omega) only [Option.bind_some, Option.map_some, xw_gR, xw_gN, xw_al, xw_ck, xw_uI, xw_ur, xup_at, xur_at, if_true, if_false, reduceIte, and_true, true_and, and_false, false_and, not_true_eq_false, not_false_eq_true, Nat.reduceEqDiff, eq_self, Nat.reduceAdd, Nat.reduceMul, kC1, kG1, kP1, kR1_0, kR1_1, kR1_2, kR1_3, kR1_4, kR1_5, kR1_6, kR1_7, kR1_8, kR1_9, kR1_10, kR1_11, kR1_12, kR1_13, kC2, kG2, kP2, kR2_0, kR2_1, kC3, kG3, kP3, kR3_0, kR3_1, kR3_2, kR3_3, kL4, kA4, kS4, kL5, kA5, kS5, kL6, kA6, kS6, kL7, kA7, kS7, kC8, kG8, kP8, kR8_0, kR8_1, kL9, kA9, kS9, kL10, kA10, kS10, kC11, kG11, kP11, kR11_0, kR11_1, kR11_2, kR11_3, kL12, kA12, kS12, kL13, kA13, kS13, kL14, kA14, kS14, kL15, kA15, kS15, kC16, kG16, kP16, kR16_0, kR16_1, kL17, kA17, kS17, kL18, kA18, kS18, kC19, kG19, kP19, kR19_0, kL20, kL141, kL146, kA146, kS146, kL151, kA151, kS151, kL156, kA156, kS156, kC157, kG157, kP157, kR157_0, kR157_1, kL158, kA158, kS158, kL159, kA159, kS159, kC161, kG161, kP161, kR161_0, kR161_1, kL162, kA162, kS162, kL163, kA163, kS163, kC165, kG165, kP165, kR165_0, kR165_1, kR165_2, kR165_3, kL166, kA166, kS166, kL167, kA167, kS167, kL168, kA168, kS168, kL169, kA169, kS169, kC170, kG170, kP170, kR170_0, kR170_1, kR170_2, kL171, kA171, kS171, kL172, kA172, kS172, kL173, kA173, kS173, kC174, kG174, kP174, kR174_0, kR174_1, kR174_2, kR174_3, kR174_4, kL175, kA175, kS175, kL176, kA176, kS176, kL177, kA177, kS177, kL178, kA178, kS178, kL179, kC180, kG180, kP180, kL181, kL182, kA182, kS182, kC183, kG183, kP183, kR183_1, kR183_3, kR183_5, kR183_6, kR183_7, kR183_8, kR183_9, kR183_21, kR183_26, kR183_27, kR183_30, kR183_31, kR183_33, kR183_34, kR183_36, kR183_37, kR183_38, kR183_39, kR183_40, kR183_41, kR183_42, kR183_43, kR183_44, kL184, kA184, kS184, kL185, kA185, kS185, kL186, kA186, kS186, kL187, kA187, kS187, kL188, kA188, kS188, kL189, kL190, kL191, kA191, kS191, kL192, kA192, kS192, kL193, kA193, kS193, kL194, kA194, kS194, kL195, kA195, kS195, kL196, kA196, kS196, kL197, kA197, kS197, kL198, kA198, kS198, kL199, kA199, kS199, kL200, kA200, kS200, kL201, kL202, kA202, kS202, kL203, kA203, kS203, kL204, kA204, kS204, kL205, kL206, kA206, kS206, z0, (hO.2.2.1 0 hM0).1]
    refine ⟨iI (eE g (zR F) (o i)), xw τ J', xw τ J5, ?_, ?_, INV_i (IV.nop (H4.hills (fun a k h => u5 a k (by omega))))⟩
    · unfold f_X11_hill
      show ((xck σ 1 11).bind fun _ => (f_X11_isSmall (xw σ (xI σ)) 1).bind _) = _
      rw [xck_ok (sT1 hS), Option.bind_some, sm, Option.bind_some, if_neg (by decide), Option.bind_some]
      show ((f_X11_isLawful (xw σ (xI σ)) 1 (nI b)).bind _) = _
      rw [l1x, Option.bind_some, if_neg (by decide), Option.bind_some, e1, Option.bind_some]
      dsimp only
      rw [xnz_ok (by decide), Option.bind_some]
      unfold f_X11_hill_j22
      rw [xck_ok (sT174 hS3), Option.bind_some, low, Option.bind_some, Option.bind_some]
      show ((f_X9_meetingEnergy (xw τ (xI τ)) 174 (nI b) (nI (o 0)) 1).bind _) = _
      rw [e3, Option.bind_some]
    · unfold f_X12_hill
      simp (disch := first | assumption | omega) only [Option.bind_some, Option.map_some, xw_gR, xw_gN, xw_al, xw_ck, xw_uI, xw_ur, xup_at, xur_at, if_true, if_false, reduceIte, and_true, true_and, and_false, false_and, not_true_eq_false, not_false_eq_true, Nat.reduceEqDiff, eq_self, Nat.reduceAdd, Nat.reduceMul, kC1, kG1, kP1, kR1_0, kR1_1, kR1_2, kR1_3, kR1_4, kR1_5, kR1_6, kR1_7, kR1_8, kR1_9, kR1_10, kR1_11, kR1_12, kR1_13, kC2, kG2, kP2, kR2_0, kR2_1, kC3, kG3, kP3, kR3_0, kR3_1, kR3_2, kR3_3, kL4, kA4, kS4, kL5, kA5, kS5, kL6, kA6, kS6, kL7, kA7, kS7, kC8, kG8, kP8, kR8_0, kR8_1, kL9, kA9, kS9, kL10, kA10, kS10, kC11, kG11, kP11, kR11_0, kR11_1, kR11_2, kR11_3, kL12, kA12, kS12, kL13, kA13, kS13, kL14, kA14, kS14, kL15, kA15, kS15, kC16, kG16, kP16, kR16_0, kR16_1, kL17, kA17, kS17, kL18, kA18, kS18, kC19, kG19, kP19, kR19_0, kL20, kL141, kL146, kA146, kS146, kL151, kA151, kS151, kL156, kA156, kS156, kC157, kG157, kP157, kR157_0, kR157_1, kL158, kA158, kS158, kL159, kA159, kS159, kC161, kG161, kP161, kR161_0, kR161_1, kL162, kA162, kS162, kL163, kA163, kS163, kC165, kG165, kP165, kR165_0, kR165_1, kR165_2, kR165_3, kL166, kA166, kS166, kL167, kA167, kS167, kL168, kA168, kS168, kL169, kA169, kS169, kC170, kG170, kP170, kR170_0, kR170_1, kR170_2, kL171, kA171, kS171, kL172, kA172, kS172, kL173, kA173, kS173, kC174, kG174, kP174, kR174_0, kR174_1, kR174_2, kR174_3, kR174_4, kL175, kA175, kS175, kL176, kA176, kS176, kL177, kA177, kS177, kL178, kA178, kS178, kL179, kC180, kG180, kP180, kL181, kL182, kA182, kS182, kC183, kG183, kP183, kR183_1, kR183_3, kR183_5, kR183_6, kR183_7, kR183_8, kR183_9, kR183_21, kR183_26, kR183_27, kR183_30, kR183_31, kR183_33, kR183_34, kR183_36, kR183_37, kR183_38, kR183_39, kR183_40, kR183_41, kR183_42, kR183_43, kR183_44, kL184, kA184, kS184, kL185, kA185, kS185, kL186, kA186, kS186, kL187, kA187, kS187, kL188, kA188, kS188, kL189, kL190, kL191, kA191, kS191, kL192, kA192, kS192, kL193, kA193, kS193, kL194, kA194, kS194, kL195, kA195, kS195, kL196, kA196, kS196, kL197, kA197, kS197, kL198, kA198, kS198, kL199, kA199, kS199, kL200, kA200, kS200, kL201, kL202, kA202, kS202, kL203, kA203, kS203, kL204, kA204, kS204, kL205, kL206, kA206, kS206, l3b, one0, sites_ok hS3 hG3, sm2, h10, e4]
      exact e5
  · have A : f_X11_hill σ 1 x = some (-100000, σ) := by
      show f_X11_hill (xw σ (xI σ)) 1 x = _
      unfold f_X11_hill
      simp (disch := first | assumption | omega) only [Option.bind_some, Option.map_some, xw_gR, xw_gN, xw_al, xw_ck, xw_uI, xw_ur, xup_at, xur_at, if_true, if_false, reduceIte, and_true, true_and, and_false, false_and, not_true_eq_false, not_false_eq_true, Nat.reduceEqDiff, eq_self, Nat.reduceAdd, Nat.reduceMul, kC1, kG1, kP1, kR1_0, kR1_1, kR1_2, kR1_3, kR1_4, kR1_5, kR1_6, kR1_7, kR1_8, kR1_9, kR1_10, kR1_11, kR1_12, kR1_13, kC2, kG2, kP2, kR2_0, kR2_1, kC3, kG3, kP3, kR3_0, kR3_1, kR3_2, kR3_3, kL4, kA4, kS4, kL5, kA5, kS5, kL6, kA6, kS6, kL7, kA7, kS7, kC8, kG8, kP8, kR8_0, kR8_1, kL9, kA9, kS9, kL10, kA10, kS10, kC11, kG11, kP11, kR11_0, kR11_1, kR11_2, kR11_3, kL12, kA12, kS12, kL13, kA13, kS13, kL14, kA14, kS14, kL15, kA15, kS15, kC16, kG16, kP16, kR16_0, kR16_1, kL17, kA17, kS17, kL18, kA18, kS18, kC19, kG19, kP19, kR19_0, kL20, kL141, kL146, kA146, kS146, kL151, kA151, kS151, kL156, kA156, kS156, kC157, kG157, kP157, kR157_0, kR157_1, kL158, kA158, kS158, kL159, kA159, kS159, kC161, kG161, kP161, kR161_0, kR161_1, kL162, kA162, kS162, kL163, kA163, kS163, kC165, kG165, kP165, kR165_0, kR165_1, kR165_2, kR165_3, kL166, kA166, kS166, kL167, kA167, kS167, kL168, kA168, kS168, kL169, kA169, kS169, kC170, kG170, kP170, kR170_0, kR170_1, kR170_2, kL171, kA171, kS171, kL172, kA172, kS172, kL173, kA173, kS173, kC174, kG174, kP174, kR174_0, kR174_1, kR174_2, kR174_3, kR174_4, kL175, kA175, kS175, kL176, kA176, kS176, kL177, kA177, kS177, kL178, kA178, kS178, kL179, kC180, kG180, kP180, kL181, kL182, kA182, kS182, kC183, kG183, kP183, kR183_1, kR183_3, kR183_5, kR183_6, kR183_7, kR183_8, kR183_9, kR183_21, kR183_26, kR183_27, kR183_30, kR183_31, kR183_33, kR183_34, kR183_36, kR183_37, kR183_38, kR183_39, kR183_40, kR183_41, kR183_42, kR183_43, kR183_44, kL184, kA184, kS184, kL185, kA185, kS185, kL186, kA186, kS186, kL187, kA187, kS187, kL188, kA188, kS188, kL189, kL190, kL191, kA191, kS191, kL192, kA192, kS192, kL193, kA193, kS193, kL194, kA194, kS194, kL195, kA195, kS195, kL196, kA196, kS196, kL197, kA197, kS197, kL198, kA198, kS198, kL199, kA199, kS199, kL200, kA200, kS200, kL201, kL202, kA202, kS202, kL203, kA203, kS203, kL204, kA204, kS204, kL205, kL206, kA206, kS206, sm, l1]
      by_cases q1 : gSz g ≤ 10
      · by_cases q2 : isB g (xI σ 191) x = true
        · exact absurd ⟨q1, q2⟩ h10
        · simp only [q1, q2, if_true, if_false, one0, Bool.false_eq_true]; rfl
      · simp only [q1, if_false, if_true]; rfl
    have B : f_X12_hill σ 183 x = some (-100000, σ) := by
      show f_X12_hill (xw σ (xI σ)) 183 x = _
      unfold f_X12_hill
      simp (disch := first | assumption | omega) only [Option.bind_some, Option.map_some, xw_gR, xw_gN, xw_al, xw_ck, xw_uI, xw_ur, xup_at, xur_at, if_true, if_false, reduceIte, and_true, true_and, and_false, false_and, not_true_eq_false, not_false_eq_true, Nat.reduceEqDiff, eq_self, Nat.reduceAdd, Nat.reduceMul, kC1, kG1, kP1, kR1_0, kR1_1, kR1_2, kR1_3, kR1_4, kR1_5, kR1_6, kR1_7, kR1_8, kR1_9, kR1_10, kR1_11, kR1_12, kR1_13, kC2, kG2, kP2, kR2_0, kR2_1, kC3, kG3, kP3, kR3_0, kR3_1, kR3_2, kR3_3, kL4, kA4, kS4, kL5, kA5, kS5, kL6, kA6, kS6, kL7, kA7, kS7, kC8, kG8, kP8, kR8_0, kR8_1, kL9, kA9, kS9, kL10, kA10, kS10, kC11, kG11, kP11, kR11_0, kR11_1, kR11_2, kR11_3, kL12, kA12, kS12, kL13, kA13, kS13, kL14, kA14, kS14, kL15, kA15, kS15, kC16, kG16, kP16, kR16_0, kR16_1, kL17, kA17, kS17, kL18, kA18, kS18, kC19, kG19, kP19, kR19_0, kL20, kL141, kL146, kA146, kS146, kL151, kA151, kS151, kL156, kA156, kS156, kC157, kG157, kP157, kR157_0, kR157_1, kL158, kA158, kS158, kL159, kA159, kS159, kC161, kG161, kP161, kR161_0, kR161_1, kL162, kA162, kS162, kL163, kA163, kS163, kC165, kG165, kP165, kR165_0, kR165_1, kR165_2, kR165_3, kL166, kA166, kS166, kL167, kA167, kS167, kL168, kA168, kS168, kL169, kA169, kS169, kC170, kG170, kP170, kR170_0, kR170_1, kR170_2, kL171, kA171, kS171, kL172, kA172, kS172, kL173, kA173, kS173, kC174, kG174, kP174, kR174_0, kR174_1, kR174_2, kR174_3, kR174_4, kL175, kA175, kS175, kL176, kA176, kS176, kL177, kA177, kS177, kL178, kA178, kS178, kL179, kC180, kG180, kP180, kL181, kL182, kA182, kS182, kC183, kG183, kP183, kR183_1, kR183_3, kR183_5, kR183_6, kR183_7, kR183_8, kR183_9, kR183_21, kR183_26, kR183_27, kR183_30, kR183_31, kR183_33, kR183_34, kR183_36, kR183_37, kR183_38, kR183_39, kR183_40, kR183_41, kR183_42, kR183_43, kR183_44, kL184, kA184, kS184, kL185, kA185, kS185, kL186, kA186, kS186, kL187, kA187, kS187, kL188, kA188, kS188, kL189, kL190, kL191, kA191, kS191, kL192, kA192, kS192, kL193, kA193, kS193, kL194, kA194, kS194, kL195, kA195, kS195, kL196, kA196, kS196, kL197, kA197, kS197, kL198, kA198, kS198, kL199, kA199, kS199, kL200, kA200, kS200, kL201, kL202, kA202, kS202, kL203, kA203, kS203, kL204, kA204, kS204, kL205, kL206, kA206, kS206, l2, s2, sm2]
      by_cases q2 : isB g (xI σ 191) x = true
      · by_cases q1 : gSz g ≤ 10
        · exact absurd ⟨q1, q2⟩ h10
        · simp only [q1, q2, if_true, if_false, one0, Bool.false_eq_true]; rfl
      · simp only [q2, if_true, if_false, one0, Bool.false_eq_true]; rfl
    exact ⟨-100000, σ, σ, A, B, INV_i H.nop⟩
end
section
/-! lakes: the model goes from state to state -/
def alw (g : GD) (F : Nat → Int32) (e : Int) (s : Nat) : Prop := lwS g F s ∧ eE g (zR F) s ≤ e
theorem Se_y {g : GD} {F : Nat → Int32} {e : Int} (a b : Nat) (h : Se g F e a b) : Se g F e b a := ⟨h.2.1, h.1, aj_y h.2.2⟩
/-- what waits in the row -/
def BF (g : GD) (F : Nat → Int32) (e : Int) (w0 w : Nat → Bool) (q : Nat → Nat) (many first : Nat) : Prop := (0 < many ∧ q 0 = first) ∧ (∀ j, j < many → alw g F e (q j) ∧ cn (Se g F e) first (q j) ∧ w0 (q j) = false) ∧ (∀ i j, i < j → j < many → q i ≠ q j) ∧ ∀ s, w s = true ↔ w0 s = true ∨ ∃ j, j < many ∧ q j = s
def LB (J0 J : Nat → Nat → Int32) (g : GD) (w : Nat → Bool) (q : Nat → Nat) (many : Nat) : Prop := (∀ s, s < gSt g → J 203 s = if w s then 1 else 0) ∧ (∀ j, j < many → J 204 j = nI (q j)) ∧ ∀ a k, ¬ (203 ≤ a ∧ a ≤ 204) → J a k = J0 a k
section LAKES
variable {σ : XS} {J0 J : Nat → Nat → Int32} {g : GD} {F : Nat → Int32} {w0 w : Nat → Bool} {q : Nat → Nat} {many first : Nat}
theorem BF_le {e : Int} (h : BF g F e w0 w q many first) : many ≤ gSt g := fb_holes _ _ q (fun i hi => (h.2.1 i hi).1.1.1) h.2.2.1
theorem BF_add {e : Int} (h : BF g F e w0 w q many first) {t k : Nat} (hk : k < many) (ht : alw g F e t) (hj : aj g F (q k) t) (hw : w t = false) : BF g F e w0 (wA w t) (fun j => if j = many then t else q j) (many + 1) first := by
  obtain ⟨⟨h1, h2⟩, h3, h4, h5⟩ := h
  have n0 : w0 t = false := by
    cases z : w0 t with
    | false => rfl
    | true =>
      have := (h5 t).mpr (.inl z)
      rw [hw] at this; cases this
  have nq : ∀ j, j < many → q j ≠ t := fun j hj z => by
    have := (h5 t).mpr (.inr ⟨j, hj, z⟩)
    rw [hw] at this; cases this
  refine ⟨⟨by omega, ?_⟩, fun j hj1 => ?_, fun i j hij hj1 => ?_, fun s => ?_⟩
  · show (if 0 = many then t else q 0) = first
    rw [if_neg (by omega)]; exact h2
  · show alw g F e (if j = many then t else q j) ∧ cn (Se g F e) first (if j = many then t else q j) ∧ w0 (if j = many then t else q j) = false
    by_cases z : j = many
    · rw [if_pos z]
      exact ⟨ht, cn_s (h3 k hk).2.1 ⟨(h3 k hk).1, ht, hj⟩, n0⟩
    · rw [if_neg z]; exact h3 j (by omega)
  · show (if i = many then t else q i) ≠ (if j = many then t else q j)
    rw [if_neg (show ¬ i = many by omega)]
    by_cases z : j = many
    · rw [if_pos z]; exact nq i (by omega)
    · rw [if_neg z]; exact h4 i j hij (by omega)
  · rw [wA_iff, h5 s]
    constructor
    · rintro ((z | ⟨j, j1, j2⟩) | z)
      · exact .inl z
      · refine .inr ⟨j, by omega, ?_⟩
        show (if j = many then t else q j) = s
        rw [if_neg (by omega)]; exact j2
      · refine .inr ⟨many, by omega, ?_⟩
        show (if many = many then t else q many) = s
        rw [if_pos rfl]; exact z
    · rintro (z | ⟨j, j1, j2⟩)
      · exact .inl (.inl z)
      · have j2' : (if j = many then t else q j) = s := j2
        by_cases z : j = many
        · rw [if_pos z] at j2'; exact .inr j2'
        · rw [if_neg z] at j2'; exact .inl (.inr ⟨j, by omega, j2'⟩)
theorem bfs_row (hS : Shp σ) (hG : GRD J0 g) (ho : RO g F) (hK : KNK J0 g F) (h10 : gSt g ≤ 1024) (x n f : Int32) (hB : BF g F x.toInt w0 w q many first) (hL : LB J0 J g w q many) {k : Nat} (hk : k < many) :
    ∃ r, xloop (f_X12_lakes_b119 183 x n f (nI k)) (nI many, (0 : Int32), xw σ J) = some r ∧ ∃ (J' : Nat → Nat → Int32) (w' : Nat → Bool) (q' : Nat → Nat) (many' : Nat), r = .inl (nI many', nI (k + 1), xw σ J') ∧ BF g F x.toInt w0 w' q' many' first ∧ LB J0 J' g w' q' many' ∧ many ≤ many' ∧ (∀ j, j < many → q' j = q j) ∧ (∀ s, w s = true → w' s = true) ∧ ∀ i, i < gSz g → alw g F x.toInt (q k ^^^ 2 ^ i) → w' (q k ^^^ 2 ^ i) = true := by
  have hg := hG.1
  have h16 := (gAll_b g hg).2.2.1
  refine xforI (fun i a => ∃ (J' : Nat → Nat → Int32) (w' : Nat → Bool) (q' : Nat → Nat) (many' : Nat), a = (nI many', nI i, xw σ J') ∧ BF g F x.toInt w0 w' q' many' first ∧ LB J0 J' g w' q' many' ∧ many ≤ many' ∧ (∀ j, j < many → q' j = q j) ∧ (∀ s, w s = true → w' s = true) ∧ ∀ i', i' < i → alw g F x.toInt (q k ^^^ 2 ^ i') → w' (q k ^^^ 2 ^ i') = true) (gSz g) ⟨J, w, q, many, rfl, hB, hL, Nat.le_refl _, fun _ _ => rfl, fun _ h => h, fun i hi => absurd hi (Nat.not_lt_zero _)⟩ ?_ ?_
  · rintro i a hi ⟨J', w', q', many', rfl, hB', hL', hle, hq, hm, hd⟩
    obtain ⟨v3, v4, u⟩ := id hL'
    have hG' : GRD J' g := GRD_c (fun a k z => u a k (by unfold sGRD at z; omega)) hG
    have hlk : lwS g F (q k) := (hB.2.1 k hk).1.1
    have hto := gSt_flip hlk.1 hi
    have t24 : q k ^^^ 2 ^ i < 1024 := by omega
    have k24 : k < 1024 := by have := BF_le hB; omega
    have m24 := BF_le hB'
    have vk : J' 204 k = nI (q k) := by rw [v4 k (by omega), hq k hk]
    have vw := v3 _ hto
    have ve : J' 196 (q k ^^^ 2 ^ i) = if lW g F (q k ^^^ 2 ^ i) then iI (eE g (zR F) (q k ^^^ 2 ^ i)) else nI 100000 := by rw [u _ _ (by omega)]; exact hK.1 _ hto
    have hbt := eE_b hg ho (q k ^^^ 2 ^ i)
    have skip : (alw g F x.toInt (q k ^^^ 2 ^ i) → w' (q k ^^^ 2 ^ i) = true) → f_X12_lakes_b119 183 x n f (nI k) (nI many', nI i, xw σ J') = some (.inl (nI many', nI (i + 1), xw σ J')) → ∃ a', f_X12_lakes_b119 183 x n f (nI k) (nI many', nI i, xw σ J') = some (.inl a') ∧ ∃ (J' : Nat → Nat → Int32) (w' : Nat → Bool) (q' : Nat → Nat) (many' : Nat), a' = (nI many', nI (i + 1), xw σ J') ∧ BF g F x.toInt w0 w' q' many' first ∧ LB J0 J' g w' q' many' ∧ many ≤ many' ∧ (∀ j, j < many → q' j = q j) ∧ (∀ s, w s = true → w' s = true) ∧ ∀ i', i' < i + 1 → alw g F x.toInt (q k ^^^ 2 ^ i') → w' (q k ^^^ 2 ^ i') = true := by
      intro h1 h2
      refine ⟨_, h2, J', w', q', many', rfl, hB', hL', hle, hq, hm, fun i' hi' ha => ?_⟩
      by_cases z : i' = i
      · rw [z] at ha ⊢; exact h1 ha
      · exact hd i' (by omega) ha
    cases hw : w' (q k ^^^ 2 ^ i) with
    | true =>
      rw [hw, if_pos rfl] at vw
      refine skip (fun _ => hw) ?_
      simp only [f_X12_lakes_b119]
      simp (disch := first | assumption | omega) only [Option.bind_some, Option.map_some, xw_gR, xw_gN, xw_al, xw_ck, xw_uI, xw_ur, xup_at, xur_at, if_true, if_false, reduceIte, and_true, true_and, and_false, false_and, not_true_eq_false, not_false_eq_true, Nat.reduceEqDiff, eq_self, Nat.reduceAdd, Nat.reduceMul, kC1, kG1, kP1, kR1_0, kR1_1, kR1_2, kR1_3, kR1_4, kR1_5, kR1_6, kR1_7, kR1_8, kR1_9, kR1_10, kR1_11, kR1_12, kR1_13, kC2, kG2, kP2, kR2_0, kR2_1, kC3, kG3, kP3, kR3_0, kR3_1, kR3_2, kR3_3, kL4, kA4, kS4, kL5, kA5, kS5, kL6, kA6, kS6, kL7, kA7, kS7, kC8, kG8, kP8, kR8_0, kR8_1, kL9, kA9, kS9, kL10, kA10, kS10, kC11, kG11, kP11, kR11_0, kR11_1, kR11_2, kR11_3, kL12, kA12, kS12, kL13, kA13, kS13, kL14, kA14, kS14, kL15, kA15, kS15, kC16, kG16, kP16, kR16_0, kR16_1, kL17, kA17, kS17, kL18, kA18, kS18, kC19, kG19, kP19, kR19_0, kL20, kL141, kL146, kA146, kS146, kL151, kA151, kS151, kL156, kA156, kS156, kC157, kG157, kP157, kR157_0, kR157_1, kL158, kA158, kS158, kL159, kA159, kS159, kC161, kG161, kP161, kR161_0, kR161_1, kL162, kA162, kS162, kL163, kA163, kS163, kC165, kG165, kP165, kR165_0, kR165_1, kR165_2, kR165_3, kL166, kA166, kS166, kL167, kA167, kS167, kL168, kA168, kS168, kL169, kA169, kS169, kC170, kG170, kP170, kR170_0, kR170_1, kR170_2, kL171, kA171, kS171, kL172, kA172, kS172, kL173, kA173, kS173, kC174, kG174, kP174, kR174_0, kR174_1, kR174_2, kR174_3, kR174_4, kL175, kA175, kS175, kL176, kA176, kS176, kL177, kA177, kS177, kL178, kA178, kS178, kL179, kC180, kG180, kP180, kL181, kL182, kA182, kS182, kC183, kG183, kP183, kR183_1, kR183_3, kR183_5, kR183_6, kR183_7, kR183_8, kR183_9, kR183_21, kR183_26, kR183_27, kR183_30, kR183_31, kR183_33, kR183_34, kR183_36, kR183_37, kR183_38, kR183_39, kR183_40, kR183_41, kR183_42, kR183_43, kR183_44, kL184, kA184, kS184, kL185, kA185, kS185, kL186, kA186, kS186, kL187, kA187, kS187, kL188, kA188, kS188, kL189, kL190, kL191, kA191, kS191, kL192, kA192, kS192, kL193, kA193, kS193, kL194, kA194, kS194, kL195, kA195, kS195, kL196, kA196, kS196, kL197, kA197, kS197, kL198, kA198, kS198, kL199, kA199, kS199, kL200, kA200, kS200, kL201, kL202, kA202, kS202, kL203, kA203, kS203, kL204, kA204, kS204, kL205, kL206, kA206, kS206, sites_ok hS hG', nn_le, show ¬ (gSz g ≤ i) by omega, vk, nn_one, nn_xor, vw, one0]
      rw [nI_succ]
    | false =>
      rw [hw, if_neg (by decide)] at vw
      cases hl : lW g F (q k ^^^ 2 ^ i) with
      | false =>
        rw [hl, if_neg (by decide)] at ve
        refine skip (fun z => by rw [z.1.2] at hl; cases hl) ?_
        simp only [f_X12_lakes_b119]
        simp (disch := first | assumption | omega) only [Option.bind_some, Option.map_some, xw_gR, xw_gN, xw_al, xw_ck, xw_uI, xw_ur, xup_at, xur_at, if_true, if_false, reduceIte, and_true, true_and, and_false, false_and, not_true_eq_false, not_false_eq_true, Nat.reduceEqDiff, eq_self, Nat.reduceAdd, Nat.reduceMul, kC1, kG1, kP1, kR1_0, kR1_1, kR1_2, kR1_3, kR1_4, kR1_5, kR1_6, kR1_7, kR1_8, kR1_9, kR1_10, kR1_11, kR1_12, kR1_13, kC2, kG2, kP2, kR2_0, kR2_1, kC3, kG3, kP3, kR3_0, kR3_1, kR3_2, kR3_3, kL4, kA4, kS4, kL5, kA5, kS5, kL6, kA6, kS6, kL7, kA7, kS7, kC8, kG8, kP8, kR8_0, kR8_1, kL9, kA9, kS9, kL10, kA10, kS10, kC11, kG11, kP11, kR11_0, kR11_1, kR11_2, kR11_3, kL12, kA12, kS12, kL13, kA13, kS13, kL14, kA14, kS14, kL15, kA15, kS15, kC16, kG16, kP16, kR16_0, kR16_1, kL17, kA17, kS17, kL18, kA18, kS18, kC19, kG19, kP19, kR19_0, kL20, kL141, kL146, kA146, kS146, kL151, kA151, kS151, kL156, kA156, kS156, kC157, kG157, kP157, kR157_0, kR157_1, kL158, kA158, kS158, kL159, kA159, kS159, kC161, kG161, kP161, kR161_0, kR161_1, kL162, kA162, kS162, kL163, kA163, kS163, kC165, kG165, kP165, kR165_0, kR165_1, kR165_2, kR165_3, kL166, kA166, kS166, kL167, kA167, kS167, kL168, kA168, kS168, kL169, kA169, kS169, kC170, kG170, kP170, kR170_0, kR170_1, kR170_2, kL171, kA171, kS171, kL172, kA172, kS172, kL173, kA173, kS173, kC174, kG174, kP174, kR174_0, kR174_1, kR174_2, kR174_3, kR174_4, kL175, kA175, kS175, kL176, kA176, kS176, kL177, kA177, kS177, kL178, kA178, kS178, kL179, kC180, kG180, kP180, kL181, kL182, kA182, kS182, kC183, kG183, kP183, kR183_1, kR183_3, kR183_5, kR183_6, kR183_7, kR183_8, kR183_9, kR183_21, kR183_26, kR183_27, kR183_30, kR183_31, kR183_33, kR183_34, kR183_36, kR183_37, kR183_38, kR183_39, kR183_40, kR183_41, kR183_42, kR183_43, kR183_44, kL184, kA184, kS184, kL185, kA185, kS185, kL186, kA186, kS186, kL187, kA187, kS187, kL188, kA188, kS188, kL189, kL190, kL191, kA191, kS191, kL192, kA192, kS192, kL193, kA193, kS193, kL194, kA194, kS194, kL195, kA195, kS195, kL196, kA196, kS196, kL197, kA197, kS197, kL198, kA198, kS198, kL199, kA199, kS199, kL200, kA200, kS200, kL201, kL202, kA202, kS202, kL203, kA203, kS203, kL204, kA204, kS204, kL205, kL206, kA206, kS206, sites_ok hS hG', nn_le, show ¬ (gSz g ≤ i) by omega, vk, nn_one, nn_xor, vw, ve, show (nI 100000 = (100000 : Int32)) = True from eq_true rfl]
        rw [nI_succ]
      | true =>
        rw [hl, if_pos rfl] at ve
        have q1 : (iI (eE g (zR F) (q k ^^^ 2 ^ i)) = (100000 : Int32)) = False := by
          rw [show (100000 : Int32) = iI 100000 from rfl, iI_eq (by omega) (by omega) (by omega) (by omega)]; exact eq_false (by omega)
        have q2 : (iI (eE g (zR F) (q k ^^^ 2 ^ i)) ≤ x) = (eE g (zR F) (q k ^^^ 2 ^ i) ≤ x.toInt) := by rw [fa_le, iI_ti (by omega) (by omega)]
        by_cases he : eE g (zR F) (q k ^^^ 2 ^ i) ≤ x.toInt
        · have hp : F (48 + i) = 0 := by
            rw [lW_flip hi hlk.2] at hl
            exact of_decide_eq_true hl
          have hB2 := BF_add hB' (show k < many' by omega) (t := q k ^^^ 2 ^ i) ⟨⟨hto, hl⟩, he⟩ (by rw [hq k hk]; exact ⟨i, hi, hp, rfl⟩) hw
          have m2 := BF_le hB2
          have m3 : many' < 1024 := by omega
          refine ⟨(nI (many' + 1), nI (i + 1), xw σ (xup (xup J' 203 (q k ^^^ 2 ^ i) 1) 204 many' (nI (q k ^^^ 2 ^ i)))), ?_, _, _, _, _, rfl, hB2, ⟨fun s hs => ?_, fun j hj => ?_, fun a b hab => ?_⟩, by omega, fun j hj => ?_, fun s hs => wA_o (hm s hs), fun i' hi' ha => ?_⟩
          · simp only [f_X12_lakes_b119]
            simp (disch := first | assumption | omega) only [Option.bind_some, Option.map_some, xw_gR, xw_gN, xw_al, xw_ck, xw_uI, xw_ur, xup_at, xur_at, if_true, if_false, reduceIte, and_true, true_and, and_false, false_and, not_true_eq_false, not_false_eq_true, Nat.reduceEqDiff, eq_self, Nat.reduceAdd, Nat.reduceMul, kC1, kG1, kP1, kR1_0, kR1_1, kR1_2, kR1_3, kR1_4, kR1_5, kR1_6, kR1_7, kR1_8, kR1_9, kR1_10, kR1_11, kR1_12, kR1_13, kC2, kG2, kP2, kR2_0, kR2_1, kC3, kG3, kP3, kR3_0, kR3_1, kR3_2, kR3_3, kL4, kA4, kS4, kL5, kA5, kS5, kL6, kA6, kS6, kL7, kA7, kS7, kC8, kG8, kP8, kR8_0, kR8_1, kL9, kA9, kS9, kL10, kA10, kS10, kC11, kG11, kP11, kR11_0, kR11_1, kR11_2, kR11_3, kL12, kA12, kS12, kL13, kA13, kS13, kL14, kA14, kS14, kL15, kA15, kS15, kC16, kG16, kP16, kR16_0, kR16_1, kL17, kA17, kS17, kL18, kA18, kS18, kC19, kG19, kP19, kR19_0, kL20, kL141, kL146, kA146, kS146, kL151, kA151, kS151, kL156, kA156, kS156, kC157, kG157, kP157, kR157_0, kR157_1, kL158, kA158, kS158, kL159, kA159, kS159, kC161, kG161, kP161, kR161_0, kR161_1, kL162, kA162, kS162, kL163, kA163, kS163, kC165, kG165, kP165, kR165_0, kR165_1, kR165_2, kR165_3, kL166, kA166, kS166, kL167, kA167, kS167, kL168, kA168, kS168, kL169, kA169, kS169, kC170, kG170, kP170, kR170_0, kR170_1, kR170_2, kL171, kA171, kS171, kL172, kA172, kS172, kL173, kA173, kS173, kC174, kG174, kP174, kR174_0, kR174_1, kR174_2, kR174_3, kR174_4, kL175, kA175, kS175, kL176, kA176, kS176, kL177, kA177, kS177, kL178, kA178, kS178, kL179, kC180, kG180, kP180, kL181, kL182, kA182, kS182, kC183, kG183, kP183, kR183_1, kR183_3, kR183_5, kR183_6, kR183_7, kR183_8, kR183_9, kR183_21, kR183_26, kR183_27, kR183_30, kR183_31, kR183_33, kR183_34, kR183_36, kR183_37, kR183_38, kR183_39, kR183_40, kR183_41, kR183_42, kR183_43, kR183_44, kL184, kA184, kS184, kL185, kA185, kS185, kL186, kA186, kS186, kL187, kA187, kS187, kL188, kA188, kS188, kL189, kL190, kL191, kA191, kS191, kL192, kA192, kS192, kL193, kA193, kS193, kL194, kA194, kS194, kL195, kA195, kS195, kL196, kA196, kS196, kL197, kA197, kS197, kL198, kA198, kS198, kL199, kA199, kS199, kL200, kA200, kS200, kL201, kL202, kA202, kS202, kL203, kA203, kS203, kL204, kA204, kS204, kL205, kL206, kA206, kS206, sites_ok hS hG', nn_le, show ¬ (gSz g ≤ i) by omega, vk, nn_one, nn_xor, vw, ve, q1, q2, he]
            rw [nI_succ, nI_succ]
          · rw [xup_at, if_neg (by omega), xup_at]
            by_cases z : s = q k ^^^ 2 ^ i
            · rw [if_pos ⟨rfl, z⟩, z, wA_b, if_pos rfl]
            · rw [if_neg (by omega), v3 s hs]
              have : wA w' (q k ^^^ 2 ^ i) s = w' s := by
                unfold wA
                rw [decide_eq_false (fun y => z y.symm), Bool.or_false]
              rw [this]
          · rw [xup_at]
            show _ = nI (if j = many' then q k ^^^ 2 ^ i else q' j)
            by_cases z : j = many'
            · rw [if_pos ⟨rfl, z⟩, if_pos z]
            · rw [if_neg (by omega), xup_at, if_neg (by omega), if_neg z]; exact v4 j (by omega)
          · rw [xup_at, if_neg (by omega), xup_at, if_neg (by omega)]; exact u a b hab
          · show (if j = many' then _ else q' j) = q j
            rw [if_neg (by omega)]; exact hq j hj
          · by_cases z : i' = i
            · rw [z]; exact wA_b _ _
            · exact wA_o (hd i' (by omega) ha)
        · refine skip (fun z => absurd z.2 he) ?_
          simp only [f_X12_lakes_b119]
          simp (disch := first | assumption | omega) only [Option.bind_some, Option.map_some, xw_gR, xw_gN, xw_al, xw_ck, xw_uI, xw_ur, xup_at, xur_at, if_true, if_false, reduceIte, and_true, true_and, and_false, false_and, not_true_eq_false, not_false_eq_true, Nat.reduceEqDiff, eq_self, Nat.reduceAdd, Nat.reduceMul, kC1, kG1, kP1, kR1_0, kR1_1, kR1_2, kR1_3, kR1_4, kR1_5, kR1_6, kR1_7, kR1_8, kR1_9, kR1_10, kR1_11, kR1_12, kR1_13, kC2, kG2, kP2, kR2_0, kR2_1, kC3, kG3, kP3, kR3_0, kR3_1, kR3_2, kR3_3, kL4, kA4, kS4, kL5, kA5, kS5, kL6, kA6, kS6, kL7, kA7, kS7, kC8, kG8, kP8, kR8_0, kR8_1, kL9, kA9, kS9, kL10, kA10, kS10, kC11, kG11, kP11, kR11_0, kR11_1, kR11_2, kR11_3, kL12, kA12, kS12, kL13, kA13, kS13, kL14, kA14, kS14, kL15, kA15, kS15, kC16, kG16, kP16, kR16_0, kR16_1, kL17, kA17, kS17, kL18, kA18, kS18, kC19, kG19, kP19, kR19_0, kL20, kL141, kL146, kA146, kS146, kL151, kA151, kS151, kL156, kA156, kS156, kC157, kG157, kP157, kR157_0, kR157_1, kL158, kA158, kS158, kL159, kA159, kS159, kC161, kG161, kP161, kR161_0, kR161_1, kL162, kA162, kS162, kL163, kA163, kS163, kC165, kG165, kP165, kR165_0, kR165_1, kR165_2, kR165_3, kL166, kA166, kS166, kL167, kA167, kS167, kL168, kA168, kS168, kL169, kA169, kS169, kC170, kG170, kP170, kR170_0, kR170_1, kR170_2, kL171, kA171, kS171, kL172, kA172, kS172, kL173, kA173, kS173, kC174, kG174, kP174, kR174_0, kR174_1, kR174_2, kR174_3, kR174_4, kL175, kA175, kS175, kL176, kA176, kS176, kL177, kA177, kS177, kL178, kA178, kS178, kL179, kC180, kG180, kP180, kL181, kL182, kA182, kS182, kC183, kG183, kP183, kR183_1, kR183_3, kR183_5, kR183_6, kR183_7, kR183_8, kR183_9, kR183_21, kR183_26, kR183_27, kR183_30, kR183_31, kR183_33, kR183_34, kR183_36, kR183_37, kR183_38, kR183_39, kR183_40, kR183_41, kR183_42, kR183_43, kR183_44, kL184, kA184, kS184, kL185, kA185, kS185, kL186, kA186, kS186, kL187, kA187, kS187, kL188, kA188, kS188, kL189, kL190, kL191, kA191, kS191, kL192, kA192, kS192, kL193, kA193, kS193, kL194, kA194, kS194, kL195, kA195, kS195, kL196, kA196, kS196, kL197, kA197, kS197, kL198, kA198, kS198, kL199, kA199, kS199, kL200, kA200, kS200, kL201, kL202, kA202, kS202, kL203, kA203, kS203, kL204, kA204, kS204, kL205, kL206, kA206, kS206, sites_ok hS hG', nn_le, show ¬ (gSz g ≤ i) by omega, vk, nn_one, nn_xor, vw, ve, q1, q2, he]
          rw [nI_succ]
  · rintro a ⟨J', w', q', many', rfl, hB', hL', hle, hq, hm, hd⟩
    have hG' : GRD J' g := GRD_c (fun a k z => hL'.2.2 a k (by unfold sGRD at z; omega)) hG
    refine ⟨.inl (nI many', nI (k + 1), xw σ J'), ?_, J', w', q', many', rfl, hB', hL', hle, hq, hm, hd⟩
    simp only [f_X12_lakes_b119]
    simp (disch := first | assumption | omega) only [Option.bind_some, Option.map_some, xw_gR, xw_gN, xw_al, xw_ck, xw_uI, xw_ur, xup_at, xur_at, if_true, if_false, reduceIte, and_true, true_and, and_false, false_and, not_true_eq_false, not_false_eq_true, Nat.reduceEqDiff, eq_self, Nat.reduceAdd, Nat.reduceMul, kC1, kG1, kP1, kR1_0, kR1_1, kR1_2, kR1_3, kR1_4, kR1_5, kR1_6, kR1_7, kR1_8, kR1_9, kR1_10, kR1_11, kR1_12, kR1_13, kC2, kG2, kP2, kR2_0, kR2_1, kC3, kG3, kP3, kR3_0, kR3_1, kR3_2, kR3_3, kL4, kA4, kS4, kL5, kA5, kS5, kL6, kA6, kS6, kL7, kA7, kS7, kC8, kG8, kP8, kR8_0, kR8_1, kL9, kA9, kS9, kL10, kA10, kS10, kC11, kG11, kP11, kR11_0, kR11_1, kR11_2, kR11_3, kL12, kA12, kS12, kL13, kA13, kS13, kL14, kA14, kS14, kL15, kA15, kS15, kC16, kG16, kP16, kR16_0, kR16_1, kL17, kA17, kS17, kL18, kA18, kS18, kC19, kG19, kP19, kR19_0, kL20, kL141, kL146, kA146, kS146, kL151, kA151, kS151, kL156, kA156, kS156, kC157, kG157, kP157, kR157_0, kR157_1, kL158, kA158, kS158, kL159, kA159, kS159, kC161, kG161, kP161, kR161_0, kR161_1, kL162, kA162, kS162, kL163, kA163, kS163, kC165, kG165, kP165, kR165_0, kR165_1, kR165_2, kR165_3, kL166, kA166, kS166, kL167, kA167, kS167, kL168, kA168, kS168, kL169, kA169, kS169, kC170, kG170, kP170, kR170_0, kR170_1, kR170_2, kL171, kA171, kS171, kL172, kA172, kS172, kL173, kA173, kS173, kC174, kG174, kP174, kR174_0, kR174_1, kR174_2, kR174_3, kR174_4, kL175, kA175, kS175, kL176, kA176, kS176, kL177, kA177, kS177, kL178, kA178, kS178, kL179, kC180, kG180, kP180, kL181, kL182, kA182, kS182, kC183, kG183, kP183, kR183_1, kR183_3, kR183_5, kR183_6, kR183_7, kR183_8, kR183_9, kR183_21, kR183_26, kR183_27, kR183_30, kR183_31, kR183_33, kR183_34, kR183_36, kR183_37, kR183_38, kR183_39, kR183_40, kR183_41, kR183_42, kR183_43, kR183_44, kL184, kA184, kS184, kL185, kA185, kS185, kL186, kA186, kS186, kL187, kA187, kS187, kL188, kA188, kS188, kL189, kL190, kL191, kA191, kS191, kL192, kA192, kS192, kL193, kA193, kS193, kL194, kA194, kS194, kL195, kA195, kS195, kL196, kA196, kS196, kL197, kA197, kS197, kL198, kA198, kS198, kL199, kA199, kS199, kL200, kA200, kS200, kL201, kL202, kA202, kS202, kL203, kA203, kS203, kL204, kA204, kS204, kL205, kL206, kA206, kS206, sites_ok hS hG', nn_le, Nat.le_refl]
    rw [nI_succ]
theorem bfs_ok (hS : Shp σ) (hG : GRD J0 g) (ho : RO g F) (hK : KNK J0 g F) (h10 : gSt g ≤ 1024) (x n : Int32) {f : Nat} (hB : BF g F x.toInt w0 w q many first) (hL : LB J0 J g w q many) (h1 : many = 1)
    (hcl : ∀ a b, alw g F x.toInt a → alw g F x.toInt b → aj g F a b → w0 a = true → w0 b = true) :
    ∃ (J' : Nat → Nat → Int32) (w' : Nat → Bool) (q' : Nat → Nat), xloop (f_X12_lakes_b109 183 x n (nI f)) ((1 : Int32), (0 : Int32), xw σ J) = some (.inl (n, nI (f + 1), xw σ J')) ∧ (∃ m', LB J0 J' g w' q' m') ∧ ∀ s, w' s = true ↔ w0 s = true ∨ (alw g F x.toInt s ∧ cn (Se g F x.toInt) first s) := by
  have key := xloop_run (f := f_X12_lakes_b109 183 x n (nI f)) (fun m a => ∃ (k : Nat) (J' : Nat → Nat → Int32) (w' : Nat → Bool) (q' : Nat → Nat) (many' : Nat), a = (nI many', nI k, xw σ J') ∧ m = gSt g - k ∧ k ≤ many' ∧ BF g F x.toInt w0 w' q' many' first ∧ LB J0 J' g w' q' many' ∧ ∀ j, j < k → ∀ i, i < gSz g → alw g F x.toInt (q' j ^^^ 2 ^ i) → w' (q' j ^^^ 2 ^ i) = true) (fun b => ∃ (J' : Nat → Nat → Int32) (w' : Nat → Bool) (q' : Nat → Nat), b = .inl (n, nI (f + 1), xw σ J') ∧ (∃ m', LB J0 J' g w' q' m') ∧ ∀ s, w' s = true ↔ w0 s = true ∨ (alw g F x.toInt s ∧ cn (Se g F x.toInt) first s)) ?_ (gSt g - 0) ((1 : Int32), (0 : Int32), xw σ J) ⟨0, J, w, q, 1, rfl, rfl, Nat.zero_le _, by rw [← h1]; exact hB, by rw [← h1]; exact hL, fun j hj => absurd hj (Nat.not_lt_zero _)⟩
  · obtain ⟨b, e, J', w', q', rfl, rest⟩ := key
    exact ⟨J', w', q', e, rest⟩
  · rintro m a ⟨k, J', w', q', many', rfl, rfl, hkm, hB', hL', hd⟩
    have m24 := BF_le hB'
    have qk : (nI many' ≤ nI k) = (many' ≤ k) := nn_le (by omega) (by omega)
    by_cases hk : k = many'
    · left
      refine ⟨_, ?_, J', w', q', rfl, ⟨many', hL'⟩, fun s => ?_⟩
      · simp only [f_X12_lakes_b109]
        rw [if_pos (by rw [qk]; omega), nI_succ]
        rfl
      · obtain ⟨⟨b1, b2⟩, b3, b4, b5⟩ := id hB'
        rw [b5 s]
        constructor
        · rintro (z | ⟨j, j1, rfl⟩)
          · exact .inl z
          · exact .inr ⟨(b3 j j1).1, (b3 j j1).2.1⟩
        · rintro (z | ⟨z1, z2⟩)
          · exact .inl z
          · right
            refine z2 (fun t => ∃ j, j < many' ∧ q' j = t) ⟨0, b1, b2⟩ ?_
            rintro a b ⟨j, j1, rfl⟩ ⟨s1, s2, i, i1, i2, rfl⟩
            have hw := hd j (by omega) i i1 s2
            rcases (b5 _).mp hw with v | v
            · have := hcl _ _ s2 s1 (aj_y ⟨i, i1, i2, rfl⟩) v
              rw [(b3 j j1).2.2] at this; cases this
            · exact v
    · right
      obtain ⟨r, e, J2, w2, q2, many2, rfl, hB2, hL2, hle, hq, hm, hd2⟩ := bfs_row (σ := σ) hS hG ho hK h10 x n (nI f) hB' hL' (show k < many' by omega)
      refine ⟨gSt g - (k + 1), (nI many2, nI (k + 1), xw σ J2), by omega, ?_, k + 1, J2, w2, q2, many2, rfl, rfl, by omega, hB2, hL2, fun j hj i hi ha => ?_⟩
      · simp only [f_X12_lakes_b109]
        rw [if_neg (by rw [qk]; omega), e]
      · rw [hq j (by omega)] at ha ⊢
        by_cases z : j = k
        · rw [z] at ha ⊢; exact hd2 i hi ha
        · exact hm _ (hd j (by omega) i hi ha)
end LAKES
end
section
/-! lakes, counted -/
noncomputable def mnC (g : GD) (F : Nat → Int32) (e : Int) (y : Nat) : Bool := @decide (alw g F e y ∧ ∀ z, z < y → alw g F e z → ¬ cn (Se g F e) z y) (Classical.propDecidable _)
theorem mnC_iff {g : GD} {F : Nat → Int32} {e : Int} {y : Nat} : mnC g F e y = true ↔ alw g F e y ∧ ∀ z, z < y → alw g F e z → ¬ cn (Se g F e) z y := by
  unfold mnC
  exact @decide_eq_true_iff _ (Classical.propDecidable _)
section LAKE2
variable {σ : XS} {J0 J : Nat → Nat → Int32} {g : GD} {F : Nat → Int32}
def wK (g : GD) (F : Nat → Int32) (e : Int) (w : Nat → Bool) (k : Nat) : Prop := ∀ s, w s = true ↔ alw g F e s ∧ ∃ y, y < k ∧ alw g F e y ∧ cn (Se g F e) y s
theorem wK_skip {e : Int} {w : Nat → Bool} {k : Nat} (h : wK g F e w k) (hk : ¬ alw g F e k ∨ w k = true) : wK g F e w (k + 1) ∧ mnC g F e k = false := by
  refine ⟨fun s => ?_, ?_⟩
  · rw [h s]
    constructor
    · rintro ⟨h1, y, y1, y2⟩
      exact ⟨h1, y, by omega, y2⟩
    · rintro ⟨h1, y, y1, y2, y3⟩
      refine ⟨h1, ?_⟩
      by_cases z : y = k
      · rw [z] at y2 y3
        rcases hk with v | v
        · exact absurd y2 v
        · obtain ⟨-, t, t1, t2, t3⟩ := (h k).mp v
          exact ⟨t, t1, t2, cn_t t3 y3⟩
      · exact ⟨y, by omega, y2, y3⟩
  · cases z : mnC g F e k with
    | false => rfl
    | true =>
      obtain ⟨z1, z2⟩ := mnC_iff.mp z
      rcases hk with v | v
      · exact absurd z1 v
      · obtain ⟨-, t, t1, t2, t3⟩ := (h k).mp v
        exact absurd t3 (z2 t t1 t2)
theorem lakes44 (hS : Shp σ) (hG : GRD J0 g) (ho : RO g F) (hK : KNK J0 g F) (h10 : gSt g ≤ 1024) (x : Int32) (hL : LB J0 J g (fun _ => false) (fun _ => 0) 0) :
    ∃ r, xloop (f_X12_lakes_b44 183 x) ((0 : Int32), (0 : Int32), xw σ J) = some r ∧ ∃ J' : Nat → Nat → Int32, r = (nI (fb_ct (mnC g F x.toInt) (gSt g)), xw σ J') ∧ ∀ a k, ¬ (203 ≤ a ∧ a ≤ 204) → J' a k = J0 a k := by
  have hg := hG.1
  refine xforI (fun k a => ∃ (J' : Nat → Nat → Int32) (w : Nat → Bool) (q : Nat → Nat), a = (nI (fb_ct (mnC g F x.toInt) k), nI k, xw σ J') ∧ LB J0 J' g w q 0 ∧ wK g F x.toInt w k) (gSt g) ⟨J, _, _, rfl, hL, fun s => ⟨fun z => absurd z Bool.false_ne_true, fun ⟨_, y, y1, _⟩ => absurd y1 (Nat.not_lt_zero _)⟩⟩ ?_ ?_
  · rintro k a hk ⟨J', w, q, rfl, hL', hw⟩
    obtain ⟨v3, v4, u⟩ := id hL'
    have hG' : GRD J' g := GRD_c (fun a k z => u a k (by unfold sGRD at z; omega)) hG
    have k24 : k < 1024 := by omega
    have vw := v3 k hk
    have ve : J' 196 k = if lW g F k then iI (eE g (zR F) k) else nI 100000 := by rw [u _ _ (by omega)]; exact hK.1 k hk
    have hbt := eE_b hg ho k
    have skip : (¬ alw g F x.toInt k ∨ w k = true) → f_X12_lakes_b44 183 x (nI (fb_ct (mnC g F x.toInt) k), nI k, xw σ J') = some (.inl (nI (fb_ct (mnC g F x.toInt) k), nI (k + 1), xw σ J')) → ∃ a', f_X12_lakes_b44 183 x (nI (fb_ct (mnC g F x.toInt) k), nI k, xw σ J') = some (.inl a') ∧ ∃ (J' : Nat → Nat → Int32) (w : Nat → Bool) (q : Nat → Nat), a' = (nI (fb_ct (mnC g F x.toInt) (k + 1)), nI (k + 1), xw σ J') ∧ LB J0 J' g w q 0 ∧ wK g F x.toInt w (k + 1) := by
      intro h1 h2
      obtain ⟨s1, s2⟩ := wK_skip hw h1
      refine ⟨_, h2, J', w, q, ?_, hL', s1⟩
      rw [fb_ct_succ, s2]
      rfl
    cases hwk : w k with
    | true =>
      rw [hwk, if_pos rfl] at vw
      refine skip (.inr hwk) ?_
      simp only [f_X12_lakes_b44]
      simp (disch := first | assumption | omega) only [Option.bind_some, Option.map_some, xw_gR, xw_gN, xw_al, xw_ck, xw_uI, xw_ur, xup_at, xur_at, if_true, if_false, reduceIte, and_true, true_and, and_false, false_and, not_true_eq_false, not_false_eq_true, Nat.reduceEqDiff, eq_self, Nat.reduceAdd, Nat.reduceMul, kC1, kG1, kP1, kR1_0, kR1_1, kR1_2, kR1_3, kR1_4, kR1_5, kR1_6, kR1_7, kR1_8, kR1_9, kR1_10, kR1_11, kR1_12, kR1_13, kC2, kG2, kP2, kR2_0, kR2_1, kC3, kG3, kP3, kR3_0, kR3_1, kR3_2, kR3_3, kL4, kA4, kS4, kL5, kA5, kS5, kL6, kA6, kS6, kL7, kA7, kS7, kC8, kG8, kP8, kR8_0, kR8_1, kL9, kA9, kS9, kL10, kA10, kS10, kC11, kG11, kP11, kR11_0, kR11_1, kR11_2, kR11_3, kL12, kA12, kS12, kL13, kA13, kS13, kL14, kA14, kS14, kL15, kA15, kS15, kC16, kG16, kP16, kR16_0, kR16_1, kL17, kA17, kS17, kL18, kA18, kS18, kC19, kG19, kP19, kR19_0, kL20, kL141, kL146, kA146, kS146, kL151, kA151, kS151, kL156, kA156, kS156, kC157, kG157, kP157, kR157_0, kR157_1, kL158, kA158, kS158, kL159, kA159, kS159, kC161, kG161, kP161, kR161_0, kR161_1, kL162, kA162, kS162, kL163, kA163, kS163, kC165, kG165, kP165, kR165_0, kR165_1, kR165_2, kR165_3, kL166, kA166, kS166, kL167, kA167, kS167, kL168, kA168, kS168, kL169, kA169, kS169, kC170, kG170, kP170, kR170_0, kR170_1, kR170_2, kL171, kA171, kS171, kL172, kA172, kS172, kL173, kA173, kS173, kC174, kG174, kP174, kR174_0, kR174_1, kR174_2, kR174_3, kR174_4, kL175, kA175, kS175, kL176, kA176, kS176, kL177, kA177, kS177, kL178, kA178, kS178, kL179, kC180, kG180, kP180, kL181, kL182, kA182, kS182, kC183, kG183, kP183, kR183_1, kR183_3, kR183_5, kR183_6, kR183_7, kR183_8, kR183_9, kR183_21, kR183_26, kR183_27, kR183_30, kR183_31, kR183_33, kR183_34, kR183_36, kR183_37, kR183_38, kR183_39, kR183_40, kR183_41, kR183_42, kR183_43, kR183_44, kL184, kA184, kS184, kL185, kA185, kS185, kL186, kA186, kS186, kL187, kA187, kS187, kL188, kA188, kS188, kL189, kL190, kL191, kA191, kS191, kL192, kA192, kS192, kL193, kA193, kS193, kL194, kA194, kS194, kL195, kA195, kS195, kL196, kA196, kS196, kL197, kA197, kS197, kL198, kA198, kS198, kL199, kA199, kS199, kL200, kA200, kS200, kL201, kL202, kA202, kS202, kL203, kA203, kS203, kL204, kA204, kS204, kL205, kL206, kA206, kS206, states12_ok hS hG', nn_le, show ¬ (gSt g ≤ k) by omega, vw, one0]
      rw [nI_succ]
    | false =>
      rw [hwk, if_neg (by decide)] at vw
      cases hl : lW g F k with
      | false =>
        rw [hl, if_neg (by decide)] at ve
        refine skip (.inl (fun z => by have := z.1.2; rw [hl] at this; cases this)) ?_
        simp only [f_X12_lakes_b44]
        simp (disch := first | assumption | omega) only [Option.bind_some, Option.map_some, xw_gR, xw_gN, xw_al, xw_ck, xw_uI, xw_ur, xup_at, xur_at, if_true, if_false, reduceIte, and_true, true_and, and_false, false_and, not_true_eq_false, not_false_eq_true, Nat.reduceEqDiff, eq_self, Nat.reduceAdd, Nat.reduceMul, kC1, kG1, kP1, kR1_0, kR1_1, kR1_2, kR1_3, kR1_4, kR1_5, kR1_6, kR1_7, kR1_8, kR1_9, kR1_10, kR1_11, kR1_12, kR1_13, kC2, kG2, kP2, kR2_0, kR2_1, kC3, kG3, kP3, kR3_0, kR3_1, kR3_2, kR3_3, kL4, kA4, kS4, kL5, kA5, kS5, kL6, kA6, kS6, kL7, kA7, kS7, kC8, kG8, kP8, kR8_0, kR8_1, kL9, kA9, kS9, kL10, kA10, kS10, kC11, kG11, kP11, kR11_0, kR11_1, kR11_2, kR11_3, kL12, kA12, kS12, kL13, kA13, kS13, kL14, kA14, kS14, kL15, kA15, kS15, kC16, kG16, kP16, kR16_0, kR16_1, kL17, kA17, kS17, kL18, kA18, kS18, kC19, kG19, kP19, kR19_0, kL20, kL141, kL146, kA146, kS146, kL151, kA151, kS151, kL156, kA156, kS156, kC157, kG157, kP157, kR157_0, kR157_1, kL158, kA158, kS158, kL159, kA159, kS159, kC161, kG161, kP161, kR161_0, kR161_1, kL162, kA162, kS162, kL163, kA163, kS163, kC165, kG165, kP165, kR165_0, kR165_1, kR165_2, kR165_3, kL166, kA166, kS166, kL167, kA167, kS167, kL168, kA168, kS168, kL169, kA169, kS169, kC170, kG170, kP170, kR170_0, kR170_1, kR170_2, kL171, kA171, kS171, kL172, kA172, kS172, kL173, kA173, kS173, kC174, kG174, kP174, kR174_0, kR174_1, kR174_2, kR174_3, kR174_4, kL175, kA175, kS175, kL176, kA176, kS176, kL177, kA177, kS177, kL178, kA178, kS178, kL179, kC180, kG180, kP180, kL181, kL182, kA182, kS182, kC183, kG183, kP183, kR183_1, kR183_3, kR183_5, kR183_6, kR183_7, kR183_8, kR183_9, kR183_21, kR183_26, kR183_27, kR183_30, kR183_31, kR183_33, kR183_34, kR183_36, kR183_37, kR183_38, kR183_39, kR183_40, kR183_41, kR183_42, kR183_43, kR183_44, kL184, kA184, kS184, kL185, kA185, kS185, kL186, kA186, kS186, kL187, kA187, kS187, kL188, kA188, kS188, kL189, kL190, kL191, kA191, kS191, kL192, kA192, kS192, kL193, kA193, kS193, kL194, kA194, kS194, kL195, kA195, kS195, kL196, kA196, kS196, kL197, kA197, kS197, kL198, kA198, kS198, kL199, kA199, kS199, kL200, kA200, kS200, kL201, kL202, kA202, kS202, kL203, kA203, kS203, kL204, kA204, kS204, kL205, kL206, kA206, kS206, states12_ok hS hG', nn_le, show ¬ (gSt g ≤ k) by omega, vw, ve, show (nI 100000 = (100000 : Int32)) = True from eq_true rfl]
        rw [nI_succ]
      | true =>
        rw [hl, if_pos rfl] at ve
        have q1 : (iI (eE g (zR F) k) = (100000 : Int32)) = False := by
          rw [show (100000 : Int32) = iI 100000 from rfl, iI_eq (by omega) (by omega) (by omega) (by omega)]; exact eq_false (by omega)
        have q2 : (iI (eE g (zR F) k) ≤ x) = (eE g (zR F) k ≤ x.toInt) := by rw [fa_le, iI_ti (by omega) (by omega)]
        by_cases he : eE g (zR F) k ≤ x.toInt
        · have hal : alw g F x.toInt k := ⟨⟨hk, hl⟩, he⟩
          have z0 : ∀ (I : Nat → Nat → Int32) (v : Int32), xsI (xw σ I) 20 204 (0 : Int32) v = some (xw σ (xup I 204 0 v)) := fun I v => kS204 hS (i := 0) (by decide)
          have hB : BF g F x.toInt w (wA w k) (fun _ => k) 1 k := by
            refine ⟨⟨by omega, rfl⟩, fun j hj => ⟨hal, cn_r _ _, hwk⟩, fun i j hij hj => by omega, fun s => ?_⟩
            rw [wA_iff]
            constructor
            · rintro (z | z)
              · exact .inl z
              · exact .inr ⟨0, by omega, z⟩
            · rintro (z | ⟨j, -, z⟩)
              · exact .inl z
              · exact .inr z
          have hL2 : LB J0 (xup (xup J' 203 k 1) 204 0 (nI k)) g (wA w k) (fun _ => k) 1 := by
            refine ⟨fun s hs => ?_, fun j hj => ?_, fun a b hab => ?_⟩
            · rw [xup_at, if_neg (by omega), xup_at]
              by_cases z : s = k
              · rw [if_pos ⟨rfl, z⟩, z, wA_b, if_pos rfl]
              · rw [if_neg (by omega), v3 s hs]
                have : wA w k s = w s := by
                  unfold wA
                  rw [decide_eq_false (fun y => z y.symm), Bool.or_false]
                rw [this]
            · rw [xup_at, if_pos ⟨rfl, by omega⟩]
            · rw [xup_at, if_neg (by omega), xup_at, if_neg (by omega)]; exact u a b hab
          have hcl : ∀ a b, alw g F x.toInt a → alw g F x.toInt b → aj g F a b → w a = true → w b = true := fun a b ha hb hab hwa => by
            obtain ⟨-, y, y1, y2, y3⟩ := (hw a).mp hwa
            exact (hw b).mpr ⟨hb, y, y1, y2, cn_s y3 ⟨ha, hb, hab⟩⟩
          obtain ⟨J2, w', q', e, ⟨m', hL3⟩, hw'⟩ := bfs_ok (σ := σ) hS hG ho hK h10 x (nI (fb_ct (mnC g F x.toInt) k + 1)) (f := k) hB hL2 rfl hcl
          have hmn : mnC g F x.toInt k = true := by
            refine mnC_iff.mpr ⟨hal, fun z z1 z2 z3 => ?_⟩
            have := (hw k).mpr ⟨hal, z, z1, z2, z3⟩
            rw [hwk] at this; cases this
          refine ⟨(nI (fb_ct (mnC g F x.toInt) k + 1), nI (k + 1), xw σ J2), ?_, J2, w', q', ?_, ⟨hL3.1, fun j hj => absurd hj (Nat.not_lt_zero _), hL3.2.2⟩, fun s => ?_⟩
          · simp only [f_X12_lakes_b44]
            simp (disch := first | assumption | omega) only [Option.bind_some, Option.map_some, xw_gR, xw_gN, xw_al, xw_ck, xw_uI, xw_ur, xup_at, xur_at, if_true, if_false, reduceIte, and_true, true_and, and_false, false_and, not_true_eq_false, not_false_eq_true, Nat.reduceEqDiff, eq_self, Nat.reduceAdd, Nat.reduceMul, kC1, kG1, kP1, kR1_0, kR1_1, kR1_2, kR1_3, kR1_4, kR1_5, kR1_6, kR1_7, kR1_8, kR1_9, kR1_10, kR1_11, kR1_12, kR1_13, kC2, kG2, kP2, kR2_0, kR2_1, kC3, kG3, kP3, kR3_0, kR3_1, kR3_2, kR3_3, kL4, kA4, kS4, kL5, kA5, kS5, kL6, kA6, kS6, kL7, kA7, kS7, kC8, kG8, kP8, kR8_0, kR8_1, kL9, kA9, kS9, kL10, kA10, kS10, kC11, kG11, kP11, kR11_0, kR11_1, kR11_2, kR11_3, kL12, kA12, kS12, kL13, kA13, kS13, kL14, kA14, kS14, kL15, kA15, kS15, kC16, kG16, kP16, kR16_0, kR16_1, kL17, kA17, kS17, kL18, kA18, kS18, kC19, kG19, kP19, kR19_0, kL20, kL141, kL146, kA146, kS146, kL151, kA151, kS151, kL156, kA156, kS156, kC157, kG157, kP157, kR157_0, kR157_1, kL158, kA158, kS158, kL159, kA159, kS159, kC161, kG161, kP161, kR161_0, kR161_1, kL162, kA162, kS162, kL163, kA163, kS163, kC165, kG165, kP165, kR165_0, kR165_1, kR165_2, kR165_3, kL166, kA166, kS166, kL167, kA167, kS167, kL168, kA168, kS168, kL169, kA169, kS169, kC170, kG170, kP170, kR170_0, kR170_1, kR170_2, kL171, kA171, kS171, kL172, kA172, kS172, kL173, kA173, kS173, kC174, kG174, kP174, kR174_0, kR174_1, kR174_2, kR174_3, kR174_4, kL175, kA175, kS175, kL176, kA176, kS176, kL177, kA177, kS177, kL178, kA178, kS178, kL179, kC180, kG180, kP180, kL181, kL182, kA182, kS182, kC183, kG183, kP183, kR183_1, kR183_3, kR183_5, kR183_6, kR183_7, kR183_8, kR183_9, kR183_21, kR183_26, kR183_27, kR183_30, kR183_31, kR183_33, kR183_34, kR183_36, kR183_37, kR183_38, kR183_39, kR183_40, kR183_41, kR183_42, kR183_43, kR183_44, kL184, kA184, kS184, kL185, kA185, kS185, kL186, kA186, kS186, kL187, kA187, kS187, kL188, kA188, kS188, kL189, kL190, kL191, kA191, kS191, kL192, kA192, kS192, kL193, kA193, kS193, kL194, kA194, kS194, kL195, kA195, kS195, kL196, kA196, kS196, kL197, kA197, kS197, kL198, kA198, kS198, kL199, kA199, kS199, kL200, kA200, kS200, kL201, kL202, kA202, kS202, kL203, kA203, kS203, kL204, kA204, kS204, kL205, kL206, kA206, kS206, states12_ok hS hG', nn_le, show ¬ (gSt g ≤ k) by omega, vw, ve, q1, q2, he, z0]
            rw [← nI_succ]
            exact e
          · rw [fb_ct_succ, hmn]
            rfl
          · rw [hw' s, hw s]
            constructor
            · rintro (⟨h1, y, y1, y2⟩ | ⟨h1, h2⟩)
              · exact ⟨h1, y, by omega, y2⟩
              · exact ⟨h1, k, by omega, hal, h2⟩
            · rintro ⟨h1, y, y1, y2, y3⟩
              by_cases z : y = k
              · rw [z] at y3; exact .inr ⟨h1, y3⟩
              · exact .inl ⟨h1, y, by omega, y2, y3⟩
        · refine skip (.inl (fun z => he z.2)) ?_
          simp only [f_X12_lakes_b44]
          simp (disch := first | assumption | omega) only [Option.bind_some, Option.map_some, xw_gR, xw_gN, xw_al, xw_ck, xw_uI, xw_ur, xup_at, xur_at, if_true, if_false, reduceIte, and_true, true_and, and_false, false_and, not_true_eq_false, not_false_eq_true, Nat.reduceEqDiff, eq_self, Nat.reduceAdd, Nat.reduceMul, kC1, kG1, kP1, kR1_0, kR1_1, kR1_2, kR1_3, kR1_4, kR1_5, kR1_6, kR1_7, kR1_8, kR1_9, kR1_10, kR1_11, kR1_12, kR1_13, kC2, kG2, kP2, kR2_0, kR2_1, kC3, kG3, kP3, kR3_0, kR3_1, kR3_2, kR3_3, kL4, kA4, kS4, kL5, kA5, kS5, kL6, kA6, kS6, kL7, kA7, kS7, kC8, kG8, kP8, kR8_0, kR8_1, kL9, kA9, kS9, kL10, kA10, kS10, kC11, kG11, kP11, kR11_0, kR11_1, kR11_2, kR11_3, kL12, kA12, kS12, kL13, kA13, kS13, kL14, kA14, kS14, kL15, kA15, kS15, kC16, kG16, kP16, kR16_0, kR16_1, kL17, kA17, kS17, kL18, kA18, kS18, kC19, kG19, kP19, kR19_0, kL20, kL141, kL146, kA146, kS146, kL151, kA151, kS151, kL156, kA156, kS156, kC157, kG157, kP157, kR157_0, kR157_1, kL158, kA158, kS158, kL159, kA159, kS159, kC161, kG161, kP161, kR161_0, kR161_1, kL162, kA162, kS162, kL163, kA163, kS163, kC165, kG165, kP165, kR165_0, kR165_1, kR165_2, kR165_3, kL166, kA166, kS166, kL167, kA167, kS167, kL168, kA168, kS168, kL169, kA169, kS169, kC170, kG170, kP170, kR170_0, kR170_1, kR170_2, kL171, kA171, kS171, kL172, kA172, kS172, kL173, kA173, kS173, kC174, kG174, kP174, kR174_0, kR174_1, kR174_2, kR174_3, kR174_4, kL175, kA175, kS175, kL176, kA176, kS176, kL177, kA177, kS177, kL178, kA178, kS178, kL179, kC180, kG180, kP180, kL181, kL182, kA182, kS182, kC183, kG183, kP183, kR183_1, kR183_3, kR183_5, kR183_6, kR183_7, kR183_8, kR183_9, kR183_21, kR183_26, kR183_27, kR183_30, kR183_31, kR183_33, kR183_34, kR183_36, kR183_37, kR183_38, kR183_39, kR183_40, kR183_41, kR183_42, kR183_43, kR183_44, kL184, kA184, kS184, kL185, kA185, kS185, kL186, kA186, kS186, kL187, kA187, kS187, kL188, kA188, kS188, kL189, kL190, kL191, kA191, kS191, kL192, kA192, kS192, kL193, kA193, kS193, kL194, kA194, kS194, kL195, kA195, kS195, kL196, kA196, kS196, kL197, kA197, kS197, kL198, kA198, kS198, kL199, kA199, kS199, kL200, kA200, kS200, kL201, kL202, kA202, kS202, kL203, kA203, kS203, kL204, kA204, kS204, kL205, kL206, kA206, kS206, states12_ok hS hG', nn_le, show ¬ (gSt g ≤ k) by omega, vw, ve, q1, q2, he]
          rw [nI_succ]
  · rintro a ⟨J', w, q, rfl, hL', hw⟩
    have hG' : GRD J' g := GRD_c (fun a k z => hL'.2.2 a k (by unfold sGRD at z; omega)) hG
    have hSt := (gSt_b hg).1
    refine ⟨_, ?_, J', rfl, hL'.2.2⟩
    simp only [f_X12_lakes_b44]
    simp (disch := first | assumption | omega) only [Option.bind_some, Option.map_some, xw_gR, xw_gN, xw_al, xw_ck, xw_uI, xw_ur, xup_at, xur_at, if_true, if_false, reduceIte, and_true, true_and, and_false, false_and, not_true_eq_false, not_false_eq_true, Nat.reduceEqDiff, eq_self, Nat.reduceAdd, Nat.reduceMul, kC1, kG1, kP1, kR1_0, kR1_1, kR1_2, kR1_3, kR1_4, kR1_5, kR1_6, kR1_7, kR1_8, kR1_9, kR1_10, kR1_11, kR1_12, kR1_13, kC2, kG2, kP2, kR2_0, kR2_1, kC3, kG3, kP3, kR3_0, kR3_1, kR3_2, kR3_3, kL4, kA4, kS4, kL5, kA5, kS5, kL6, kA6, kS6, kL7, kA7, kS7, kC8, kG8, kP8, kR8_0, kR8_1, kL9, kA9, kS9, kL10, kA10, kS10, kC11, kG11, kP11, kR11_0, kR11_1, kR11_2, kR11_3, kL12, kA12, kS12, kL13, kA13, kS13, kL14, kA14, kS14, kL15, kA15, kS15, kC16, kG16, kP16, kR16_0, kR16_1, kL17, kA17, kS17, kL18, kA18, kS18, kC19, kG19, kP19, kR19_0, kL20, kL141, kL146, kA146, kS146, kL151, kA151, kS151, kL156, kA156, kS156, kC157, kG157, kP157, kR157_0, kR157_1, kL158, kA158, kS158, kL159, kA159, kS159, kC161, kG161, kP161, kR161_0, kR161_1, kL162, kA162, kS162, kL163, kA163, kS163, kC165, kG165, kP165, kR165_0, kR165_1, kR165_2, kR165_3, kL166, kA166, kS166, kL167, kA167, kS167, kL168, kA168, kS168, kL169, kA169, kS169, kC170, kG170, kP170, kR170_0, kR170_1, kR170_2, kL171, kA171, kS171, kL172, kA172, kS172, kL173, kA173, kS173, kC174, kG174, kP174, kR174_0, kR174_1, kR174_2, kR174_3, kR174_4, kL175, kA175, kS175, kL176, kA176, kS176, kL177, kA177, kS177, kL178, kA178, kS178, kL179, kC180, kG180, kP180, kL181, kL182, kA182, kS182, kC183, kG183, kP183, kR183_1, kR183_3, kR183_5, kR183_6, kR183_7, kR183_8, kR183_9, kR183_21, kR183_26, kR183_27, kR183_30, kR183_31, kR183_33, kR183_34, kR183_36, kR183_37, kR183_38, kR183_39, kR183_40, kR183_41, kR183_42, kR183_43, kR183_44, kL184, kA184, kS184, kL185, kA185, kS185, kL186, kA186, kS186, kL187, kA187, kS187, kL188, kA188, kS188, kL189, kL190, kL191, kA191, kS191, kL192, kA192, kS192, kL193, kA193, kS193, kL194, kA194, kS194, kL195, kA195, kS195, kL196, kA196, kS196, kL197, kA197, kS197, kL198, kA198, kS198, kL199, kA199, kS199, kL200, kA200, kS200, kL201, kL202, kA202, kS202, kL203, kA203, kS203, kL204, kA204, kS204, kL205, kL206, kA206, kS206, states12_ok hS hG', nn_le, Nat.le_refl]
theorem lakes12_ok (hS : Shp σ) (hG : GRD J g) (ho : RO g F) (hK : KNK J g F) (h10 : gSt g ≤ 1024) (x : Int32) : ∃ J' : Nat → Nat → Int32, xloop (f_X12_lakes_b19 183 x) ((0 : Int32), xw σ J) = some (nI (fb_ct (mnC g F x.toInt) (gSt g)), xw σ J') ∧ ∀ a k, ¬ (203 ≤ a ∧ a ≤ 204) → J' a k = J a k := by
  have hg := hG.1
  have key := xforI (f := f_X12_lakes_b19 183 x) (fun s a => ∃ J' : Nat → Nat → Int32, a = (nI s, xw σ J') ∧ (∀ y, y < s → J' 203 y = 0) ∧ ∀ a k, ¬ (203 ≤ a ∧ a ≤ 204) → J' a k = J a k) (gSt g) (Q := fun r => ∃ J' : Nat → Nat → Int32, r = (nI (fb_ct (mnC g F x.toInt) (gSt g)), xw σ J') ∧ ∀ a k, ¬ (203 ≤ a ∧ a ≤ 204) → J' a k = J a k) (a0 := ((0 : Int32), xw σ J)) ⟨J, rfl, fun y hy => absurd hy (Nat.not_lt_zero _), fun _ _ _ => rfl⟩ ?_ ?_
  · obtain ⟨r, e, J', rfl, u⟩ := key
    exact ⟨J', e, u⟩
  · rintro s a hs ⟨J', rfl, v, u⟩
    have hG' : GRD J' g := GRD_c (fun a k z => u a k (by unfold sGRD at z; omega)) hG
    have s24 : s < 1024 := by omega
    refine ⟨(nI (s + 1), xw σ (xup J' 203 s 0)), ?_, xup J' 203 s 0, rfl, fun y hy => ?_, fun a k h => by rw [xup_at, if_neg (by omega)]; exact u a k h⟩
    · simp only [f_X12_lakes_b19]
      simp (disch := first | assumption | omega) only [Option.bind_some, Option.map_some, xw_gR, xw_gN, xw_al, xw_ck, xw_uI, xw_ur, xup_at, xur_at, if_true, if_false, reduceIte, and_true, true_and, and_false, false_and, not_true_eq_false, not_false_eq_true, Nat.reduceEqDiff, eq_self, Nat.reduceAdd, Nat.reduceMul, kC1, kG1, kP1, kR1_0, kR1_1, kR1_2, kR1_3, kR1_4, kR1_5, kR1_6, kR1_7, kR1_8, kR1_9, kR1_10, kR1_11, kR1_12, kR1_13, kC2, kG2, kP2, kR2_0, kR2_1, kC3, kG3, kP3, kR3_0, kR3_1, kR3_2, kR3_3, kL4, kA4, kS4, kL5, kA5, kS5, kL6, kA6, kS6, kL7, kA7, kS7, kC8, kG8, kP8, kR8_0, kR8_1, kL9, kA9, kS9, kL10, kA10, kS10, kC11, kG11, kP11, kR11_0, kR11_1, kR11_2, kR11_3, kL12, kA12, kS12, kL13, kA13, kS13, kL14, kA14, kS14, kL15, kA15, kS15, kC16, kG16, kP16, kR16_0, kR16_1, kL17, kA17, kS17, kL18, kA18, kS18, kC19, kG19, kP19, kR19_0, kL20, kL141, kL146, kA146, kS146, kL151, kA151, kS151, kL156, kA156, kS156, kC157, kG157, kP157, kR157_0, kR157_1, kL158, kA158, kS158, kL159, kA159, kS159, kC161, kG161, kP161, kR161_0, kR161_1, kL162, kA162, kS162, kL163, kA163, kS163, kC165, kG165, kP165, kR165_0, kR165_1, kR165_2, kR165_3, kL166, kA166, kS166, kL167, kA167, kS167, kL168, kA168, kS168, kL169, kA169, kS169, kC170, kG170, kP170, kR170_0, kR170_1, kR170_2, kL171, kA171, kS171, kL172, kA172, kS172, kL173, kA173, kS173, kC174, kG174, kP174, kR174_0, kR174_1, kR174_2, kR174_3, kR174_4, kL175, kA175, kS175, kL176, kA176, kS176, kL177, kA177, kS177, kL178, kA178, kS178, kL179, kC180, kG180, kP180, kL181, kL182, kA182, kS182, kC183, kG183, kP183, kR183_1, kR183_3, kR183_5, kR183_6, kR183_7, kR183_8, kR183_9, kR183_21, kR183_26, kR183_27, kR183_30, kR183_31, kR183_33, kR183_34, kR183_36, kR183_37, kR183_38, kR183_39, kR183_40, kR183_41, kR183_42, kR183_43, kR183_44, kL184, kA184, kS184, kL185, kA185, kS185, kL186, kA186, kS186, kL187, kA187, kS187, kL188, kA188, kS188, kL189, kL190, kL191, kA191, kS191, kL192, kA192, kS192, kL193, kA193, kS193, kL194, kA194, kS194, kL195, kA195, kS195, kL196, kA196, kS196, kL197, kA197, kS197, kL198, kA198, kS198, kL199, kA199, kS199, kL200, kA200, kS200, kL201, kL202, kA202, kS202, kL203, kA203, kS203, kL204, kA204, kS204, kL205, kL206, kA206, kS206, states12_ok hS hG', nn_le, show ¬ (gSt g ≤ s) by omega]
      rw [nI_succ]
    · rw [xup_at]
      by_cases z : y = s
      · rw [if_pos ⟨rfl, z⟩]
      · rw [if_neg (by omega)]; exact v y (by omega)
  · rintro a ⟨J', rfl, v, u⟩
    have hG' : GRD J' g := GRD_c (fun a k z => u a k (by unfold sGRD at z; omega)) hG
    obtain ⟨r, e, J2, rfl, u2⟩ := lakes44 (σ := σ) (J0 := J) (J := J') hS hG ho hK h10 x ⟨fun s hs => by rw [v s hs]; exact (if_neg Bool.false_ne_true).symm, fun j hj => absurd hj (Nat.not_lt_zero _), u⟩
    refine ⟨_, ?_, J2, rfl, u2⟩
    simp only [f_X12_lakes_b19]
    simp (disch := first | assumption | omega) only [Option.bind_some, Option.map_some, xw_gR, xw_gN, xw_al, xw_ck, xw_uI, xw_ur, xup_at, xur_at, if_true, if_false, reduceIte, and_true, true_and, and_false, false_and, not_true_eq_false, not_false_eq_true, Nat.reduceEqDiff, eq_self, Nat.reduceAdd, Nat.reduceMul, kC1, kG1, kP1, kR1_0, kR1_1, kR1_2, kR1_3, kR1_4, kR1_5, kR1_6, kR1_7, kR1_8, kR1_9, kR1_10, kR1_11, kR1_12, kR1_13, kC2, kG2, kP2, kR2_0, kR2_1, kC3, kG3, kP3, kR3_0, kR3_1, kR3_2, kR3_3, kL4, kA4, kS4, kL5, kA5, kS5, kL6, kA6, kS6, kL7, kA7, kS7, kC8, kG8, kP8, kR8_0, kR8_1, kL9, kA9, kS9, kL10, kA10, kS10, kC11, kG11, kP11, kR11_0, kR11_1, kR11_2, kR11_3, kL12, kA12, kS12, kL13, kA13, kS13, kL14, kA14, kS14, kL15, kA15, kS15, kC16, kG16, kP16, kR16_0, kR16_1, kL17, kA17, kS17, kL18, kA18, kS18, kC19, kG19, kP19, kR19_0, kL20, kL141, kL146, kA146, kS146, kL151, kA151, kS151, kL156, kA156, kS156, kC157, kG157, kP157, kR157_0, kR157_1, kL158, kA158, kS158, kL159, kA159, kS159, kC161, kG161, kP161, kR161_0, kR161_1, kL162, kA162, kS162, kL163, kA163, kS163, kC165, kG165, kP165, kR165_0, kR165_1, kR165_2, kR165_3, kL166, kA166, kS166, kL167, kA167, kS167, kL168, kA168, kS168, kL169, kA169, kS169, kC170, kG170, kP170, kR170_0, kR170_1, kR170_2, kL171, kA171, kS171, kL172, kA172, kS172, kL173, kA173, kS173, kC174, kG174, kP174, kR174_0, kR174_1, kR174_2, kR174_3, kR174_4, kL175, kA175, kS175, kL176, kA176, kS176, kL177, kA177, kS177, kL178, kA178, kS178, kL179, kC180, kG180, kP180, kL181, kL182, kA182, kS182, kC183, kG183, kP183, kR183_1, kR183_3, kR183_5, kR183_6, kR183_7, kR183_8, kR183_9, kR183_21, kR183_26, kR183_27, kR183_30, kR183_31, kR183_33, kR183_34, kR183_36, kR183_37, kR183_38, kR183_39, kR183_40, kR183_41, kR183_42, kR183_43, kR183_44, kL184, kA184, kS184, kL185, kA185, kS185, kL186, kA186, kS186, kL187, kA187, kS187, kL188, kA188, kS188, kL189, kL190, kL191, kA191, kS191, kL192, kA192, kS192, kL193, kA193, kS193, kL194, kA194, kS194, kL195, kA195, kS195, kL196, kA196, kS196, kL197, kA197, kS197, kL198, kA198, kS198, kL199, kA199, kS199, kL200, kA200, kS200, kL201, kL202, kA202, kS202, kL203, kA203, kS203, kL204, kA204, kS204, kL205, kL206, kA206, kS206, states12_ok hS hG', nn_le, Nat.le_refl, e]
end LAKE2
theorem ct_inj {p q : Nat → Bool} {N N' : Nat} (φ : Nat → Nat) (h1 : ∀ x, x < N → p x = true → φ x < N' ∧ q (φ x) = true) (h2 : ∀ x y, x < N → y < N → p x = true → p y = true → φ x = φ y → x = y) : fb_ct p N ≤ fb_ct q N' := by
  have h : ∀ i, ∃ x, i < fb_ct p N → x < N ∧ p x = true ∧ fb_ct p x = i := by
    intro i
    by_cases z : i < fb_ct p N
    · obtain ⟨x, x1, x2, x3⟩ := fb_ct_kth z
      exact ⟨x, fun _ => ⟨x1, x2, x3⟩⟩
    · exact ⟨0, fun q => absurd q z⟩
  obtain ⟨e, h⟩ := Classical.axiomOfChoice h
  refine fb_holes (fb_ct q N') (fb_ct p N) (fun i => fb_ct q (φ (e i))) (fun i hi => ?_) (fun i j hij hj => ?_)
  · obtain ⟨a1, a2, a3⟩ := h i hi
    obtain ⟨b1, b2⟩ := h1 _ a1 a2
    exact ct_in b1 b2
  · obtain ⟨a1, a2, a3⟩ := h i (by omega)
    obtain ⟨c1, c2, c3⟩ := h j hj
    intro z
    have := h2 _ _ a1 c1 a2 c2 (fb_ct_kth_one (h1 _ a1 a2).2 (h1 _ c1 c2).2 z)
    rw [this] at a3
    omega
theorem lakes_eq {g : GD} {F : Nat → Int32} {e : Int} {w : Nat → Bool} {r : Nat → Nat} (hw : ∀ s, w s = true ↔ lwS g F s ∧ eE g (zR F) s ≤ e) (h1 : ∀ s, w s = true → s < 1024 ∧ w (r s) = true) (h2 : ∀ a b, w a = true → w b = true → (r a = r b ↔ cn (Sw w (aj g F)) a b)) (h3 : ∀ s, w s = true → r (r s) = r s) : rc w r = fb_ct (mnC g F e) (gSt g) := by
  have c1 : ∀ a b, cn (Sw w (aj g F)) a b → cn (Se g F e) a b := fun a b h => cn_m (fun p q ⟨s1, s2, s3⟩ => ⟨(hw p).mp s1, (hw q).mp s2, s3⟩) h
  have c2 : ∀ a b, cn (Se g F e) a b → cn (Sw w (aj g F)) a b := fun a b h => cn_m (fun p q ⟨s1, s2, s3⟩ => ⟨(hw p).mpr s1, (hw q).mpr s2, s3⟩) h
  apply Nat.le_antisymm
  · have ex : ∀ x, ∃ y, (w x = true ∧ r x = x) → (w y = true ∧ r y = x ∧ ∀ z, z < y → ¬ (w z = true ∧ r z = x)) := by
      intro x
      by_cases z : w x = true ∧ r x = x
      · obtain ⟨y, y1, y2, y3⟩ := fb_first (p := fun y => w y = true ∧ r y = x) (n := x + 1) ⟨x, by omega, z⟩
        exact ⟨y, fun _ => ⟨y2.1, y2.2, y3⟩⟩
      · exact ⟨0, fun q => absurd q z⟩
    obtain ⟨φ, hφ⟩ := Classical.axiomOfChoice ex
    have sp : ∀ x, (w x && decide (r x = x)) = true → w x = true ∧ r x = x := fun x hx1 => by
      simpa using hx1
    refine ct_inj φ (fun x _ hx1 => ?_) (fun x y _ _ hx1 hy1 hxy => ?_)
    · obtain ⟨a1, a2, a3⟩ := hφ x (sp x hx1)
      have al := (hw _).mp a1
      refine ⟨al.1.1, mnC_iff.mpr ⟨al, fun z z1 z2 z3 => a3 z z1 ?_⟩⟩
      have wz := (hw z).mpr z2
      exact ⟨wz, ((h2 z _ wz a1).mpr (c2 _ _ z3)).trans a2⟩
    · obtain ⟨a1, a2, a3⟩ := hφ x (sp x hx1)
      obtain ⟨b1, b2, b3⟩ := hφ y (sp y hy1)
      rw [hxy, b2] at a2
      exact a2.symm
  · refine ct_inj r (fun y _ hy1 => ?_) (fun x y _ _ hx1 hy1 hxy => ?_)
    · have wy := (hw y).mpr (mnC_iff.mp hy1).1
      have a := h1 y wy
      refine ⟨(h1 _ a.2).1, ?_⟩
      rw [a.2, h3 y wy]; simp
    · obtain ⟨x1, x2⟩ := mnC_iff.mp hx1
      obtain ⟨y1, y2⟩ := mnC_iff.mp hy1
      have wx := (hw x).mpr x1
      have wy := (hw y).mpr y1
      have c := c1 _ _ ((h2 x y wx wy).mp hxy)
      rcases Nat.lt_trichotomy x y with z | z | z
      · exact absurd c (y2 x z x1)
      · exact z
      · exact absurd (cn_y Se_y c) (x2 y z y1)
theorem op_lakes : Op_lakes INV := by
  intro n σ hn ⟨g, gT, gP, st, H⟩ x
  have hS := H.shp
  have hG := H.grd
  have hg := hG.1
  have hSt := (gSt_b hg).1
  have sm := isSmall_ok (σ := σ) (I := xI σ) hS hG
  have s2 := sites_ok (σ := σ) (I := xI σ) hS hG
  have sm2 := small12 hS hG
  by_cases h10 : gSz g ≤ 10
  · rw [if_pos h10] at sm
    obtain ⟨τ, c, m, M, o, e1, H1, hT, hO, r1⟩ := terr_ready (by omega) H h10
    obtain ⟨F, hF⟩ : ∃ F, F = xI σ 191 := ⟨_, rfl⟩
    rw [← hF] at hT hO r1
    have ho := hT.2.2.1
    obtain ⟨J', r, w, e3, u3, w1, w2, w3, w4⟩ := lakesBelow_ok hT hO x
    obtain ⟨H3, hG3, r3, Q, e4, H4, hG4, K4, r4⟩ := terr_both H1 r1 u3
    have hS3 : Shp τ := H1.shp
    obtain ⟨J5, e5, u5⟩ := lakes12_ok (σ := τ) (J := Q) hS3 hG4 ho K4 hT.st x
    rw [lakes_eq w1 w2 w3 w4] at e3
    refine ⟨nI (fb_ct (mnC g F x.toInt) (gSt g)), xw τ J', xw τ J5, ?_, ?_, INV_i (IV.nop (H4.hills (fun a k h => u5 a k (by omega))))⟩
    · unfold f_X11_lakes
      show ((xck σ 1 11).bind fun _ => (f_X11_isSmall (xw σ (xI σ)) 1).bind _) = _
      rw [xck_ok (sT1 hS), Option.bind_some, sm, Option.bind_some, if_neg (by decide), Option.bind_some, e1, Option.bind_some]
      dsimp only
      rw [xnz_ok (by decide), Option.bind_some]
      unfold f_X11_lakes_j14
      rw [xck_ok (sT174 hS3), Option.bind_some]
      show ((f_X9_lakesBelow (xw τ (xI τ)) 174 x).bind _) = _
      rw [e3, Option.bind_some]
    · unfold f_X12_lakes
      simp (disch := first | assumption | omega) only [Option.bind_some, Option.map_some, xw_gR, xw_gN, xw_al, xw_ck, xw_uI, xw_ur, xup_at, xur_at, if_true, if_false, reduceIte, and_true, true_and, and_false, false_and, not_true_eq_false, not_false_eq_true, Nat.reduceEqDiff, eq_self, Nat.reduceAdd, Nat.reduceMul, kC1, kG1, kP1, kR1_0, kR1_1, kR1_2, kR1_3, kR1_4, kR1_5, kR1_6, kR1_7, kR1_8, kR1_9, kR1_10, kR1_11, kR1_12, kR1_13, kC2, kG2, kP2, kR2_0, kR2_1, kC3, kG3, kP3, kR3_0, kR3_1, kR3_2, kR3_3, kL4, kA4, kS4, kL5, kA5, kS5, kL6, kA6, kS6, kL7, kA7, kS7, kC8, kG8, kP8, kR8_0, kR8_1, kL9, kA9, kS9, kL10, kA10, kS10, kC11, kG11, kP11, kR11_0, kR11_1, kR11_2, kR11_3, kL12, kA12, kS12, kL13, kA13, kS13, kL14, kA14, kS14, kL15, kA15, kS15, kC16, kG16, kP16, kR16_0, kR16_1, kL17, kA17, kS17, kL18, kA18, kS18, kC19, kG19, kP19, kR19_0, kL20, kL141, kL146, kA146, kS146, kL151, kA151, kS151, kL156, kA156, kS156, kC157, kG157, kP157, kR157_0, kR157_1, kL158, kA158, kS158, kL159, kA159, kS159, kC161, kG161, kP161, kR161_0, kR161_1, kL162, kA162, kS162, kL163, kA163, kS163, kC165, kG165, kP165, kR165_0, kR165_1, kR165_2, kR165_3, kL166, kA166, kS166, kL167, kA167, kS167, kL168, kA168, kS168, kL169, kA169, kS169, kC170, kG170, kP170, kR170_0, kR170_1, kR170_2, kL171, kA171, kS171, kL172, kA172, kS172, kL173, kA173, kS173, kC174, kG174, kP174, kR174_0, kR174_1, kR174_2, kR174_3, kR174_4, kL175, kA175, kS175, kL176, kA176, kS176, kL177, kA177, kS177, kL178, kA178, kS178, kL179, kC180, kG180, kP180, kL181, kL182, kA182, kS182, kC183, kG183, kP183, kR183_1, kR183_3, kR183_5, kR183_6, kR183_7, kR183_8, kR183_9, kR183_21, kR183_26, kR183_27, kR183_30, kR183_31, kR183_33, kR183_34, kR183_36, kR183_37, kR183_38, kR183_39, kR183_40, kR183_41, kR183_42, kR183_43, kR183_44, kL184, kA184, kS184, kL185, kA185, kS185, kL186, kA186, kS186, kL187, kA187, kS187, kL188, kA188, kS188, kL189, kL190, kL191, kA191, kS191, kL192, kA192, kS192, kL193, kA193, kS193, kL194, kA194, kS194, kL195, kA195, kS195, kL196, kA196, kS196, kL197, kA197, kS197, kL198, kA198, kS198, kL199, kA199, kS199, kL200, kA200, kS200, kL201, kL202, kA202, kS202, kL203, kA203, kS203, kL204, kA204, kS204, kL205, kL206, kA206, kS206, sites_ok hS3 hG3, sm2, h10, e4]
      exact e5
  · rw [if_neg h10] at sm
    refine ⟨-100000, σ, σ, ?_, ?_, INV_i H.nop⟩
    · show f_X11_lakes (xw σ (xI σ)) 1 x = _
      unfold f_X11_lakes
      simp (disch := first | assumption | omega) only [Option.bind_some, Option.map_some, xw_gR, xw_gN, xw_al, xw_ck, xw_uI, xw_ur, xup_at, xur_at, if_true, if_false, reduceIte, and_true, true_and, and_false, false_and, not_true_eq_false, not_false_eq_true, Nat.reduceEqDiff, eq_self, Nat.reduceAdd, Nat.reduceMul, kC1, kG1, kP1, kR1_0, kR1_1, kR1_2, kR1_3, kR1_4, kR1_5, kR1_6, kR1_7, kR1_8, kR1_9, kR1_10, kR1_11, kR1_12, kR1_13, kC2, kG2, kP2, kR2_0, kR2_1, kC3, kG3, kP3, kR3_0, kR3_1, kR3_2, kR3_3, kL4, kA4, kS4, kL5, kA5, kS5, kL6, kA6, kS6, kL7, kA7, kS7, kC8, kG8, kP8, kR8_0, kR8_1, kL9, kA9, kS9, kL10, kA10, kS10, kC11, kG11, kP11, kR11_0, kR11_1, kR11_2, kR11_3, kL12, kA12, kS12, kL13, kA13, kS13, kL14, kA14, kS14, kL15, kA15, kS15, kC16, kG16, kP16, kR16_0, kR16_1, kL17, kA17, kS17, kL18, kA18, kS18, kC19, kG19, kP19, kR19_0, kL20, kL141, kL146, kA146, kS146, kL151, kA151, kS151, kL156, kA156, kS156, kC157, kG157, kP157, kR157_0, kR157_1, kL158, kA158, kS158, kL159, kA159, kS159, kC161, kG161, kP161, kR161_0, kR161_1, kL162, kA162, kS162, kL163, kA163, kS163, kC165, kG165, kP165, kR165_0, kR165_1, kR165_2, kR165_3, kL166, kA166, kS166, kL167, kA167, kS167, kL168, kA168, kS168, kL169, kA169, kS169, kC170, kG170, kP170, kR170_0, kR170_1, kR170_2, kL171, kA171, kS171, kL172, kA172, kS172, kL173, kA173, kS173, kC174, kG174, kP174, kR174_0, kR174_1, kR174_2, kR174_3, kR174_4, kL175, kA175, kS175, kL176, kA176, kS176, kL177, kA177, kS177, kL178, kA178, kS178, kL179, kC180, kG180, kP180, kL181, kL182, kA182, kS182, kC183, kG183, kP183, kR183_1, kR183_3, kR183_5, kR183_6, kR183_7, kR183_8, kR183_9, kR183_21, kR183_26, kR183_27, kR183_30, kR183_31, kR183_33, kR183_34, kR183_36, kR183_37, kR183_38, kR183_39, kR183_40, kR183_41, kR183_42, kR183_43, kR183_44, kL184, kA184, kS184, kL185, kA185, kS185, kL186, kA186, kS186, kL187, kA187, kS187, kL188, kA188, kS188, kL189, kL190, kL191, kA191, kS191, kL192, kA192, kS192, kL193, kA193, kS193, kL194, kA194, kS194, kL195, kA195, kS195, kL196, kA196, kS196, kL197, kA197, kS197, kL198, kA198, kS198, kL199, kA199, kS199, kL200, kA200, kS200, kL201, kL202, kA202, kS202, kL203, kA203, kS203, kL204, kA204, kS204, kL205, kL206, kA206, kS206, sm]
      rfl
    · show f_X12_lakes (xw σ (xI σ)) 183 x = _
      unfold f_X12_lakes
      simp (disch := first | assumption | omega) only [Option.bind_some, Option.map_some, xw_gR, xw_gN, xw_al, xw_ck, xw_uI, xw_ur, xup_at, xur_at, if_true, if_false, reduceIte, and_true, true_and, and_false, false_and, not_true_eq_false, not_false_eq_true, Nat.reduceEqDiff, eq_self, Nat.reduceAdd, Nat.reduceMul, kC1, kG1, kP1, kR1_0, kR1_1, kR1_2, kR1_3, kR1_4, kR1_5, kR1_6, kR1_7, kR1_8, kR1_9, kR1_10, kR1_11, kR1_12, kR1_13, kC2, kG2, kP2, kR2_0, kR2_1, kC3, kG3, kP3, kR3_0, kR3_1, kR3_2, kR3_3, kL4, kA4, kS4, kL5, kA5, kS5, kL6, kA6, kS6, kL7, kA7, kS7, kC8, kG8, kP8, kR8_0, kR8_1, kL9, kA9, kS9, kL10, kA10, kS10, kC11, kG11, kP11, kR11_0, kR11_1, kR11_2, kR11_3, kL12, kA12, kS12, kL13, kA13, kS13, kL14, kA14, kS14, kL15, kA15, kS15, kC16, kG16, kP16, kR16_0, kR16_1, kL17, kA17, kS17, kL18, kA18, kS18, kC19, kG19, kP19, kR19_0, kL20, kL141, kL146, kA146, kS146, kL151, kA151, kS151, kL156, kA156, kS156, kC157, kG157, kP157, kR157_0, kR157_1, kL158, kA158, kS158, kL159, kA159, kS159, kC161, kG161, kP161, kR161_0, kR161_1, kL162, kA162, kS162, kL163, kA163, kS163, kC165, kG165, kP165, kR165_0, kR165_1, kR165_2, kR165_3, kL166, kA166, kS166, kL167, kA167, kS167, kL168, kA168, kS168, kL169, kA169, kS169, kC170, kG170, kP170, kR170_0, kR170_1, kR170_2, kL171, kA171, kS171, kL172, kA172, kS172, kL173, kA173, kS173, kC174, kG174, kP174, kR174_0, kR174_1, kR174_2, kR174_3, kR174_4, kL175, kA175, kS175, kL176, kA176, kS176, kL177, kA177, kS177, kL178, kA178, kS178, kL179, kC180, kG180, kP180, kL181, kL182, kA182, kS182, kC183, kG183, kP183, kR183_1, kR183_3, kR183_5, kR183_6, kR183_7, kR183_8, kR183_9, kR183_21, kR183_26, kR183_27, kR183_30, kR183_31, kR183_33, kR183_34, kR183_36, kR183_37, kR183_38, kR183_39, kR183_40, kR183_41, kR183_42, kR183_43, kR183_44, kL184, kA184, kS184, kL185, kA185, kS185, kL186, kA186, kS186, kL187, kA187, kS187, kL188, kA188, kS188, kL189, kL190, kL191, kA191, kS191, kL192, kA192, kS192, kL193, kA193, kS193, kL194, kA194, kS194, kL195, kA195, kS195, kL196, kA196, kS196, kL197, kA197, kS197, kL198, kA198, kS198, kL199, kA199, kS199, kL200, kA200, kS200, kL201, kL202, kA202, kS202, kL203, kA203, kS203, kL204, kA204, kS204, kL205, kL206, kA206, kS206, s2, sm2, h10]
      rfl
end
section
/-! the text, cut into tokens: what both sides must find -/
def isBl (x : Int32) : Bool := decide (x = 9) || decide (x = 10) || decide (x = 13) || decide (x = 32)
def isLt (x : Int32) : Bool := !(decide (x < 97) || decide (122 < x))
def isDg (x : Int32) : Bool := !(decide (x < 48) || decide (57 < x))
/-- the first place from p on that isn't of a kind; the text's end -/
def nxP (q : Int32 → Bool) (b : Nat → Int32) (m p : Nat) : Nat := p + fa_first (fun k => !q (b (p + k))) (m - p)
section NXT
variable {q : Int32 → Bool} {b : Nat → Int32} {m p : Nat}
theorem nxP_ge : p ≤ nxP q b m p := Nat.le_add_right _ _
theorem nxP_le (h : p ≤ m) : nxP q b m p ≤ m := by
  have := fa_first_le (fun k => !q (b (p + k))) (m - p)
  unfold nxP; omega
theorem nxP_in {k : Nat} (h1 : p ≤ k) (h2 : k < nxP q b m p) : q (b k) = true := by
  have := fa_first_no (fun k => !q (b (p + k))) (m - p) (k - p) (by unfold nxP at h2; omega)
  rw [show p + (k - p) = k by omega] at this
  simpa using this
theorem nxP_out (h : nxP q b m p < m) : q (b (nxP q b m p)) = false := by
  have := fa_first_yes (fun k => !q (b (p + k))) (m - p) (by unfold nxP at h; omega)
  unfold nxP
  simpa using this
theorem nxP_one {e : Nat} (h1 : p ≤ e) (h2 : e ≤ m) (h3 : ∀ k, p ≤ k → k < e → q (b k) = true) (h4 : e < m → q (b e) = false) : nxP q b m p = e := by
  rcases Nat.lt_trichotomy (nxP q b m p) e with z | z | z
  · have a := h3 _ nxP_ge z
    rw [nxP_out (q := q) (b := b) (m := m) (p := p) (by omega)] at a; cases a
  · exact z
  · have a := nxP_in (q := q) (b := b) (m := m) h1 z
    have l := nxP_le (q := q) (b := b) (show p ≤ m by omega)
    rw [h4 (by omega)] at a; cases a
theorem nxP_step (h : p < m) (hq : q (b p) = true) : nxP q b m (p + 1) = nxP q b m p := by
  symm
  refine nxP_one (by have := nxP_ge (q := q) (b := b) (m := m) (p := p + 1); omega) (nxP_le (by omega)) (fun k h1 h2 => ?_) nxP_out
  by_cases z : k = p
  · rw [z]; exact hq
  · exact nxP_in (show p + 1 ≤ k by omega) h2
end NXT
/-- the letters as digits from 1 to 26; a word as a number -/
def lt1 (x : Int32) : Nat := x.toInt.toNat - 96
def wdN (b : Nat → Int32) (s : Nat) : Nat → Nat
  | 0 => 0
  | n + 1 => 27 * wdN b s n + lt1 (b (s + n))
def wdC (w : Nat → Nat) : Nat → Nat
  | 0 => 0
  | n + 1 => 27 * wdC w n + w n
theorem isLt_b {x : Int32} (h : isLt x = true) : 97 ≤ x.toInt ∧ x.toInt ≤ 122 := by
  unfold isLt at h
  simp only [Bool.not_eq_true', Bool.or_eq_false_iff, decide_eq_false_iff_not] at h
  rw [fa_lt, fa_lt] at h
  have e1 : (97 : Int32).toInt = 97 := by decide
  have e2 : (122 : Int32).toInt = 122 := by decide
  omega
theorem isDg_b {x : Int32} (h : isDg x = true) : 48 ≤ x.toInt ∧ x.toInt ≤ 57 := by
  unfold isDg at h
  simp only [Bool.not_eq_true', Bool.or_eq_false_iff, decide_eq_false_iff_not] at h
  rw [fa_lt, fa_lt] at h
  have e1 : (48 : Int32).toInt = 48 := by decide
  have e2 : (57 : Int32).toInt = 57 := by decide
  omega
theorem wd_inj {b : Nat → Int32} {s : Nat} {w : Nat → Nat} : ∀ n k, (∀ i, i < n → 1 ≤ lt1 (b (s + i)) ∧ lt1 (b (s + i)) ≤ 26) → (∀ i, i < k → 1 ≤ w i ∧ w i ≤ 26) → (wdN b s n = wdC w k ↔ n = k ∧ ∀ i, i < n → lt1 (b (s + i)) = w i)
  | 0, 0, _, _ => ⟨fun _ => ⟨rfl, fun i hi => by omega⟩, fun _ => rfl⟩
  | 0, k + 1, _, hw => by
    have := hw k (by omega)
    constructor
    · intro h
      have h' : 0 = 27 * wdC w k + w k := h
      omega
    · intro h; omega
  | n + 1, 0, hb, _ => by
    have := hb n (by omega)
    constructor
    · intro h
      have h' : 27 * wdN b s n + lt1 (b (s + n)) = 0 := h
      omega
    · intro h; omega
  | n + 1, k + 1, hb, hw => by
    have ih := wd_inj (b := b) (s := s) (w := w) n k (fun i hi => hb i (by omega)) (fun i hi => hw i (by omega))
    have h1 := hb n (by omega)
    have h2 := hw k (by omega)
    show 27 * wdN b s n + lt1 (b (s + n)) = 27 * wdC w k + w k ↔ _
    constructor
    · intro h
      have e1 : wdN b s n = wdC w k := by omega
      have e2 : lt1 (b (s + n)) = w k := by omega
      obtain ⟨z1, z2⟩ := ih.mp e1
      refine ⟨by omega, fun i hi => ?_⟩
      by_cases z : i = n
      · rw [z, e2, z1]
      · exact z2 i (by omega)
    · rintro ⟨z1, z2⟩
      have z1' : n = k := by omega
      have e1 := ih.mpr ⟨z1', fun i hi => z2 i (by omega)⟩
      have e2 := z2 n (by omega)
      rw [e1, e2, z1']
theorem wdN_b {b : Nat → Int32} {s : Nat} : ∀ n, (∀ i, i < n → lt1 (b (s + i)) ≤ 26) → wdN b s n < 27 ^ n
  | 0, _ => by show 0 < 1; omega
  | n + 1, h => by
    have ih := wdN_b n (fun i hi => h i (by omega))
    have h1 := h n (by omega)
    show 27 * wdN b s n + lt1 (b (s + n)) < 27 ^ (n + 1)
    rw [Nat.pow_succ]
    omega
/-- the eleven words -/
def wdL : List (List Nat) := [[19, 20, 18, 9, 16], [1, 3, 18, 15, 19, 19], [1, 12, 15, 14, 7], [6, 9, 5, 12, 4], [18, 9, 14, 7], [20, 9, 5], [16, 21, 12, 12], [16, 9, 14], [21, 16], [4, 15, 23, 14], [19, 5, 5, 4]]
def wdW (j i : Nat) : Nat := (wdL.getD j []).getD i 0
theorem wd_tab : ∀ j, j < 11 → (wdL.getD j []).length = xsl.getD j 0 ∧ kyW.getD j 0 = wdC (wdW j) (xsl.getD j 0) ∧ xsl.getD j 0 ≤ 6 ∧ 1 ≤ xsl.getD j 0 ∧ (∀ i, i < xsl.getD j 0 → 1 ≤ wdW j i ∧ wdW j i ≤ 26 ∧ (xsb.getD j []).getD i 0 = nI (96 + wdW j i)) := by decide +kernel
def wdM (b : Nat → Int32) (s n j : Nat) : Bool := decide (n = xsl.getD j 0) && (List.range n).all (fun i => decide (lt1 (b (s + i)) = wdW j i))
theorem wdM_iff {b : Nat → Int32} {s n j : Nat} (hj : j < 11) (hb : ∀ i, i < n → isLt (b (s + i)) = true) : wdM b s n j = true ↔ wdN b s n = kyW.getD j 0 := by
  obtain ⟨t1, t2, t3, t4, t5⟩ := wd_tab j hj
  have hb' : ∀ i, i < n → 1 ≤ lt1 (b (s + i)) ∧ lt1 (b (s + i)) ≤ 26 := fun i hi => by
    have := isLt_b (hb i hi)
    unfold lt1; omega
  rw [t2, wd_inj n _ hb' (fun i hi => ⟨(t5 i hi).1, (t5 i hi).2.1⟩)]
  unfold wdM
  rw [Bool.and_eq_true, decide_eq_true_eq, List.all_eq_true]
  constructor
  · rintro ⟨h1, h2⟩
    exact ⟨h1, fun i hi => of_decide_eq_true (h2 i (List.mem_range.mpr hi))⟩
  · rintro ⟨h1, h2⟩
    exact ⟨h1, fun i hi => decide_eq_true (h2 i (List.mem_range.mp hi))⟩
theorem ky_one : ∀ i, i < 11 → ∀ j, j < 11 → kyW.getD i 0 = kyW.getD j 0 → i = j := by decide +kernel
/-- the kind of a word, in the class's numbers: the first that matches -/
def wkF (p : Nat → Bool) : Nat → Nat
  | 0 => 1
  | k + 1 => if p (10 - k) then 5 + (10 - k) else wkF p k
def wdK (b : Nat → Int32) (s n : Nat) : Nat := wkF (wdM b s n) 11
def nuV (b : Nat → Int32) (s : Nat) : Nat → Nat
  | 0 => 0
  | n + 1 => 10 * nuV b s n + ((b (s + n)).toInt.toNat - 48)
theorem nuV_b {b : Nat → Int32} {s : Nat} : ∀ n, (∀ i, i < n → isDg (b (s + i)) = true) → nuV b s n < 10 ^ n
  | 0, _ => by show 0 < 1; omega
  | n + 1, h => by
    have ih := nuV_b n (fun i hi => h i (by omega))
    have h1 := isDg_b (h n (by omega))
    show 10 * nuV b s n + ((b (s + n)).toInt.toNat - 48) < 10 ^ (n + 1)
    rw [Nat.pow_succ]
    omega
/-- the token at a place -/
def tS0 (b : Nat → Int32) (m p : Nat) : Nat := nxP isBl b m p
def tE0 (b : Nat → Int32) (m s : Nat) : Nat := if m ≤ s then m else if isLt (b s) then nxP isLt b m s else if isDg (b s) then nxP isDg b m s else s + 1
def tK0 (b : Nat → Int32) (m s : Nat) : Nat := if m ≤ s then 0 else if isLt (b s) then wdK b s (nxP isLt b m s - s) else if isDg (b s) then (if nxP isDg b m s - s ≤ 4 then 2 else 1) else if b s = 45 then 3 else if b s = 59 then 4 else 1
def tN0 (b : Nat → Int32) (m s : Nat) : Nat := nuV b s (nxP isDg b m s - s)
/-- the tokens, one behind another: where each is looked for -/
def tPo (b : Nat → Int32) (m : Nat) : Nat → Nat
  | 0 => 0
  | i + 1 => tE0 b m (tS0 b m (tPo b m i))
def tSt (b : Nat → Int32) (m i : Nat) : Nat := tS0 b m (tPo b m i)
def tKd (b : Nat → Int32) (m i : Nat) : Nat := tK0 b m (tSt b m i)
def tNu (b : Nat → Int32) (m i : Nat) : Nat := tN0 b m (tSt b m i)
section TOK
variable {b : Nat → Int32} {m : Nat}
theorem tE0_b {s : Nat} (h : s ≤ m) : s ≤ tE0 b m s ∧ tE0 b m s ≤ m ∧ (s < m → s < tE0 b m s) := by
  unfold tE0
  split
  · omega
  · next z =>
    split
    · next y =>
      have h1 := nxP_le (q := isLt) (b := b) h
      have h2 := nxP_ge (q := isLt) (b := b) (m := m) (p := s + 1)
      rw [nxP_step (by omega) y] at h2
      omega
    · split
      · next y =>
        have h1 := nxP_le (q := isDg) (b := b) h
        have h2 := nxP_ge (q := isDg) (b := b) (m := m) (p := s + 1)
        rw [nxP_step (by omega) y] at h2
        omega
      · omega
theorem tPo_b : ∀ i, tPo b m i ≤ m
  | 0 => Nat.zero_le _
  | i + 1 => (tE0_b (nxP_le (tPo_b i))).2.1
theorem tSt_b (i : Nat) : tPo b m i ≤ tSt b m i ∧ tSt b m i ≤ m := ⟨nxP_ge, nxP_le (tPo_b i)⟩
theorem tPo_s (i : Nat) : tPo b m (i + 1) = tE0 b m (tSt b m i) := rfl
theorem wkF_b (p : Nat → Bool) : ∀ k, k ≤ 11 → 1 ≤ wkF p k ∧ wkF p k ≤ 15
  | 0, _ => by show 1 ≤ 1 ∧ 1 ≤ 15; omega
  | k + 1, h => by
    have := wkF_b p k (by omega)
    rw [wkF]
    split <;> omega
theorem tKd_b (i : Nat) : tKd b m i ≤ 15 := by
  unfold tKd tK0 wdK
  have := wkF_b (wdM b (tSt b m i) (nxP isLt b m (tSt b m i) - tSt b m i)) 11 (by omega)
  split
  · omega
  · split
    · omega
    · split
      · split <;> omega
      · split
        · omega
        · split <;> omega
theorem tKd_0 (i : Nat) : tKd b m i = 0 ↔ tSt b m i = m := by
  have hb := (tSt_b (b := b) (m := m) i).2
  unfold tKd tK0 wdK
  have := wkF_b (wdM b (tSt b m i) (nxP isLt b m (tSt b m i) - tSt b m i)) 11 (by omega)
  split
  · next z => exact ⟨fun _ => by omega, fun _ => rfl⟩
  · next z =>
    constructor
    · intro h
      exfalso
      split at h
      · omega
      · split at h
        · split at h <;> omega
        · split at h
          · omega
          · split at h <;> omega
    · intro h; omega
/-- places grow -/
theorem tSt_lt {i : Nat} (h : tKd b m i ≠ 0) : tSt b m i < tSt b m (i + 1) := by
  have h1 : tSt b m i ≠ m := fun z => h ((tKd_0 i).mpr z)
  have h2 := tSt_b (b := b) (m := m) i
  have h3 := (tE0_b (b := b) h2.2).2.2 (by omega)
  have h4 := (tSt_b (b := b) (m := m) (i + 1)).1
  rw [tPo_s] at h4
  omega
theorem tSt_mono {i j : Nat} (hij : i < j) (h : ∀ k, i ≤ k → k < j → tKd b m k ≠ 0) : tSt b m i < tSt b m j := by
  induction j with
  | zero => omega
  | succ j ih =>
    have h1 := tSt_lt (b := b) (m := m) (h j (by omega) (by omega))
    by_cases z : i = j
    · rw [z]; exact h1
    · have := ih (by omega) (fun k a c => h k a (by omega))
      omega
theorem tNu_b {i : Nat} (h : tKd b m i = 2) : tNu b m i < 10000 := by
  have hb := tSt_b (b := b) (m := m) i
  unfold tKd tK0 wdK at h
  have hw := wkF_b (wdM b (tSt b m i) (nxP isLt b m (tSt b m i) - tSt b m i)) 11 (by omega)
  unfold tNu tN0
  split at h
  · cases h
  · next z =>
    split at h
    · exfalso
      have h2 : ∀ p k, k ≤ 11 → wkF p k ≠ 2 := by
        intro p k
        induction k with
        | zero => intro _ q; cases q
        | succ k ih =>
          intro hk q
          rw [wkF] at q
          split at q
          · omega
          · exact ih (by omega) q
      exact h2 _ 11 (by omega) h
    · split at h
      · next y =>
        split at h
        · next v =>
          have h1 := nuV_b (b := b) (s := tSt b m i) (nxP isDg b m (tSt b m i) - tSt b m i) (fun k hk => nxP_in (m := m) (p := tSt b m i) (by omega) (by omega))
          have h2 : 10 ^ (nxP isDg b m (tSt b m i) - tSt b m i) ≤ 10 ^ 4 := Nat.pow_le_pow_right (by decide) v
          omega
        · cases h
      · split at h
        · cases h
        · split at h <;> cases h
end TOK
end
section
/-! the class finds a token -/
theorem xup2 {I : Nat → Nat → Int32} {a j : Nat} {v v' : Int32} : xup (xup I a j v) a j v' = xup I a j v' := by
  funext c k
  simp only [xup_at]
  by_cases z : c = a ∧ k = j
  · rw [if_pos z, if_pos z]
  · rw [if_neg z, if_neg z, if_neg z]
theorem bl8_ok (x : Int32) : f_X8_isBlank x = some (if isBl x then 1 else 0) := by
  unfold f_X8_isBlank isBl
  by_cases h1 : x = 9
  · simp [h1]
  · by_cases h2 : x = 10
    · simp [h2]
    · by_cases h3 : x = 13
      · simp [h3]
      · by_cases h4 : x = 32
        · simp [h4]
        · simp [h1, h2, h3, h4]
theorem lt8_ok (x : Int32) : f_X8_isLetter x = some (if isLt x then 1 else 0) := by
  unfold f_X8_isLetter isLt
  by_cases h1 : x < 97
  · simp [h1]
  · by_cases h2 : 122 < x
    · simp [h1, h2]
    · simp [h1, h2]
theorem dg8_ok (x : Int32) : f_X8_isDigit x = some (if isDg x then 1 else 0) := by
  unfold f_X8_isDigit isDg
  by_cases h1 : x < 48
  · simp [h1]
  · by_cases h2 : 57 < x
    · simp [h1, h2]
    · simp [h1, h2]
theorem b10 (a : Bool) : ((if a = true then (1 : Int32) else 0) = 0) = (a = false) := by cases a <;> decide
section FIND
variable {σ : XS} {J : Nat → Nat → Int32} {m : Nat}
theorem byte8_ok (hS : Shp σ) (hm : m ≤ 2000) (h4 : J 3 4 = nI m) {k : Nat} (hk : k < m) : f_X8_byteAt (xw σ J) 3 (nI k) = some (J 4 k) := by
  unfold f_X8_byteAt
  have q1 : (nI m ≤ nI k) = False := by rw [nn_le (by omega) (by omega)]; exact eq_false (by omega)
  have q2 : (nI 2000 ≤ nI k) = False := by rw [nn_le (by omega) (by omega)]; exact eq_false (by omega)
  have k20 : k < 2000 := by omega
  rw [if_neg (nI_pos (by omega))]
  simp (disch := first | assumption | omega) only [Option.bind_some, Option.map_some, xw_gR, xw_gN, xw_al, xw_ck, xw_uI, xw_ur, xup_at, xur_at, if_true, if_false, reduceIte, and_true, true_and, and_false, false_and, not_true_eq_false, not_false_eq_true, Nat.reduceEqDiff, eq_self, Nat.reduceAdd, Nat.reduceMul, kC1, kG1, kP1, kR1_0, kR1_1, kR1_2, kR1_3, kR1_4, kR1_5, kR1_6, kR1_7, kR1_8, kR1_9, kR1_10, kR1_11, kR1_12, kR1_13, kC2, kG2, kP2, kR2_0, kR2_1, kC3, kG3, kP3, kR3_0, kR3_1, kR3_2, kR3_3, kL4, kA4, kS4, kL5, kA5, kS5, kL6, kA6, kS6, kL7, kA7, kS7, kC8, kG8, kP8, kR8_0, kR8_1, kL9, kA9, kS9, kL10, kA10, kS10, kC11, kG11, kP11, kR11_0, kR11_1, kR11_2, kR11_3, kL12, kA12, kS12, kL13, kA13, kS13, kL14, kA14, kS14, kL15, kA15, kS15, kC16, kG16, kP16, kR16_0, kR16_1, kL17, kA17, kS17, kL18, kA18, kS18, kC19, kG19, kP19, kR19_0, kL20, kL141, kL146, kA146, kS146, kL151, kA151, kS151, kL156, kA156, kS156, kC157, kG157, kP157, kR157_0, kR157_1, kL158, kA158, kS158, kL159, kA159, kS159, kC161, kG161, kP161, kR161_0, kR161_1, kL162, kA162, kS162, kL163, kA163, kS163, kC165, kG165, kP165, kR165_0, kR165_1, kR165_2, kR165_3, kL166, kA166, kS166, kL167, kA167, kS167, kL168, kA168, kS168, kL169, kA169, kS169, kC170, kG170, kP170, kR170_0, kR170_1, kR170_2, kL171, kA171, kS171, kL172, kA172, kS172, kL173, kA173, kS173, kC174, kG174, kP174, kR174_0, kR174_1, kR174_2, kR174_3, kR174_4, kL175, kA175, kS175, kL176, kA176, kS176, kL177, kA177, kS177, kL178, kA178, kS178, kL179, kC180, kG180, kP180, kL181, kL182, kA182, kS182, kC183, kG183, kP183, kR183_1, kR183_3, kR183_5, kR183_6, kR183_7, kR183_8, kR183_9, kR183_21, kR183_26, kR183_27, kR183_30, kR183_31, kR183_33, kR183_34, kR183_36, kR183_37, kR183_38, kR183_39, kR183_40, kR183_41, kR183_42, kR183_43, kR183_44, kL184, kA184, kS184, kL185, kA185, kS185, kL186, kA186, kS186, kL187, kA187, kS187, kL188, kA188, kS188, kL189, kL190, kL191, kA191, kS191, kL192, kA192, kS192, kL193, kA193, kS193, kL194, kA194, kS194, kL195, kA195, kS195, kL196, kA196, kS196, kL197, kA197, kS197, kL198, kA198, kS198, kL199, kA199, kS199, kL200, kA200, kS200, kL201, kL202, kA202, kS202, kL203, kA203, kS203, kL204, kA204, kS204, kL205, kL206, kA206, kS206, h4, q1, q2]
theorem skipL_ok (hS : Shp σ) (hm : m ≤ 2000) (h4 : J 3 4 = nI m) {p : Nat} (hp : p ≤ m) (h9 : J 3 9 = nI p) : f_X8_skipLetters (xw σ J) 3 = some (xw σ (xup J 3 9 (nI (nxP isLt (J 4) m p)))) := by
  have hge := nxP_ge (q := isLt) (b := J 4) (m := m) (p := p)
  have hle := nxP_le (q := isLt) (b := J 4) hp
  unfold f_X8_skipLetters
  have e0 : xup J 3 9 (nI p) = J := by
    funext c k
    rw [xup_at]
    by_cases z : c = 3 ∧ k = 9
    · rw [if_pos z, z.1, z.2]; exact h9.symm
    · rw [if_neg z]
  have ends : nI (p + (nxP isLt (J 4) m p - p)) = nI (nxP isLt (J 4) m p) := by congr 1; omega
  refine xforE (fun i : Nat => xw σ (xup J 3 9 (nI (p + i)))) (nxP isLt (J 4) m p - p) ?_ (fun i hi => ?_) ?_
  · show xw σ J = xw σ (xup J 3 9 (nI (p + 0)))
    rw [Nat.add_zero, e0]
  · have hb := byte8_ok (σ := σ) (J := xup J 3 9 (nI (p + i))) hS hm (by rw [xup_at, if_neg (by omega)]; exact h4) (show p + i < m by omega)
    have hr : xup J 3 9 (nI (p + i)) 4 (p + i) = J 4 (p + i) := by rw [xup_at, if_neg (by omega)]
    have hl : isLt (J 4 (p + i)) = true := nxP_in (q := isLt) (b := J 4) (m := m) (p := p) (by omega) (by omega)
    rw [hr] at hb
    have q1 : (nI m ≤ nI (p + i)) = False := by rw [nn_le (by omega) (by omega)]; exact eq_false (by omega)
    simp only [f_X8_skipLetters_b0]
    simp (disch := first | assumption | omega) only [Option.bind_some, Option.map_some, xw_gR, xw_gN, xw_al, xw_ck, xw_uI, xw_ur, xup_at, xur_at, if_true, if_false, reduceIte, and_true, true_and, and_false, false_and, not_true_eq_false, not_false_eq_true, Nat.reduceEqDiff, eq_self, Nat.reduceAdd, Nat.reduceMul, kC1, kG1, kP1, kR1_0, kR1_1, kR1_2, kR1_3, kR1_4, kR1_5, kR1_6, kR1_7, kR1_8, kR1_9, kR1_10, kR1_11, kR1_12, kR1_13, kC2, kG2, kP2, kR2_0, kR2_1, kC3, kG3, kP3, kR3_0, kR3_1, kR3_2, kR3_3, kL4, kA4, kS4, kL5, kA5, kS5, kL6, kA6, kS6, kL7, kA7, kS7, kC8, kG8, kP8, kR8_0, kR8_1, kL9, kA9, kS9, kL10, kA10, kS10, kC11, kG11, kP11, kR11_0, kR11_1, kR11_2, kR11_3, kL12, kA12, kS12, kL13, kA13, kS13, kL14, kA14, kS14, kL15, kA15, kS15, kC16, kG16, kP16, kR16_0, kR16_1, kL17, kA17, kS17, kL18, kA18, kS18, kC19, kG19, kP19, kR19_0, kL20, kL141, kL146, kA146, kS146, kL151, kA151, kS151, kL156, kA156, kS156, kC157, kG157, kP157, kR157_0, kR157_1, kL158, kA158, kS158, kL159, kA159, kS159, kC161, kG161, kP161, kR161_0, kR161_1, kL162, kA162, kS162, kL163, kA163, kS163, kC165, kG165, kP165, kR165_0, kR165_1, kR165_2, kR165_3, kL166, kA166, kS166, kL167, kA167, kS167, kL168, kA168, kS168, kL169, kA169, kS169, kC170, kG170, kP170, kR170_0, kR170_1, kR170_2, kL171, kA171, kS171, kL172, kA172, kS172, kL173, kA173, kS173, kC174, kG174, kP174, kR174_0, kR174_1, kR174_2, kR174_3, kR174_4, kL175, kA175, kS175, kL176, kA176, kS176, kL177, kA177, kS177, kL178, kA178, kS178, kL179, kC180, kG180, kP180, kL181, kL182, kA182, kS182, kC183, kG183, kP183, kR183_1, kR183_3, kR183_5, kR183_6, kR183_7, kR183_8, kR183_9, kR183_21, kR183_26, kR183_27, kR183_30, kR183_31, kR183_33, kR183_34, kR183_36, kR183_37, kR183_38, kR183_39, kR183_40, kR183_41, kR183_42, kR183_43, kR183_44, kL184, kA184, kS184, kL185, kA185, kS185, kL186, kA186, kS186, kL187, kA187, kS187, kL188, kA188, kS188, kL189, kL190, kL191, kA191, kS191, kL192, kA192, kS192, kL193, kA193, kS193, kL194, kA194, kS194, kL195, kA195, kS195, kL196, kA196, kS196, kL197, kA197, kS197, kL198, kA198, kS198, kL199, kA199, kS199, kL200, kA200, kS200, kL201, kL202, kA202, kS202, kL203, kA203, kS203, kL204, kA204, kS204, kL205, kL206, kA206, kS206, h4, q1, hb, lt8_ok, hl, one0]
    rw [← nI_succ, xup2]
    rfl
  · rw [ends]
    by_cases z : nxP isLt (J 4) m p = m
    · have q1 : (nI m ≤ nI (nxP isLt (J 4) m p)) = True := by rw [nn_le (by omega) (by omega)]; exact eq_true (by omega)
      simp only [f_X8_skipLetters_b0]
      simp (disch := first | assumption | omega) only [Option.bind_some, Option.map_some, xw_gR, xw_gN, xw_al, xw_ck, xw_uI, xw_ur, xup_at, xur_at, if_true, if_false, reduceIte, and_true, true_and, and_false, false_and, not_true_eq_false, not_false_eq_true, Nat.reduceEqDiff, eq_self, Nat.reduceAdd, Nat.reduceMul, kC1, kG1, kP1, kR1_0, kR1_1, kR1_2, kR1_3, kR1_4, kR1_5, kR1_6, kR1_7, kR1_8, kR1_9, kR1_10, kR1_11, kR1_12, kR1_13, kC2, kG2, kP2, kR2_0, kR2_1, kC3, kG3, kP3, kR3_0, kR3_1, kR3_2, kR3_3, kL4, kA4, kS4, kL5, kA5, kS5, kL6, kA6, kS6, kL7, kA7, kS7, kC8, kG8, kP8, kR8_0, kR8_1, kL9, kA9, kS9, kL10, kA10, kS10, kC11, kG11, kP11, kR11_0, kR11_1, kR11_2, kR11_3, kL12, kA12, kS12, kL13, kA13, kS13, kL14, kA14, kS14, kL15, kA15, kS15, kC16, kG16, kP16, kR16_0, kR16_1, kL17, kA17, kS17, kL18, kA18, kS18, kC19, kG19, kP19, kR19_0, kL20, kL141, kL146, kA146, kS146, kL151, kA151, kS151, kL156, kA156, kS156, kC157, kG157, kP157, kR157_0, kR157_1, kL158, kA158, kS158, kL159, kA159, kS159, kC161, kG161, kP161, kR161_0, kR161_1, kL162, kA162, kS162, kL163, kA163, kS163, kC165, kG165, kP165, kR165_0, kR165_1, kR165_2, kR165_3, kL166, kA166, kS166, kL167, kA167, kS167, kL168, kA168, kS168, kL169, kA169, kS169, kC170, kG170, kP170, kR170_0, kR170_1, kR170_2, kL171, kA171, kS171, kL172, kA172, kS172, kL173, kA173, kS173, kC174, kG174, kP174, kR174_0, kR174_1, kR174_2, kR174_3, kR174_4, kL175, kA175, kS175, kL176, kA176, kS176, kL177, kA177, kS177, kL178, kA178, kS178, kL179, kC180, kG180, kP180, kL181, kL182, kA182, kS182, kC183, kG183, kP183, kR183_1, kR183_3, kR183_5, kR183_6, kR183_7, kR183_8, kR183_9, kR183_21, kR183_26, kR183_27, kR183_30, kR183_31, kR183_33, kR183_34, kR183_36, kR183_37, kR183_38, kR183_39, kR183_40, kR183_41, kR183_42, kR183_43, kR183_44, kL184, kA184, kS184, kL185, kA185, kS185, kL186, kA186, kS186, kL187, kA187, kS187, kL188, kA188, kS188, kL189, kL190, kL191, kA191, kS191, kL192, kA192, kS192, kL193, kA193, kS193, kL194, kA194, kS194, kL195, kA195, kS195, kL196, kA196, kS196, kL197, kA197, kS197, kL198, kA198, kS198, kL199, kA199, kS199, kL200, kA200, kS200, kL201, kL202, kA202, kS202, kL203, kA203, kS203, kL204, kA204, kS204, kL205, kL206, kA206, kS206, h4, q1]
    · have hb := byte8_ok (σ := σ) (J := xup J 3 9 (nI (nxP isLt (J 4) m p))) hS hm (by rw [xup_at, if_neg (by omega)]; exact h4) (show nxP isLt (J 4) m p < m by omega)
      have hr : xup J 3 9 (nI (nxP isLt (J 4) m p)) 4 (nxP isLt (J 4) m p) = J 4 (nxP isLt (J 4) m p) := by rw [xup_at, if_neg (by omega)]
      have hl : isLt (J 4 (nxP isLt (J 4) m p)) = false := nxP_out (by omega)
      rw [hr] at hb
      have q1 : (nI m ≤ nI (nxP isLt (J 4) m p)) = False := by rw [nn_le (by omega) (by omega)]; exact eq_false (by omega)
      simp only [f_X8_skipLetters_b0]
      simp (disch := first | assumption | omega) only [Option.bind_some, Option.map_some, xw_gR, xw_gN, xw_al, xw_ck, xw_uI, xw_ur, xup_at, xur_at, if_true, if_false, reduceIte, and_true, true_and, and_false, false_and, not_true_eq_false, not_false_eq_true, Nat.reduceEqDiff, eq_self, Nat.reduceAdd, Nat.reduceMul, kC1, kG1, kP1, kR1_0, kR1_1, kR1_2, kR1_3, kR1_4, kR1_5, kR1_6, kR1_7, kR1_8, kR1_9, kR1_10, kR1_11, kR1_12, kR1_13, kC2, kG2, kP2, kR2_0, kR2_1, kC3, kG3, kP3, kR3_0, kR3_1, kR3_2, kR3_3, kL4, kA4, kS4, kL5, kA5, kS5, kL6, kA6, kS6, kL7, kA7, kS7, kC8, kG8, kP8, kR8_0, kR8_1, kL9, kA9, kS9, kL10, kA10, kS10, kC11, kG11, kP11, kR11_0, kR11_1, kR11_2, kR11_3, kL12, kA12, kS12, kL13, kA13, kS13, kL14, kA14, kS14, kL15, kA15, kS15, kC16, kG16, kP16, kR16_0, kR16_1, kL17, kA17, kS17, kL18, kA18, kS18, kC19, kG19, kP19, kR19_0, kL20, kL141, kL146, kA146, kS146, kL151, kA151, kS151, kL156, kA156, kS156, kC157, kG157, kP157, kR157_0, kR157_1, kL158, kA158, kS158, kL159, kA159, kS159, kC161, kG161, kP161, kR161_0, kR161_1, kL162, kA162, kS162, kL163, kA163, kS163, kC165, kG165, kP165, kR165_0, kR165_1, kR165_2, kR165_3, kL166, kA166, kS166, kL167, kA167, kS167, kL168, kA168, kS168, kL169, kA169, kS169, kC170, kG170, kP170, kR170_0, kR170_1, kR170_2, kL171, kA171, kS171, kL172, kA172, kS172, kL173, kA173, kS173, kC174, kG174, kP174, kR174_0, kR174_1, kR174_2, kR174_3, kR174_4, kL175, kA175, kS175, kL176, kA176, kS176, kL177, kA177, kS177, kL178, kA178, kS178, kL179, kC180, kG180, kP180, kL181, kL182, kA182, kS182, kC183, kG183, kP183, kR183_1, kR183_3, kR183_5, kR183_6, kR183_7, kR183_8, kR183_9, kR183_21, kR183_26, kR183_27, kR183_30, kR183_31, kR183_33, kR183_34, kR183_36, kR183_37, kR183_38, kR183_39, kR183_40, kR183_41, kR183_42, kR183_43, kR183_44, kL184, kA184, kS184, kL185, kA185, kS185, kL186, kA186, kS186, kL187, kA187, kS187, kL188, kA188, kS188, kL189, kL190, kL191, kA191, kS191, kL192, kA192, kS192, kL193, kA193, kS193, kL194, kA194, kS194, kL195, kA195, kS195, kL196, kA196, kS196, kL197, kA197, kS197, kL198, kA198, kS198, kL199, kA199, kS199, kL200, kA200, kS200, kL201, kL202, kA202, kS202, kL203, kA203, kS203, kL204, kA204, kS204, kL205, kL206, kA206, kS206, h4, q1, hb, lt8_ok, hl, Bool.false_eq_true]
theorem spells_ok (hS : Shp σ) (hm : m ≤ 2000) (h4 : J 3 4 = nI m) {s e j : Nat} (hse : s ≤ e) (he : e ≤ m) (h8 : J 3 8 = nI s) (h9 : J 3 9 = nI e) (hl : ∀ k, s ≤ k → k < e → isLt (J 4 k) = true) (hj : j < 11) : f_X8_spells (xw σ J) 3 j = some (if wdM (J 4) s (e - s) j then 1 else 0) := by
  obtain ⟨t1, t2, t3, t4, t5⟩ := wd_tab j hj
  have hk : xsk j = some () := by unfold xsk; rw [if_pos hj]
  unfold f_X8_spells
  have q0 : (nI e - nI s = Int32.ofNat (xsl.getD j 0)) = (e - s = xsl.getD j 0) := by
    rw [nn_sub hse]
    exact nn_eq (by omega) (by omega)
  simp (disch := first | assumption | omega) only [Option.bind_some, Option.map_some, xw_gR, xw_gN, xw_al, xw_ck, xw_uI, xw_ur, xup_at, xur_at, if_true, if_false, reduceIte, and_true, true_and, and_false, false_and, not_true_eq_false, not_false_eq_true, Nat.reduceEqDiff, eq_self, Nat.reduceAdd, Nat.reduceMul, kC1, kG1, kP1, kR1_0, kR1_1, kR1_2, kR1_3, kR1_4, kR1_5, kR1_6, kR1_7, kR1_8, kR1_9, kR1_10, kR1_11, kR1_12, kR1_13, kC2, kG2, kP2, kR2_0, kR2_1, kC3, kG3, kP3, kR3_0, kR3_1, kR3_2, kR3_3, kL4, kA4, kS4, kL5, kA5, kS5, kL6, kA6, kS6, kL7, kA7, kS7, kC8, kG8, kP8, kR8_0, kR8_1, kL9, kA9, kS9, kL10, kA10, kS10, kC11, kG11, kP11, kR11_0, kR11_1, kR11_2, kR11_3, kL12, kA12, kS12, kL13, kA13, kS13, kL14, kA14, kS14, kL15, kA15, kS15, kC16, kG16, kP16, kR16_0, kR16_1, kL17, kA17, kS17, kL18, kA18, kS18, kC19, kG19, kP19, kR19_0, kL20, kL141, kL146, kA146, kS146, kL151, kA151, kS151, kL156, kA156, kS156, kC157, kG157, kP157, kR157_0, kR157_1, kL158, kA158, kS158, kL159, kA159, kS159, kC161, kG161, kP161, kR161_0, kR161_1, kL162, kA162, kS162, kL163, kA163, kS163, kC165, kG165, kP165, kR165_0, kR165_1, kR165_2, kR165_3, kL166, kA166, kS166, kL167, kA167, kS167, kL168, kA168, kS168, kL169, kA169, kS169, kC170, kG170, kP170, kR170_0, kR170_1, kR170_2, kL171, kA171, kS171, kL172, kA172, kS172, kL173, kA173, kS173, kC174, kG174, kP174, kR174_0, kR174_1, kR174_2, kR174_3, kR174_4, kL175, kA175, kS175, kL176, kA176, kS176, kL177, kA177, kS177, kL178, kA178, kS178, kL179, kC180, kG180, kP180, kL181, kL182, kA182, kS182, kC183, kG183, kP183, kR183_1, kR183_3, kR183_5, kR183_6, kR183_7, kR183_8, kR183_9, kR183_21, kR183_26, kR183_27, kR183_30, kR183_31, kR183_33, kR183_34, kR183_36, kR183_37, kR183_38, kR183_39, kR183_40, kR183_41, kR183_42, kR183_43, kR183_44, kL184, kA184, kS184, kL185, kA185, kS185, kL186, kA186, kS186, kL187, kA187, kS187, kL188, kA188, kS188, kL189, kL190, kL191, kA191, kS191, kL192, kA192, kS192, kL193, kA193, kS193, kL194, kA194, kS194, kL195, kA195, kS195, kL196, kA196, kS196, kL197, kA197, kS197, kL198, kA198, kS198, kL199, kA199, kS199, kL200, kA200, kS200, kL201, kL202, kA202, kS202, kL203, kA203, kS203, kL204, kA204, kS204, kL205, kL206, kA206, kS206, h9, h8, hk, q0]
  by_cases hlen : e - s = xsl.getD j 0
  · rw [if_pos hlen]
    have key := xallL (f := f_X8_spells_b20 (xw σ J) 3 j) (a0 := (0 : Int32)) (fun i : Nat => nI i) (xsl.getD j 0) (fun i => decide (lt1 (J 4 (s + i)) = wdW j i)) (bad := (0 : Int32)) (good := (1 : Int32)) rfl ?_ ?_ ?_
    · rw [key]
      unfold wdM
      rw [hlen, decide_eq_true rfl, Bool.true_and]
    · intro i hi hp
      have hb := byte8_ok (σ := σ) (J := J) hS hm h4 (show s + i < m by omega)
      have hc : xsc j (nI i) = some (nI (96 + wdW j i)) := by
        unfold xsc
        rw [nI_clamp (by omega), if_pos ⟨hj, fun z => z.elim (nI_pos (by omega)) (fun y => by omega)⟩, (t5 i hi).2.2]
      have hlt := isLt_b (hl (s + i) (by omega) (by omega))
      have e1 : J 4 (s + i) = nI (96 + wdW j i) := by
        have := of_decide_eq_true hp
        unfold lt1 at this
        rw [iI_n, iI_of (J 4 (s + i))]
        congr 1
        omega
      have q1 : (Int32.ofNat (xsl.getD j 0) ≤ nI i) = False := by
        have : (nI (xsl.getD j 0) ≤ nI i) = False := by rw [nn_le (by omega) (by omega)]; exact eq_false (by omega)
        exact this
      simp only [f_X8_spells_b20]
      simp (disch := first | assumption | omega) only [Option.bind_some, Option.map_some, xw_gR, xw_gN, xw_al, xw_ck, xw_uI, xw_ur, xup_at, xur_at, if_true, if_false, reduceIte, and_true, true_and, and_false, false_and, not_true_eq_false, not_false_eq_true, Nat.reduceEqDiff, eq_self, Nat.reduceAdd, Nat.reduceMul, kC1, kG1, kP1, kR1_0, kR1_1, kR1_2, kR1_3, kR1_4, kR1_5, kR1_6, kR1_7, kR1_8, kR1_9, kR1_10, kR1_11, kR1_12, kR1_13, kC2, kG2, kP2, kR2_0, kR2_1, kC3, kG3, kP3, kR3_0, kR3_1, kR3_2, kR3_3, kL4, kA4, kS4, kL5, kA5, kS5, kL6, kA6, kS6, kL7, kA7, kS7, kC8, kG8, kP8, kR8_0, kR8_1, kL9, kA9, kS9, kL10, kA10, kS10, kC11, kG11, kP11, kR11_0, kR11_1, kR11_2, kR11_3, kL12, kA12, kS12, kL13, kA13, kS13, kL14, kA14, kS14, kL15, kA15, kS15, kC16, kG16, kP16, kR16_0, kR16_1, kL17, kA17, kS17, kL18, kA18, kS18, kC19, kG19, kP19, kR19_0, kL20, kL141, kL146, kA146, kS146, kL151, kA151, kS151, kL156, kA156, kS156, kC157, kG157, kP157, kR157_0, kR157_1, kL158, kA158, kS158, kL159, kA159, kS159, kC161, kG161, kP161, kR161_0, kR161_1, kL162, kA162, kS162, kL163, kA163, kS163, kC165, kG165, kP165, kR165_0, kR165_1, kR165_2, kR165_3, kL166, kA166, kS166, kL167, kA167, kS167, kL168, kA168, kS168, kL169, kA169, kS169, kC170, kG170, kP170, kR170_0, kR170_1, kR170_2, kL171, kA171, kS171, kL172, kA172, kS172, kL173, kA173, kS173, kC174, kG174, kP174, kR174_0, kR174_1, kR174_2, kR174_3, kR174_4, kL175, kA175, kS175, kL176, kA176, kS176, kL177, kA177, kS177, kL178, kA178, kS178, kL179, kC180, kG180, kP180, kL181, kL182, kA182, kS182, kC183, kG183, kP183, kR183_1, kR183_3, kR183_5, kR183_6, kR183_7, kR183_8, kR183_9, kR183_21, kR183_26, kR183_27, kR183_30, kR183_31, kR183_33, kR183_34, kR183_36, kR183_37, kR183_38, kR183_39, kR183_40, kR183_41, kR183_42, kR183_43, kR183_44, kL184, kA184, kS184, kL185, kA185, kS185, kL186, kA186, kS186, kL187, kA187, kS187, kL188, kA188, kS188, kL189, kL190, kL191, kA191, kS191, kL192, kA192, kS192, kL193, kA193, kS193, kL194, kA194, kS194, kL195, kA195, kS195, kL196, kA196, kS196, kL197, kA197, kS197, kL198, kA198, kS198, kL199, kA199, kS199, kL200, kA200, kS200, kL201, kL202, kA202, kS202, kL203, kA203, kS203, kL204, kA204, kS204, kL205, kL206, kA206, kS206, hk, q1, h8, nn_add, hb, hc, e1]
      rw [nI_succ]
    · intro i hi hp
      have hb := byte8_ok (σ := σ) (J := J) hS hm h4 (show s + i < m by omega)
      have hc : xsc j (nI i) = some (nI (96 + wdW j i)) := by
        unfold xsc
        rw [nI_clamp (by omega), if_pos ⟨hj, fun z => z.elim (nI_pos (by omega)) (fun y => by omega)⟩, (t5 i hi).2.2]
      have hlt := isLt_b (hl (s + i) (by omega) (by omega))
      have h6 := (t5 i hi).2.1
      have e1 : (J 4 (s + i) = nI (96 + wdW j i)) = False := by
        apply eq_false
        intro z
        have hn := of_decide_eq_false hp
        apply hn
        unfold lt1
        rw [z, nI_toInt (by omega)]
        omega
      have q1 : (Int32.ofNat (xsl.getD j 0) ≤ nI i) = False := by
        have : (nI (xsl.getD j 0) ≤ nI i) = False := by rw [nn_le (by omega) (by omega)]; exact eq_false (by omega)
        exact this
      simp only [f_X8_spells_b20]
      simp (disch := first | assumption | omega) only [Option.bind_some, Option.map_some, xw_gR, xw_gN, xw_al, xw_ck, xw_uI, xw_ur, xup_at, xur_at, if_true, if_false, reduceIte, and_true, true_and, and_false, false_and, not_true_eq_false, not_false_eq_true, Nat.reduceEqDiff, eq_self, Nat.reduceAdd, Nat.reduceMul, kC1, kG1, kP1, kR1_0, kR1_1, kR1_2, kR1_3, kR1_4, kR1_5, kR1_6, kR1_7, kR1_8, kR1_9, kR1_10, kR1_11, kR1_12, kR1_13, kC2, kG2, kP2, kR2_0, kR2_1, kC3, kG3, kP3, kR3_0, kR3_1, kR3_2, kR3_3, kL4, kA4, kS4, kL5, kA5, kS5, kL6, kA6, kS6, kL7, kA7, kS7, kC8, kG8, kP8, kR8_0, kR8_1, kL9, kA9, kS9, kL10, kA10, kS10, kC11, kG11, kP11, kR11_0, kR11_1, kR11_2, kR11_3, kL12, kA12, kS12, kL13, kA13, kS13, kL14, kA14, kS14, kL15, kA15, kS15, kC16, kG16, kP16, kR16_0, kR16_1, kL17, kA17, kS17, kL18, kA18, kS18, kC19, kG19, kP19, kR19_0, kL20, kL141, kL146, kA146, kS146, kL151, kA151, kS151, kL156, kA156, kS156, kC157, kG157, kP157, kR157_0, kR157_1, kL158, kA158, kS158, kL159, kA159, kS159, kC161, kG161, kP161, kR161_0, kR161_1, kL162, kA162, kS162, kL163, kA163, kS163, kC165, kG165, kP165, kR165_0, kR165_1, kR165_2, kR165_3, kL166, kA166, kS166, kL167, kA167, kS167, kL168, kA168, kS168, kL169, kA169, kS169, kC170, kG170, kP170, kR170_0, kR170_1, kR170_2, kL171, kA171, kS171, kL172, kA172, kS172, kL173, kA173, kS173, kC174, kG174, kP174, kR174_0, kR174_1, kR174_2, kR174_3, kR174_4, kL175, kA175, kS175, kL176, kA176, kS176, kL177, kA177, kS177, kL178, kA178, kS178, kL179, kC180, kG180, kP180, kL181, kL182, kA182, kS182, kC183, kG183, kP183, kR183_1, kR183_3, kR183_5, kR183_6, kR183_7, kR183_8, kR183_9, kR183_21, kR183_26, kR183_27, kR183_30, kR183_31, kR183_33, kR183_34, kR183_36, kR183_37, kR183_38, kR183_39, kR183_40, kR183_41, kR183_42, kR183_43, kR183_44, kL184, kA184, kS184, kL185, kA185, kS185, kL186, kA186, kS186, kL187, kA187, kS187, kL188, kA188, kS188, kL189, kL190, kL191, kA191, kS191, kL192, kA192, kS192, kL193, kA193, kS193, kL194, kA194, kS194, kL195, kA195, kS195, kL196, kA196, kS196, kL197, kA197, kS197, kL198, kA198, kS198, kL199, kA199, kS199, kL200, kA200, kS200, kL201, kL202, kA202, kS202, kL203, kA203, kS203, kL204, kA204, kS204, kL205, kL206, kA206, kS206, hk, q1, h8, nn_add, hb, hc, e1]
    · have q1 : (Int32.ofNat (xsl.getD j 0) ≤ nI (xsl.getD j 0)) = True := by
        have : (nI (xsl.getD j 0) ≤ nI (xsl.getD j 0)) = True := by rw [nn_le (by omega) (by omega)]; exact eq_true (Nat.le_refl _)
        exact this
      simp only [f_X8_spells_b20]
      simp (disch := first | assumption | omega) only [Option.bind_some, Option.map_some, xw_gR, xw_gN, xw_al, xw_ck, xw_uI, xw_ur, xup_at, xur_at, if_true, if_false, reduceIte, and_true, true_and, and_false, false_and, not_true_eq_false, not_false_eq_true, Nat.reduceEqDiff, eq_self, Nat.reduceAdd, Nat.reduceMul, kC1, kG1, kP1, kR1_0, kR1_1, kR1_2, kR1_3, kR1_4, kR1_5, kR1_6, kR1_7, kR1_8, kR1_9, kR1_10, kR1_11, kR1_12, kR1_13, kC2, kG2, kP2, kR2_0, kR2_1, kC3, kG3, kP3, kR3_0, kR3_1, kR3_2, kR3_3, kL4, kA4, kS4, kL5, kA5, kS5, kL6, kA6, kS6, kL7, kA7, kS7, kC8, kG8, kP8, kR8_0, kR8_1, kL9, kA9, kS9, kL10, kA10, kS10, kC11, kG11, kP11, kR11_0, kR11_1, kR11_2, kR11_3, kL12, kA12, kS12, kL13, kA13, kS13, kL14, kA14, kS14, kL15, kA15, kS15, kC16, kG16, kP16, kR16_0, kR16_1, kL17, kA17, kS17, kL18, kA18, kS18, kC19, kG19, kP19, kR19_0, kL20, kL141, kL146, kA146, kS146, kL151, kA151, kS151, kL156, kA156, kS156, kC157, kG157, kP157, kR157_0, kR157_1, kL158, kA158, kS158, kL159, kA159, kS159, kC161, kG161, kP161, kR161_0, kR161_1, kL162, kA162, kS162, kL163, kA163, kS163, kC165, kG165, kP165, kR165_0, kR165_1, kR165_2, kR165_3, kL166, kA166, kS166, kL167, kA167, kS167, kL168, kA168, kS168, kL169, kA169, kS169, kC170, kG170, kP170, kR170_0, kR170_1, kR170_2, kL171, kA171, kS171, kL172, kA172, kS172, kL173, kA173, kS173, kC174, kG174, kP174, kR174_0, kR174_1, kR174_2, kR174_3, kR174_4, kL175, kA175, kS175, kL176, kA176, kS176, kL177, kA177, kS177, kL178, kA178, kS178, kL179, kC180, kG180, kP180, kL181, kL182, kA182, kS182, kC183, kG183, kP183, kR183_1, kR183_3, kR183_5, kR183_6, kR183_7, kR183_8, kR183_9, kR183_21, kR183_26, kR183_27, kR183_30, kR183_31, kR183_33, kR183_34, kR183_36, kR183_37, kR183_38, kR183_39, kR183_40, kR183_41, kR183_42, kR183_43, kR183_44, kL184, kA184, kS184, kL185, kA185, kS185, kL186, kA186, kS186, kL187, kA187, kS187, kL188, kA188, kS188, kL189, kL190, kL191, kA191, kS191, kL192, kA192, kS192, kL193, kA193, kS193, kL194, kA194, kS194, kL195, kA195, kS195, kL196, kA196, kS196, kL197, kA197, kS197, kL198, kA198, kS198, kL199, kA199, kS199, kL200, kA200, kS200, kL201, kL202, kA202, kS202, kL203, kA203, kS203, kL204, kA204, kS204, kL205, kL206, kA206, kS206, hk, q1]
  · rw [if_neg hlen]
    have : wdM (J 4) s (e - s) j = false := by
      unfold wdM
      rw [decide_eq_false hlen, Bool.false_and]
    rw [this]
    rfl
theorem wk_if (p : Nat → Bool) : wkF p 11 = if p 0 then 5 else if p 1 then 6 else if p 2 then 7 else if p 3 then 8 else if p 4 then 9 else if p 5 then 10 else if p 6 then 11 else if p 7 then 12 else if p 8 then 13 else if p 9 then 14 else if p 10 then 15 else 1 := rfl
theorem wk_step (hS : Shp σ) {j : Nat} {pj : Bool} (sp : f_X8_spells (xw σ J) 3 j = some (if pj then 1 else 0)) (A B : Option Int32) : ((xck (xw σ J) 3 8).bind fun _ => (f_X8_spells (xw σ J) 3 j).bind fun v => if v = 0 then A else B) = if pj = true then B else A := by
  rw [xw_ck, kC3 hS, Option.bind_some, sp, Option.bind_some]
  cases pj with
  | true => rfl
  | false => rfl
theorem wordKind_ok (hS : Shp σ) (hm : m ≤ 2000) (h4 : J 3 4 = nI m) {s e : Nat} (hse : s ≤ e) (he : e ≤ m) (h8 : J 3 8 = nI s) (h9 : J 3 9 = nI e) (hl : ∀ k, s ≤ k → k < e → isLt (J 4 k) = true) : f_X8_wordKind (xw σ J) 3 = some (nI (wdK (J 4) s (e - s))) := by
  have sp : ∀ j, j < 11 → f_X8_spells (xw σ J) 3 j = some (if wdM (J 4) s (e - s) j then 1 else 0) := fun j hj => spells_ok hS hm h4 hse he h8 h9 hl hj
  unfold wdK
  rw [wk_if]
  generalize wdM (J 4) s (e - s) = p at sp
  unfold f_X8_wordKind
  rw [wk_step hS (sp 0 (by omega)), wk_step hS (sp 1 (by omega)), wk_step hS (sp 2 (by omega)), wk_step hS (sp 3 (by omega)), wk_step hS (sp 4 (by omega)), wk_step hS (sp 5 (by omega)), wk_step hS (sp 6 (by omega)), wk_step hS (sp 7 (by omega)), wk_step hS (sp 8 (by omega)), wk_step hS (sp 9 (by omega)), wk_step hS (sp 10 (by omega))]
  cases p 0 with
  | true => rfl
  | false =>
    cases p 1 with
    | true => rfl
    | false =>
      cases p 2 with
      | true => rfl
      | false =>
        cases p 3 with
        | true => rfl
        | false =>
          cases p 4 with
          | true => rfl
          | false =>
            cases p 5 with
            | true => rfl
            | false =>
              cases p 6 with
              | true => rfl
              | false =>
                cases p 7 with
                | true => rfl
                | false =>
                  cases p 8 with
                  | true => rfl
                  | false =>
                    cases p 9 with
                    | true => rfl
                    | false =>
                      cases p 10 with
                      | true => rfl
                      | false => rfl
end FIND
end
section
/-! the class finds a number, a token -/
section FIND2
variable {σ : XS} {J : Nat → Nat → Int32} {m : Nat}
theorem dg_n {x : Int32} (h : isDg x = true) : x = nI x.toInt.toNat := by
  have := isDg_b h
  rw [iI_n, Int.toNat_of_nonneg (by omega)]
  exact iI_of x
theorem int57_2 (hS : Shp σ) (hm : m ≤ 2000) (h4 : J 3 4 = nI m) {s e : Nat} (hse : s ≤ e) (he : e ≤ m) (h8 : J 3 8 = nI s) (h9 : J 3 9 = nI e) (hd : ∀ k, s ≤ k → k < e → isDg (J 4 k) = true) (h5 : e - s ≤ 4) : f_X8_findInt_j57 (xw σ J) 3 3 (2 : Int32) = some (xw σ (xup (xup J 3 6 2) 3 7 (nI (nuV (J 4) s (e - s))))) := by
  unfold f_X8_findInt_j57
  simp (disch := first | assumption | omega) only [Option.bind_some, Option.map_some, xw_gR, xw_gN, xw_al, xw_ck, xw_uI, xw_ur, xup_at, xur_at, if_true, if_false, reduceIte, and_true, true_and, and_false, false_and, not_true_eq_false, not_false_eq_true, Nat.reduceEqDiff, eq_self, Nat.reduceAdd, Nat.reduceMul, kC1, kG1, kP1, kR1_0, kR1_1, kR1_2, kR1_3, kR1_4, kR1_5, kR1_6, kR1_7, kR1_8, kR1_9, kR1_10, kR1_11, kR1_12, kR1_13, kC2, kG2, kP2, kR2_0, kR2_1, kC3, kG3, kP3, kR3_0, kR3_1, kR3_2, kR3_3, kL4, kA4, kS4, kL5, kA5, kS5, kL6, kA6, kS6, kL7, kA7, kS7, kC8, kG8, kP8, kR8_0, kR8_1, kL9, kA9, kS9, kL10, kA10, kS10, kC11, kG11, kP11, kR11_0, kR11_1, kR11_2, kR11_3, kL12, kA12, kS12, kL13, kA13, kS13, kL14, kA14, kS14, kL15, kA15, kS15, kC16, kG16, kP16, kR16_0, kR16_1, kL17, kA17, kS17, kL18, kA18, kS18, kC19, kG19, kP19, kR19_0, kL20, kL141, kL146, kA146, kS146, kL151, kA151, kS151, kL156, kA156, kS156, kC157, kG157, kP157, kR157_0, kR157_1, kL158, kA158, kS158, kL159, kA159, kS159, kC161, kG161, kP161, kR161_0, kR161_1, kL162, kA162, kS162, kL163, kA163, kS163, kC165, kG165, kP165, kR165_0, kR165_1, kR165_2, kR165_3, kL166, kA166, kS166, kL167, kA167, kS167, kL168, kA168, kS168, kL169, kA169, kS169, kC170, kG170, kP170, kR170_0, kR170_1, kR170_2, kL171, kA171, kS171, kL172, kA172, kS172, kL173, kA173, kS173, kC174, kG174, kP174, kR174_0, kR174_1, kR174_2, kR174_3, kR174_4, kL175, kA175, kS175, kL176, kA176, kS176, kL177, kA177, kS177, kL178, kA178, kS178, kL179, kC180, kG180, kP180, kL181, kL182, kA182, kS182, kC183, kG183, kP183, kR183_1, kR183_3, kR183_5, kR183_6, kR183_7, kR183_8, kR183_9, kR183_21, kR183_26, kR183_27, kR183_30, kR183_31, kR183_33, kR183_34, kR183_36, kR183_37, kR183_38, kR183_39, kR183_40, kR183_41, kR183_42, kR183_43, kR183_44, kL184, kA184, kS184, kL185, kA185, kS185, kL186, kA186, kS186, kL187, kA187, kS187, kL188, kA188, kS188, kL189, kL190, kL191, kA191, kS191, kL192, kA192, kS192, kL193, kA193, kS193, kL194, kA194, kS194, kL195, kA195, kS195, kL196, kA196, kS196, kL197, kA197, kS197, kL198, kA198, kS198, kL199, kA199, kS199, kL200, kA200, kS200, kL201, kL202, kA202, kS202, kL203, kA203, kS203, kL204, kA204, kS204, kL205, kL206, kA206, kS206, h8]
  refine xforE (fun i : Nat => (nI (s + i), xw σ (xup (xup J 3 6 2) 3 7 (nI (nuV (J 4) s i))))) (e - s) rfl (fun i hi => ?_) ?_
  · have hb := byte8_ok (σ := σ) (J := xup (xup J 3 6 2) 3 7 (nI (nuV (J 4) s i))) hS hm (by rw [xup_at, if_neg (by omega), xup_at, if_neg (by omega)]; exact h4) (show s + i < m by omega)
    have hr : xup (xup J 3 6 2) 3 7 (nI (nuV (J 4) s i)) 4 (s + i) = J 4 (s + i) := by rw [xup_at, if_neg (by omega), xup_at, if_neg (by omega)]
    have hdi := hd (s + i) (by omega) (by omega)
    have hdb := isDg_b hdi
    have hnu := nuV_b (b := J 4) (s := s) i (fun k hk => hd (s + k) (by omega) (by omega))
    have hp : 10 ^ i ≤ 10 ^ 4 := Nat.pow_le_pow_right (by decide) (by omega)
    rw [hr] at hb
    have q1 : (nI e ≤ nI (s + i)) = False := by rw [nn_le (by omega) (by omega)]; exact eq_false (by omega)
    have ar : nI (nuV (J 4) s i) * (10 : Int32) + J 4 (s + i) - (48 : Int32) = nI (nuV (J 4) s (i + 1)) := by
      rw [dg_n hdi, show (10 : Int32) = nI 10 from rfl, nn_mul, nn_add, show (48 : Int32) = nI 48 from rfl, nn_sub (by omega)]
      congr 1
      show _ = 10 * nuV (J 4) s i + ((J 4 (s + i)).toInt.toNat - 48)
      omega
    simp only [f_X8_findInt_b70]
    simp (disch := first | assumption | omega) only [Option.bind_some, Option.map_some, xw_gR, xw_gN, xw_al, xw_ck, xw_uI, xw_ur, xup_at, xur_at, if_true, if_false, reduceIte, and_true, true_and, and_false, false_and, not_true_eq_false, not_false_eq_true, Nat.reduceEqDiff, eq_self, Nat.reduceAdd, Nat.reduceMul, kC1, kG1, kP1, kR1_0, kR1_1, kR1_2, kR1_3, kR1_4, kR1_5, kR1_6, kR1_7, kR1_8, kR1_9, kR1_10, kR1_11, kR1_12, kR1_13, kC2, kG2, kP2, kR2_0, kR2_1, kC3, kG3, kP3, kR3_0, kR3_1, kR3_2, kR3_3, kL4, kA4, kS4, kL5, kA5, kS5, kL6, kA6, kS6, kL7, kA7, kS7, kC8, kG8, kP8, kR8_0, kR8_1, kL9, kA9, kS9, kL10, kA10, kS10, kC11, kG11, kP11, kR11_0, kR11_1, kR11_2, kR11_3, kL12, kA12, kS12, kL13, kA13, kS13, kL14, kA14, kS14, kL15, kA15, kS15, kC16, kG16, kP16, kR16_0, kR16_1, kL17, kA17, kS17, kL18, kA18, kS18, kC19, kG19, kP19, kR19_0, kL20, kL141, kL146, kA146, kS146, kL151, kA151, kS151, kL156, kA156, kS156, kC157, kG157, kP157, kR157_0, kR157_1, kL158, kA158, kS158, kL159, kA159, kS159, kC161, kG161, kP161, kR161_0, kR161_1, kL162, kA162, kS162, kL163, kA163, kS163, kC165, kG165, kP165, kR165_0, kR165_1, kR165_2, kR165_3, kL166, kA166, kS166, kL167, kA167, kS167, kL168, kA168, kS168, kL169, kA169, kS169, kC170, kG170, kP170, kR170_0, kR170_1, kR170_2, kL171, kA171, kS171, kL172, kA172, kS172, kL173, kA173, kS173, kC174, kG174, kP174, kR174_0, kR174_1, kR174_2, kR174_3, kR174_4, kL175, kA175, kS175, kL176, kA176, kS176, kL177, kA177, kS177, kL178, kA178, kS178, kL179, kC180, kG180, kP180, kL181, kL182, kA182, kS182, kC183, kG183, kP183, kR183_1, kR183_3, kR183_5, kR183_6, kR183_7, kR183_8, kR183_9, kR183_21, kR183_26, kR183_27, kR183_30, kR183_31, kR183_33, kR183_34, kR183_36, kR183_37, kR183_38, kR183_39, kR183_40, kR183_41, kR183_42, kR183_43, kR183_44, kL184, kA184, kS184, kL185, kA185, kS185, kL186, kA186, kS186, kL187, kA187, kS187, kL188, kA188, kS188, kL189, kL190, kL191, kA191, kS191, kL192, kA192, kS192, kL193, kA193, kS193, kL194, kA194, kS194, kL195, kA195, kS195, kL196, kA196, kS196, kL197, kA197, kS197, kL198, kA198, kS198, kL199, kA199, kS199, kL200, kA200, kS200, kL201, kL202, kA202, kS202, kL203, kA203, kS203, kL204, kA204, kS204, kL205, kL206, kA206, kS206, h9, q1, hb, ar]
    rw [xup2, ← nI_succ]
    rfl
  · have e1 : nI (s + (e - s)) = nI e := by congr 1; omega
    have q1 : (nI e ≤ nI e) = True := by rw [nn_le (by omega) (by omega)]; exact eq_true (Nat.le_refl _)
    simp only [f_X8_findInt_b70, e1]
    simp (disch := first | assumption | omega) only [Option.bind_some, Option.map_some, xw_gR, xw_gN, xw_al, xw_ck, xw_uI, xw_ur, xup_at, xur_at, if_true, if_false, reduceIte, and_true, true_and, and_false, false_and, not_true_eq_false, not_false_eq_true, Nat.reduceEqDiff, eq_self, Nat.reduceAdd, Nat.reduceMul, kC1, kG1, kP1, kR1_0, kR1_1, kR1_2, kR1_3, kR1_4, kR1_5, kR1_6, kR1_7, kR1_8, kR1_9, kR1_10, kR1_11, kR1_12, kR1_13, kC2, kG2, kP2, kR2_0, kR2_1, kC3, kG3, kP3, kR3_0, kR3_1, kR3_2, kR3_3, kL4, kA4, kS4, kL5, kA5, kS5, kL6, kA6, kS6, kL7, kA7, kS7, kC8, kG8, kP8, kR8_0, kR8_1, kL9, kA9, kS9, kL10, kA10, kS10, kC11, kG11, kP11, kR11_0, kR11_1, kR11_2, kR11_3, kL12, kA12, kS12, kL13, kA13, kS13, kL14, kA14, kS14, kL15, kA15, kS15, kC16, kG16, kP16, kR16_0, kR16_1, kL17, kA17, kS17, kL18, kA18, kS18, kC19, kG19, kP19, kR19_0, kL20, kL141, kL146, kA146, kS146, kL151, kA151, kS151, kL156, kA156, kS156, kC157, kG157, kP157, kR157_0, kR157_1, kL158, kA158, kS158, kL159, kA159, kS159, kC161, kG161, kP161, kR161_0, kR161_1, kL162, kA162, kS162, kL163, kA163, kS163, kC165, kG165, kP165, kR165_0, kR165_1, kR165_2, kR165_3, kL166, kA166, kS166, kL167, kA167, kS167, kL168, kA168, kS168, kL169, kA169, kS169, kC170, kG170, kP170, kR170_0, kR170_1, kR170_2, kL171, kA171, kS171, kL172, kA172, kS172, kL173, kA173, kS173, kC174, kG174, kP174, kR174_0, kR174_1, kR174_2, kR174_3, kR174_4, kL175, kA175, kS175, kL176, kA176, kS176, kL177, kA177, kS177, kL178, kA178, kS178, kL179, kC180, kG180, kP180, kL181, kL182, kA182, kS182, kC183, kG183, kP183, kR183_1, kR183_3, kR183_5, kR183_6, kR183_7, kR183_8, kR183_9, kR183_21, kR183_26, kR183_27, kR183_30, kR183_31, kR183_33, kR183_34, kR183_36, kR183_37, kR183_38, kR183_39, kR183_40, kR183_41, kR183_42, kR183_43, kR183_44, kL184, kA184, kS184, kL185, kA185, kS185, kL186, kA186, kS186, kL187, kA187, kS187, kL188, kA188, kS188, kL189, kL190, kL191, kA191, kS191, kL192, kA192, kS192, kL193, kA193, kS193, kL194, kA194, kS194, kL195, kA195, kS195, kL196, kA196, kS196, kL197, kA197, kS197, kL198, kA198, kS198, kL199, kA199, kS199, kL200, kA200, kS200, kL201, kL202, kA202, kS202, kL203, kA203, kS203, kL204, kA204, kS204, kL205, kL206, kA206, kS206, h9, q1]
theorem int57_1 (hS : Shp σ) {s : Nat} (h8 : J 3 8 = nI s) : f_X8_findInt_j57 (xw σ J) 3 3 (1 : Int32) = some (xw σ (xup (xup J 3 6 1) 3 7 0)) := by
  unfold f_X8_findInt_j57
  simp (disch := first | assumption | omega) only [Option.bind_some, Option.map_some, xw_gR, xw_gN, xw_al, xw_ck, xw_uI, xw_ur, xup_at, xur_at, if_true, if_false, reduceIte, and_true, true_and, and_false, false_and, not_true_eq_false, not_false_eq_true, Nat.reduceEqDiff, eq_self, Nat.reduceAdd, Nat.reduceMul, kC1, kG1, kP1, kR1_0, kR1_1, kR1_2, kR1_3, kR1_4, kR1_5, kR1_6, kR1_7, kR1_8, kR1_9, kR1_10, kR1_11, kR1_12, kR1_13, kC2, kG2, kP2, kR2_0, kR2_1, kC3, kG3, kP3, kR3_0, kR3_1, kR3_2, kR3_3, kL4, kA4, kS4, kL5, kA5, kS5, kL6, kA6, kS6, kL7, kA7, kS7, kC8, kG8, kP8, kR8_0, kR8_1, kL9, kA9, kS9, kL10, kA10, kS10, kC11, kG11, kP11, kR11_0, kR11_1, kR11_2, kR11_3, kL12, kA12, kS12, kL13, kA13, kS13, kL14, kA14, kS14, kL15, kA15, kS15, kC16, kG16, kP16, kR16_0, kR16_1, kL17, kA17, kS17, kL18, kA18, kS18, kC19, kG19, kP19, kR19_0, kL20, kL141, kL146, kA146, kS146, kL151, kA151, kS151, kL156, kA156, kS156, kC157, kG157, kP157, kR157_0, kR157_1, kL158, kA158, kS158, kL159, kA159, kS159, kC161, kG161, kP161, kR161_0, kR161_1, kL162, kA162, kS162, kL163, kA163, kS163, kC165, kG165, kP165, kR165_0, kR165_1, kR165_2, kR165_3, kL166, kA166, kS166, kL167, kA167, kS167, kL168, kA168, kS168, kL169, kA169, kS169, kC170, kG170, kP170, kR170_0, kR170_1, kR170_2, kL171, kA171, kS171, kL172, kA172, kS172, kL173, kA173, kS173, kC174, kG174, kP174, kR174_0, kR174_1, kR174_2, kR174_3, kR174_4, kL175, kA175, kS175, kL176, kA176, kS176, kL177, kA177, kS177, kL178, kA178, kS178, kL179, kC180, kG180, kP180, kL181, kL182, kA182, kS182, kC183, kG183, kP183, kR183_1, kR183_3, kR183_5, kR183_6, kR183_7, kR183_8, kR183_9, kR183_21, kR183_26, kR183_27, kR183_30, kR183_31, kR183_33, kR183_34, kR183_36, kR183_37, kR183_38, kR183_39, kR183_40, kR183_41, kR183_42, kR183_43, kR183_44, kL184, kA184, kS184, kL185, kA185, kS185, kL186, kA186, kS186, kL187, kA187, kS187, kL188, kA188, kS188, kL189, kL190, kL191, kA191, kS191, kL192, kA192, kS192, kL193, kA193, kS193, kL194, kA194, kS194, kL195, kA195, kS195, kL196, kA196, kS196, kL197, kA197, kS197, kL198, kA198, kS198, kL199, kA199, kS199, kL200, kA200, kS200, kL201, kL202, kA202, kS202, kL203, kA203, kS203, kL204, kA204, kS204, kL205, kL206, kA206, kS206, h8]
  refine xloop_end ?_
  simp only [f_X8_findInt_b70]
  have q : ((1 : Int32) = 2) = False := eq_false (by decide)
  simp (disch := first | assumption | omega) only [Option.bind_some, Option.map_some, xw_gR, xw_gN, xw_al, xw_ck, xw_uI, xw_ur, xup_at, xur_at, if_true, if_false, reduceIte, and_true, true_and, and_false, false_and, not_true_eq_false, not_false_eq_true, Nat.reduceEqDiff, eq_self, Nat.reduceAdd, Nat.reduceMul, kC1, kG1, kP1, kR1_0, kR1_1, kR1_2, kR1_3, kR1_4, kR1_5, kR1_6, kR1_7, kR1_8, kR1_9, kR1_10, kR1_11, kR1_12, kR1_13, kC2, kG2, kP2, kR2_0, kR2_1, kC3, kG3, kP3, kR3_0, kR3_1, kR3_2, kR3_3, kL4, kA4, kS4, kL5, kA5, kS5, kL6, kA6, kS6, kL7, kA7, kS7, kC8, kG8, kP8, kR8_0, kR8_1, kL9, kA9, kS9, kL10, kA10, kS10, kC11, kG11, kP11, kR11_0, kR11_1, kR11_2, kR11_3, kL12, kA12, kS12, kL13, kA13, kS13, kL14, kA14, kS14, kL15, kA15, kS15, kC16, kG16, kP16, kR16_0, kR16_1, kL17, kA17, kS17, kL18, kA18, kS18, kC19, kG19, kP19, kR19_0, kL20, kL141, kL146, kA146, kS146, kL151, kA151, kS151, kL156, kA156, kS156, kC157, kG157, kP157, kR157_0, kR157_1, kL158, kA158, kS158, kL159, kA159, kS159, kC161, kG161, kP161, kR161_0, kR161_1, kL162, kA162, kS162, kL163, kA163, kS163, kC165, kG165, kP165, kR165_0, kR165_1, kR165_2, kR165_3, kL166, kA166, kS166, kL167, kA167, kS167, kL168, kA168, kS168, kL169, kA169, kS169, kC170, kG170, kP170, kR170_0, kR170_1, kR170_2, kL171, kA171, kS171, kL172, kA172, kS172, kL173, kA173, kS173, kC174, kG174, kP174, kR174_0, kR174_1, kR174_2, kR174_3, kR174_4, kL175, kA175, kS175, kL176, kA176, kS176, kL177, kA177, kS177, kL178, kA178, kS178, kL179, kC180, kG180, kP180, kL181, kL182, kA182, kS182, kC183, kG183, kP183, kR183_1, kR183_3, kR183_5, kR183_6, kR183_7, kR183_8, kR183_9, kR183_21, kR183_26, kR183_27, kR183_30, kR183_31, kR183_33, kR183_34, kR183_36, kR183_37, kR183_38, kR183_39, kR183_40, kR183_41, kR183_42, kR183_43, kR183_44, kL184, kA184, kS184, kL185, kA185, kS185, kL186, kA186, kS186, kL187, kA187, kS187, kL188, kA188, kS188, kL189, kL190, kL191, kA191, kS191, kL192, kA192, kS192, kL193, kA193, kS193, kL194, kA194, kS194, kL195, kA195, kS195, kL196, kA196, kS196, kL197, kA197, kS197, kL198, kA198, kS198, kL199, kA199, kS199, kL200, kA200, kS200, kL201, kL202, kA202, kS202, kL203, kA203, kS203, kL204, kA204, kS204, kL205, kL206, kA206, kS206, q]
theorem findInt_ok (hS : Shp σ) (hm : m ≤ 2000) (h4 : J 3 4 = nI m) {s : Nat} (hs : s < m) (h8 : J 3 8 = nI s) (h9 : J 3 9 = nI (s + 1)) (hd : isDg (J 4 s) = true) : ∃ J', f_X8_findInt (xw σ J) 3 = some (xw σ J') ∧ J' 3 9 = nI (nxP isDg (J 4) m s) ∧ J' 3 6 = nI (if nxP isDg (J 4) m s - s ≤ 4 then 2 else 1) ∧ (nxP isDg (J 4) m s - s ≤ 4 → J' 3 7 = nI (nuV (J 4) s (nxP isDg (J 4) m s - s))) ∧ ∀ a q, ¬ (a = 3 ∧ (q = 6 ∨ q = 7 ∨ q = 9)) → J' a q = J a q := by
  have est := nxP_step (q := isDg) (b := J 4) hs hd
  have hge := nxP_ge (q := isDg) (b := J 4) (m := m) (p := s + 1)
  have hle := nxP_le (q := isDg) (b := J 4) (show s + 1 ≤ m by omega)
  obtain ⟨e, he⟩ : ∃ e, e = nxP isDg (J 4) m s := ⟨_, rfl⟩
  have hall : ∀ k, s ≤ k → k < e → isDg (J 4 k) = true := fun k h1 h2 => nxP_in (q := isDg) (b := J 4) (m := m) (p := s) h1 (by omega)
  rw [est] at hge hle
  rw [← he] at hge hle ⊢
  have fin : ∃ J', f_X8_findInt_j38 (xw σ (xup J 3 9 (nI e))) 3 = some (xw σ J') ∧ J' 3 9 = nI e ∧ J' 3 6 = nI (if e - s ≤ 4 then 2 else 1) ∧ (e - s ≤ 4 → J' 3 7 = nI (nuV (J 4) s (e - s))) ∧ ∀ a q, ¬ (a = 3 ∧ (q = 6 ∨ q = 7 ∨ q = 9)) → J' a q = J a q := by
    have q4 : ((4 : Int32) < nI e - nI s) = (4 < e - s) := by
      rw [nn_sub (by omega), show (4 : Int32) = nI 4 from rfl, nn_lt (by omega) (by omega)]
    have u8 : xup J 3 9 (nI e) 3 8 = nI s := by rw [xup_at, if_neg (by omega)]; exact h8
    have u9 : xup J 3 9 (nI e) 3 9 = nI e := by rw [xup_at, if_pos ⟨rfl, rfl⟩]
    have u4 : xup J 3 9 (nI e) 3 4 = nI m := by rw [xup_at, if_neg (by omega)]; exact h4
    have u3 : xup J 3 9 (nI e) 4 = J 4 := by funext k; rw [xup_at, if_neg (by omega)]
    by_cases h5 : e - s ≤ 4
    · have j := int57_2 (σ := σ) (J := xup J 3 9 (nI e)) hS hm u4 (by omega) hle u8 u9 (by rw [u3]; exact hall) h5
      rw [u3] at j
      refine ⟨xup (xup (xup J 3 9 (nI e)) 3 6 2) 3 7 (nI (nuV (J 4) s (e - s))), ?_, ?_, ?_, fun _ => ?_, fun a q hq => ?_⟩
      · unfold f_X8_findInt_j38
        have q5 : ¬ (4 < e - s) := by omega
        simp (disch := first | assumption | omega) only [Option.bind_some, Option.map_some, xw_gR, xw_gN, xw_al, xw_ck, xw_uI, xw_ur, xup_at, xur_at, if_true, if_false, reduceIte, and_true, true_and, and_false, false_and, not_true_eq_false, not_false_eq_true, Nat.reduceEqDiff, eq_self, Nat.reduceAdd, Nat.reduceMul, kC1, kG1, kP1, kR1_0, kR1_1, kR1_2, kR1_3, kR1_4, kR1_5, kR1_6, kR1_7, kR1_8, kR1_9, kR1_10, kR1_11, kR1_12, kR1_13, kC2, kG2, kP2, kR2_0, kR2_1, kC3, kG3, kP3, kR3_0, kR3_1, kR3_2, kR3_3, kL4, kA4, kS4, kL5, kA5, kS5, kL6, kA6, kS6, kL7, kA7, kS7, kC8, kG8, kP8, kR8_0, kR8_1, kL9, kA9, kS9, kL10, kA10, kS10, kC11, kG11, kP11, kR11_0, kR11_1, kR11_2, kR11_3, kL12, kA12, kS12, kL13, kA13, kS13, kL14, kA14, kS14, kL15, kA15, kS15, kC16, kG16, kP16, kR16_0, kR16_1, kL17, kA17, kS17, kL18, kA18, kS18, kC19, kG19, kP19, kR19_0, kL20, kL141, kL146, kA146, kS146, kL151, kA151, kS151, kL156, kA156, kS156, kC157, kG157, kP157, kR157_0, kR157_1, kL158, kA158, kS158, kL159, kA159, kS159, kC161, kG161, kP161, kR161_0, kR161_1, kL162, kA162, kS162, kL163, kA163, kS163, kC165, kG165, kP165, kR165_0, kR165_1, kR165_2, kR165_3, kL166, kA166, kS166, kL167, kA167, kS167, kL168, kA168, kS168, kL169, kA169, kS169, kC170, kG170, kP170, kR170_0, kR170_1, kR170_2, kL171, kA171, kS171, kL172, kA172, kS172, kL173, kA173, kS173, kC174, kG174, kP174, kR174_0, kR174_1, kR174_2, kR174_3, kR174_4, kL175, kA175, kS175, kL176, kA176, kS176, kL177, kA177, kS177, kL178, kA178, kS178, kL179, kC180, kG180, kP180, kL181, kL182, kA182, kS182, kC183, kG183, kP183, kR183_1, kR183_3, kR183_5, kR183_6, kR183_7, kR183_8, kR183_9, kR183_21, kR183_26, kR183_27, kR183_30, kR183_31, kR183_33, kR183_34, kR183_36, kR183_37, kR183_38, kR183_39, kR183_40, kR183_41, kR183_42, kR183_43, kR183_44, kL184, kA184, kS184, kL185, kA185, kS185, kL186, kA186, kS186, kL187, kA187, kS187, kL188, kA188, kS188, kL189, kL190, kL191, kA191, kS191, kL192, kA192, kS192, kL193, kA193, kS193, kL194, kA194, kS194, kL195, kA195, kS195, kL196, kA196, kS196, kL197, kA197, kS197, kL198, kA198, kS198, kL199, kA199, kS199, kL200, kA200, kS200, kL201, kL202, kA202, kS202, kL203, kA203, kS203, kL204, kA204, kS204, kL205, kL206, kA206, kS206, h8, q4, q5]
        exact j
      · rw [xup_at, if_neg (by omega), xup_at, if_neg (by omega)]; exact u9
      · rw [xup_at, if_neg (by omega), xup_at, if_pos ⟨rfl, rfl⟩, if_pos h5]; rfl
      · rw [xup_at, if_pos ⟨rfl, rfl⟩]
      · rw [xup_at, if_neg (by omega), xup_at, if_neg (by omega), xup_at, if_neg (by omega)]
    · have j := int57_1 (σ := σ) (J := xup J 3 9 (nI e)) hS u8
      refine ⟨xup (xup (xup J 3 9 (nI e)) 3 6 1) 3 7 0, ?_, ?_, ?_, fun z => absurd z h5, fun a q hq => ?_⟩
      · unfold f_X8_findInt_j38
        have q5 : 4 < e - s := by omega
        simp (disch := first | assumption | omega) only [Option.bind_some, Option.map_some, xw_gR, xw_gN, xw_al, xw_ck, xw_uI, xw_ur, xup_at, xur_at, if_true, if_false, reduceIte, and_true, true_and, and_false, false_and, not_true_eq_false, not_false_eq_true, Nat.reduceEqDiff, eq_self, Nat.reduceAdd, Nat.reduceMul, kC1, kG1, kP1, kR1_0, kR1_1, kR1_2, kR1_3, kR1_4, kR1_5, kR1_6, kR1_7, kR1_8, kR1_9, kR1_10, kR1_11, kR1_12, kR1_13, kC2, kG2, kP2, kR2_0, kR2_1, kC3, kG3, kP3, kR3_0, kR3_1, kR3_2, kR3_3, kL4, kA4, kS4, kL5, kA5, kS5, kL6, kA6, kS6, kL7, kA7, kS7, kC8, kG8, kP8, kR8_0, kR8_1, kL9, kA9, kS9, kL10, kA10, kS10, kC11, kG11, kP11, kR11_0, kR11_1, kR11_2, kR11_3, kL12, kA12, kS12, kL13, kA13, kS13, kL14, kA14, kS14, kL15, kA15, kS15, kC16, kG16, kP16, kR16_0, kR16_1, kL17, kA17, kS17, kL18, kA18, kS18, kC19, kG19, kP19, kR19_0, kL20, kL141, kL146, kA146, kS146, kL151, kA151, kS151, kL156, kA156, kS156, kC157, kG157, kP157, kR157_0, kR157_1, kL158, kA158, kS158, kL159, kA159, kS159, kC161, kG161, kP161, kR161_0, kR161_1, kL162, kA162, kS162, kL163, kA163, kS163, kC165, kG165, kP165, kR165_0, kR165_1, kR165_2, kR165_3, kL166, kA166, kS166, kL167, kA167, kS167, kL168, kA168, kS168, kL169, kA169, kS169, kC170, kG170, kP170, kR170_0, kR170_1, kR170_2, kL171, kA171, kS171, kL172, kA172, kS172, kL173, kA173, kS173, kC174, kG174, kP174, kR174_0, kR174_1, kR174_2, kR174_3, kR174_4, kL175, kA175, kS175, kL176, kA176, kS176, kL177, kA177, kS177, kL178, kA178, kS178, kL179, kC180, kG180, kP180, kL181, kL182, kA182, kS182, kC183, kG183, kP183, kR183_1, kR183_3, kR183_5, kR183_6, kR183_7, kR183_8, kR183_9, kR183_21, kR183_26, kR183_27, kR183_30, kR183_31, kR183_33, kR183_34, kR183_36, kR183_37, kR183_38, kR183_39, kR183_40, kR183_41, kR183_42, kR183_43, kR183_44, kL184, kA184, kS184, kL185, kA185, kS185, kL186, kA186, kS186, kL187, kA187, kS187, kL188, kA188, kS188, kL189, kL190, kL191, kA191, kS191, kL192, kA192, kS192, kL193, kA193, kS193, kL194, kA194, kS194, kL195, kA195, kS195, kL196, kA196, kS196, kL197, kA197, kS197, kL198, kA198, kS198, kL199, kA199, kS199, kL200, kA200, kS200, kL201, kL202, kA202, kS202, kL203, kA203, kS203, kL204, kA204, kS204, kL205, kL206, kA206, kS206, h8, q4, q5]
        exact j
      · rw [xup_at, if_neg (by omega), xup_at, if_neg (by omega)]; exact u9
      · rw [xup_at, if_neg (by omega), xup_at, if_pos ⟨rfl, rfl⟩, if_neg h5]; rfl
      · rw [xup_at, if_neg (by omega), xup_at, if_neg (by omega), xup_at, if_neg (by omega)]
  obtain ⟨J', j1, rest⟩ := fin
  refine ⟨J', ?_, rest⟩
  unfold f_X8_findInt
  have e0 : xup J 3 9 (nI (s + 1)) = J := by
    funext c k
    rw [xup_at]
    by_cases z : c = 3 ∧ k = 9
    · rw [if_pos z, z.1, z.2]; exact h9.symm
    · rw [if_neg z]
  have ends : nI (s + 1 + (e - (s + 1))) = nI e := by congr 1; omega
  refine xforE (fun i : Nat => xw σ (xup J 3 9 (nI (s + 1 + i)))) (e - (s + 1)) ?_ (fun i hi => ?_) ?_
  · show xw σ J = xw σ (xup J 3 9 (nI (s + 1 + 0)))
    rw [Nat.add_zero, e0]
  · have hb := byte8_ok (σ := σ) (J := xup J 3 9 (nI (s + 1 + i))) hS hm (by rw [xup_at, if_neg (by omega)]; exact h4) (show s + 1 + i < m by omega)
    have hr : xup J 3 9 (nI (s + 1 + i)) 4 (s + 1 + i) = J 4 (s + 1 + i) := by rw [xup_at, if_neg (by omega)]
    have hl := hall (s + 1 + i) (by omega) (by omega)
    rw [hr] at hb
    have q1 : (nI m ≤ nI (s + 1 + i)) = False := by rw [nn_le (by omega) (by omega)]; exact eq_false (by omega)
    simp only [f_X8_findInt_b0]
    simp (disch := first | assumption | omega) only [Option.bind_some, Option.map_some, xw_gR, xw_gN, xw_al, xw_ck, xw_uI, xw_ur, xup_at, xur_at, if_true, if_false, reduceIte, and_true, true_and, and_false, false_and, not_true_eq_false, not_false_eq_true, Nat.reduceEqDiff, eq_self, Nat.reduceAdd, Nat.reduceMul, kC1, kG1, kP1, kR1_0, kR1_1, kR1_2, kR1_3, kR1_4, kR1_5, kR1_6, kR1_7, kR1_8, kR1_9, kR1_10, kR1_11, kR1_12, kR1_13, kC2, kG2, kP2, kR2_0, kR2_1, kC3, kG3, kP3, kR3_0, kR3_1, kR3_2, kR3_3, kL4, kA4, kS4, kL5, kA5, kS5, kL6, kA6, kS6, kL7, kA7, kS7, kC8, kG8, kP8, kR8_0, kR8_1, kL9, kA9, kS9, kL10, kA10, kS10, kC11, kG11, kP11, kR11_0, kR11_1, kR11_2, kR11_3, kL12, kA12, kS12, kL13, kA13, kS13, kL14, kA14, kS14, kL15, kA15, kS15, kC16, kG16, kP16, kR16_0, kR16_1, kL17, kA17, kS17, kL18, kA18, kS18, kC19, kG19, kP19, kR19_0, kL20, kL141, kL146, kA146, kS146, kL151, kA151, kS151, kL156, kA156, kS156, kC157, kG157, kP157, kR157_0, kR157_1, kL158, kA158, kS158, kL159, kA159, kS159, kC161, kG161, kP161, kR161_0, kR161_1, kL162, kA162, kS162, kL163, kA163, kS163, kC165, kG165, kP165, kR165_0, kR165_1, kR165_2, kR165_3, kL166, kA166, kS166, kL167, kA167, kS167, kL168, kA168, kS168, kL169, kA169, kS169, kC170, kG170, kP170, kR170_0, kR170_1, kR170_2, kL171, kA171, kS171, kL172, kA172, kS172, kL173, kA173, kS173, kC174, kG174, kP174, kR174_0, kR174_1, kR174_2, kR174_3, kR174_4, kL175, kA175, kS175, kL176, kA176, kS176, kL177, kA177, kS177, kL178, kA178, kS178, kL179, kC180, kG180, kP180, kL181, kL182, kA182, kS182, kC183, kG183, kP183, kR183_1, kR183_3, kR183_5, kR183_6, kR183_7, kR183_8, kR183_9, kR183_21, kR183_26, kR183_27, kR183_30, kR183_31, kR183_33, kR183_34, kR183_36, kR183_37, kR183_38, kR183_39, kR183_40, kR183_41, kR183_42, kR183_43, kR183_44, kL184, kA184, kS184, kL185, kA185, kS185, kL186, kA186, kS186, kL187, kA187, kS187, kL188, kA188, kS188, kL189, kL190, kL191, kA191, kS191, kL192, kA192, kS192, kL193, kA193, kS193, kL194, kA194, kS194, kL195, kA195, kS195, kL196, kA196, kS196, kL197, kA197, kS197, kL198, kA198, kS198, kL199, kA199, kS199, kL200, kA200, kS200, kL201, kL202, kA202, kS202, kL203, kA203, kS203, kL204, kA204, kS204, kL205, kL206, kA206, kS206, h4, q1, hb, dg8_ok, hl, one0]
    rw [← nI_succ, xup2]
    rfl
  · rw [ends]
    by_cases z : e = m
    · have q1 : (nI m ≤ nI e) = True := by rw [nn_le (by omega) (by omega)]; exact eq_true (by omega)
      simp only [f_X8_findInt_b0]
      simp (disch := first | assumption | omega) only [Option.bind_some, Option.map_some, xw_gR, xw_gN, xw_al, xw_ck, xw_uI, xw_ur, xup_at, xur_at, if_true, if_false, reduceIte, and_true, true_and, and_false, false_and, not_true_eq_false, not_false_eq_true, Nat.reduceEqDiff, eq_self, Nat.reduceAdd, Nat.reduceMul, kC1, kG1, kP1, kR1_0, kR1_1, kR1_2, kR1_3, kR1_4, kR1_5, kR1_6, kR1_7, kR1_8, kR1_9, kR1_10, kR1_11, kR1_12, kR1_13, kC2, kG2, kP2, kR2_0, kR2_1, kC3, kG3, kP3, kR3_0, kR3_1, kR3_2, kR3_3, kL4, kA4, kS4, kL5, kA5, kS5, kL6, kA6, kS6, kL7, kA7, kS7, kC8, kG8, kP8, kR8_0, kR8_1, kL9, kA9, kS9, kL10, kA10, kS10, kC11, kG11, kP11, kR11_0, kR11_1, kR11_2, kR11_3, kL12, kA12, kS12, kL13, kA13, kS13, kL14, kA14, kS14, kL15, kA15, kS15, kC16, kG16, kP16, kR16_0, kR16_1, kL17, kA17, kS17, kL18, kA18, kS18, kC19, kG19, kP19, kR19_0, kL20, kL141, kL146, kA146, kS146, kL151, kA151, kS151, kL156, kA156, kS156, kC157, kG157, kP157, kR157_0, kR157_1, kL158, kA158, kS158, kL159, kA159, kS159, kC161, kG161, kP161, kR161_0, kR161_1, kL162, kA162, kS162, kL163, kA163, kS163, kC165, kG165, kP165, kR165_0, kR165_1, kR165_2, kR165_3, kL166, kA166, kS166, kL167, kA167, kS167, kL168, kA168, kS168, kL169, kA169, kS169, kC170, kG170, kP170, kR170_0, kR170_1, kR170_2, kL171, kA171, kS171, kL172, kA172, kS172, kL173, kA173, kS173, kC174, kG174, kP174, kR174_0, kR174_1, kR174_2, kR174_3, kR174_4, kL175, kA175, kS175, kL176, kA176, kS176, kL177, kA177, kS177, kL178, kA178, kS178, kL179, kC180, kG180, kP180, kL181, kL182, kA182, kS182, kC183, kG183, kP183, kR183_1, kR183_3, kR183_5, kR183_6, kR183_7, kR183_8, kR183_9, kR183_21, kR183_26, kR183_27, kR183_30, kR183_31, kR183_33, kR183_34, kR183_36, kR183_37, kR183_38, kR183_39, kR183_40, kR183_41, kR183_42, kR183_43, kR183_44, kL184, kA184, kS184, kL185, kA185, kS185, kL186, kA186, kS186, kL187, kA187, kS187, kL188, kA188, kS188, kL189, kL190, kL191, kA191, kS191, kL192, kA192, kS192, kL193, kA193, kS193, kL194, kA194, kS194, kL195, kA195, kS195, kL196, kA196, kS196, kL197, kA197, kS197, kL198, kA198, kS198, kL199, kA199, kS199, kL200, kA200, kS200, kL201, kL202, kA202, kS202, kL203, kA203, kS203, kL204, kA204, kS204, kL205, kL206, kA206, kS206, h4, q1, j1]
    · have hb := byte8_ok (σ := σ) (J := xup J 3 9 (nI e)) hS hm (by rw [xup_at, if_neg (by omega)]; exact h4) (show e < m by omega)
      have hr : xup J 3 9 (nI e) 4 e = J 4 e := by rw [xup_at, if_neg (by omega)]
      have hl : isDg (J 4 e) = false := by rw [he]; exact nxP_out (by omega)
      rw [hr] at hb
      have q1 : (nI m ≤ nI e) = False := by rw [nn_le (by omega) (by omega)]; exact eq_false (by omega)
      simp only [f_X8_findInt_b0]
      simp (disch := first | assumption | omega) only [Option.bind_some, Option.map_some, xw_gR, xw_gN, xw_al, xw_ck, xw_uI, xw_ur, xup_at, xur_at, if_true, if_false, reduceIte, and_true, true_and, and_false, false_and, not_true_eq_false, not_false_eq_true, Nat.reduceEqDiff, eq_self, Nat.reduceAdd, Nat.reduceMul, kC1, kG1, kP1, kR1_0, kR1_1, kR1_2, kR1_3, kR1_4, kR1_5, kR1_6, kR1_7, kR1_8, kR1_9, kR1_10, kR1_11, kR1_12, kR1_13, kC2, kG2, kP2, kR2_0, kR2_1, kC3, kG3, kP3, kR3_0, kR3_1, kR3_2, kR3_3, kL4, kA4, kS4, kL5, kA5, kS5, kL6, kA6, kS6, kL7, kA7, kS7, kC8, kG8, kP8, kR8_0, kR8_1, kL9, kA9, kS9, kL10, kA10, kS10, kC11, kG11, kP11, kR11_0, kR11_1, kR11_2, kR11_3, kL12, kA12, kS12, kL13, kA13, kS13, kL14, kA14, kS14, kL15, kA15, kS15, kC16, kG16, kP16, kR16_0, kR16_1, kL17, kA17, kS17, kL18, kA18, kS18, kC19, kG19, kP19, kR19_0, kL20, kL141, kL146, kA146, kS146, kL151, kA151, kS151, kL156, kA156, kS156, kC157, kG157, kP157, kR157_0, kR157_1, kL158, kA158, kS158, kL159, kA159, kS159, kC161, kG161, kP161, kR161_0, kR161_1, kL162, kA162, kS162, kL163, kA163, kS163, kC165, kG165, kP165, kR165_0, kR165_1, kR165_2, kR165_3, kL166, kA166, kS166, kL167, kA167, kS167, kL168, kA168, kS168, kL169, kA169, kS169, kC170, kG170, kP170, kR170_0, kR170_1, kR170_2, kL171, kA171, kS171, kL172, kA172, kS172, kL173, kA173, kS173, kC174, kG174, kP174, kR174_0, kR174_1, kR174_2, kR174_3, kR174_4, kL175, kA175, kS175, kL176, kA176, kS176, kL177, kA177, kS177, kL178, kA178, kS178, kL179, kC180, kG180, kP180, kL181, kL182, kA182, kS182, kC183, kG183, kP183, kR183_1, kR183_3, kR183_5, kR183_6, kR183_7, kR183_8, kR183_9, kR183_21, kR183_26, kR183_27, kR183_30, kR183_31, kR183_33, kR183_34, kR183_36, kR183_37, kR183_38, kR183_39, kR183_40, kR183_41, kR183_42, kR183_43, kR183_44, kL184, kA184, kS184, kL185, kA185, kS185, kL186, kA186, kS186, kL187, kA187, kS187, kL188, kA188, kS188, kL189, kL190, kL191, kA191, kS191, kL192, kA192, kS192, kL193, kA193, kS193, kL194, kA194, kS194, kL195, kA195, kS195, kL196, kA196, kS196, kL197, kA197, kS197, kL198, kA198, kS198, kL199, kA199, kS199, kL200, kA200, kS200, kL201, kL202, kA202, kS202, kL203, kA203, kS203, kL204, kA204, kS204, kL205, kL206, kA206, kS206, h4, q1, hb, dg8_ok, hl, Bool.false_eq_true, j1]
/-- the token at a place where no blank is -/
theorem tok43_ok (hS : Shp σ) (hm : m ≤ 2000) (h4 : J 3 4 = nI m) {s : Nat} (hs : s ≤ m) (h8 : J 3 8 = nI s) : ∃ J', f_X8_findToken_j43 (xw σ J) 3 = some (xw σ J') ∧ J' 3 8 = nI s ∧ J' 3 9 = nI (tE0 (J 4) m s) ∧ J' 3 6 = nI (tK0 (J 4) m s) ∧ (tK0 (J 4) m s = 2 → J' 3 7 = nI (tN0 (J 4) m s)) ∧ ∀ a q, ¬ (a = 3 ∧ 6 ≤ q ∧ q ≤ 9) → J' a q = J a q := by
  have q0 : (nI s < nI m) = (s < m) := nn_lt (by omega) (by omega)
  by_cases hsm : s < m
  · have hb := byte8_ok (σ := σ) (J := J) hS hm h4 hsm
    have nm : ¬ m ≤ s := by omega
    have u8 : xup J 3 9 (nI (s + 1)) 3 8 = nI s := by rw [xup_at, if_neg (by omega)]; exact h8
    have u9 : xup J 3 9 (nI (s + 1)) 3 9 = nI (s + 1) := by rw [xup_at, if_pos ⟨rfl, rfl⟩]
    have u4 : xup J 3 9 (nI (s + 1)) 3 4 = nI m := by rw [xup_at, if_neg (by omega)]; exact h4
    have u3 : xup J 3 9 (nI (s + 1)) 4 = J 4 := by funext k; rw [xup_at, if_neg (by omega)]
    cases hl : isLt (J 4 s) with
    | true =>
      have est := nxP_step (q := isLt) (b := J 4) hsm hl
      have hge := nxP_ge (q := isLt) (b := J 4) (m := m) (p := s)
      have hle := nxP_le (q := isLt) (b := J 4) hs
      have sk := skipL_ok (σ := σ) (J := xup J 3 9 (nI (s + 1))) hS hm u4 (show s + 1 ≤ m by omega) u9
      rw [u3, est, xup2] at sk
      have v8 : xup J 3 9 (nI (nxP isLt (J 4) m s)) 3 8 = nI s := by rw [xup_at, if_neg (by omega)]; exact h8
      have v9 : xup J 3 9 (nI (nxP isLt (J 4) m s)) 3 9 = nI (nxP isLt (J 4) m s) := by rw [xup_at, if_pos ⟨rfl, rfl⟩]
      have v4 : xup J 3 9 (nI (nxP isLt (J 4) m s)) 3 4 = nI m := by rw [xup_at, if_neg (by omega)]; exact h4
      have v3 : xup J 3 9 (nI (nxP isLt (J 4) m s)) 4 = J 4 := by funext k; rw [xup_at, if_neg (by omega)]
      have wk := wordKind_ok (σ := σ) (J := xup J 3 9 (nI (nxP isLt (J 4) m s))) hS hm v4 hge hle v8 v9 (fun k h1 h2 => by rw [v3]; exact nxP_in (q := isLt) (b := J 4) (m := m) (p := s) h1 h2)
      rw [v3] at wk
      have tk : tK0 (J 4) m s = wdK (J 4) s (nxP isLt (J 4) m s - s) := by unfold tK0; rw [if_neg nm, if_pos hl]
      have te : tE0 (J 4) m s = nxP isLt (J 4) m s := by unfold tE0; rw [if_neg nm, if_pos hl]
      rw [tk, te]
      refine ⟨xup (xup J 3 9 (nI (nxP isLt (J 4) m s))) 3 6 (nI (wdK (J 4) s (nxP isLt (J 4) m s - s))), ?_, ?_, ?_, ?_, fun z => ?_, fun a q hq => ?_⟩
      · unfold f_X8_findToken_j43
        simp (disch := first | assumption | omega) only [Option.bind_some, Option.map_some, xw_gR, xw_gN, xw_al, xw_ck, xw_uI, xw_ur, xup_at, xur_at, if_true, if_false, reduceIte, and_true, true_and, and_false, false_and, not_true_eq_false, not_false_eq_true, Nat.reduceEqDiff, eq_self, Nat.reduceAdd, Nat.reduceMul, kC1, kG1, kP1, kR1_0, kR1_1, kR1_2, kR1_3, kR1_4, kR1_5, kR1_6, kR1_7, kR1_8, kR1_9, kR1_10, kR1_11, kR1_12, kR1_13, kC2, kG2, kP2, kR2_0, kR2_1, kC3, kG3, kP3, kR3_0, kR3_1, kR3_2, kR3_3, kL4, kA4, kS4, kL5, kA5, kS5, kL6, kA6, kS6, kL7, kA7, kS7, kC8, kG8, kP8, kR8_0, kR8_1, kL9, kA9, kS9, kL10, kA10, kS10, kC11, kG11, kP11, kR11_0, kR11_1, kR11_2, kR11_3, kL12, kA12, kS12, kL13, kA13, kS13, kL14, kA14, kS14, kL15, kA15, kS15, kC16, kG16, kP16, kR16_0, kR16_1, kL17, kA17, kS17, kL18, kA18, kS18, kC19, kG19, kP19, kR19_0, kL20, kL141, kL146, kA146, kS146, kL151, kA151, kS151, kL156, kA156, kS156, kC157, kG157, kP157, kR157_0, kR157_1, kL158, kA158, kS158, kL159, kA159, kS159, kC161, kG161, kP161, kR161_0, kR161_1, kL162, kA162, kS162, kL163, kA163, kS163, kC165, kG165, kP165, kR165_0, kR165_1, kR165_2, kR165_3, kL166, kA166, kS166, kL167, kA167, kS167, kL168, kA168, kS168, kL169, kA169, kS169, kC170, kG170, kP170, kR170_0, kR170_1, kR170_2, kL171, kA171, kS171, kL172, kA172, kS172, kL173, kA173, kS173, kC174, kG174, kP174, kR174_0, kR174_1, kR174_2, kR174_3, kR174_4, kL175, kA175, kS175, kL176, kA176, kS176, kL177, kA177, kS177, kL178, kA178, kS178, kL179, kC180, kG180, kP180, kL181, kL182, kA182, kS182, kC183, kG183, kP183, kR183_1, kR183_3, kR183_5, kR183_6, kR183_7, kR183_8, kR183_9, kR183_21, kR183_26, kR183_27, kR183_30, kR183_31, kR183_33, kR183_34, kR183_36, kR183_37, kR183_38, kR183_39, kR183_40, kR183_41, kR183_42, kR183_43, kR183_44, kL184, kA184, kS184, kL185, kA185, kS185, kL186, kA186, kS186, kL187, kA187, kS187, kL188, kA188, kS188, kL189, kL190, kL191, kA191, kS191, kL192, kA192, kS192, kL193, kA193, kS193, kL194, kA194, kS194, kL195, kA195, kS195, kL196, kA196, kS196, kL197, kA197, kS197, kL198, kA198, kS198, kL199, kA199, kS199, kL200, kA200, kS200, kL201, kL202, kA202, kS202, kL203, kA203, kS203, kL204, kA204, kS204, kL205, kL206, kA206, kS206, h8, hb, h4, lt8_ok, hl, one0, ← nI_succ, q0, hsm, sk, wk]
      · rw [xup_at, if_neg (by omega)]; exact v8
      · rw [xup_at, if_neg (by omega)]; exact v9
      · rw [xup_at, if_pos ⟨rfl, rfl⟩]
      · exfalso
        have h2 : ∀ p k, k ≤ 11 → wkF p k ≠ 2 := by
          intro p k
          induction k with
          | zero => intro _ q; cases q
          | succ k ih =>
            intro hk q
            rw [wkF] at q
            split at q
            · omega
            · exact ih (by omega) q
        exact h2 _ 11 (by omega) z
      · rw [xup_at, if_neg (by omega), xup_at, if_neg (by omega)]
    | false =>
      cases hd : isDg (J 4 s) with
      | true =>
        obtain ⟨J', j1, j2, j3, j4, j5⟩ := findInt_ok (σ := σ) (J := xup J 3 9 (nI (s + 1))) hS hm u4 hsm u8 u9 (by rw [u3]; exact hd)
        rw [u3] at j2 j3 j4
        have tk : tK0 (J 4) m s = if nxP isDg (J 4) m s - s ≤ 4 then 2 else 1 := by unfold tK0; rw [if_neg nm, hl, if_neg (by decide), if_pos hd]
        have te : tE0 (J 4) m s = nxP isDg (J 4) m s := by unfold tE0; rw [if_neg nm, hl, if_neg (by decide), if_pos hd]
        rw [tk, te]
        refine ⟨J', ?_, ?_, j2, j3, fun z => ?_, fun a q hq => ?_⟩
        · unfold f_X8_findToken_j43
          simp (disch := first | assumption | omega) only [Option.bind_some, Option.map_some, xw_gR, xw_gN, xw_al, xw_ck, xw_uI, xw_ur, xup_at, xur_at, if_true, if_false, reduceIte, and_true, true_and, and_false, false_and, not_true_eq_false, not_false_eq_true, Nat.reduceEqDiff, eq_self, Nat.reduceAdd, Nat.reduceMul, kC1, kG1, kP1, kR1_0, kR1_1, kR1_2, kR1_3, kR1_4, kR1_5, kR1_6, kR1_7, kR1_8, kR1_9, kR1_10, kR1_11, kR1_12, kR1_13, kC2, kG2, kP2, kR2_0, kR2_1, kC3, kG3, kP3, kR3_0, kR3_1, kR3_2, kR3_3, kL4, kA4, kS4, kL5, kA5, kS5, kL6, kA6, kS6, kL7, kA7, kS7, kC8, kG8, kP8, kR8_0, kR8_1, kL9, kA9, kS9, kL10, kA10, kS10, kC11, kG11, kP11, kR11_0, kR11_1, kR11_2, kR11_3, kL12, kA12, kS12, kL13, kA13, kS13, kL14, kA14, kS14, kL15, kA15, kS15, kC16, kG16, kP16, kR16_0, kR16_1, kL17, kA17, kS17, kL18, kA18, kS18, kC19, kG19, kP19, kR19_0, kL20, kL141, kL146, kA146, kS146, kL151, kA151, kS151, kL156, kA156, kS156, kC157, kG157, kP157, kR157_0, kR157_1, kL158, kA158, kS158, kL159, kA159, kS159, kC161, kG161, kP161, kR161_0, kR161_1, kL162, kA162, kS162, kL163, kA163, kS163, kC165, kG165, kP165, kR165_0, kR165_1, kR165_2, kR165_3, kL166, kA166, kS166, kL167, kA167, kS167, kL168, kA168, kS168, kL169, kA169, kS169, kC170, kG170, kP170, kR170_0, kR170_1, kR170_2, kL171, kA171, kS171, kL172, kA172, kS172, kL173, kA173, kS173, kC174, kG174, kP174, kR174_0, kR174_1, kR174_2, kR174_3, kR174_4, kL175, kA175, kS175, kL176, kA176, kS176, kL177, kA177, kS177, kL178, kA178, kS178, kL179, kC180, kG180, kP180, kL181, kL182, kA182, kS182, kC183, kG183, kP183, kR183_1, kR183_3, kR183_5, kR183_6, kR183_7, kR183_8, kR183_9, kR183_21, kR183_26, kR183_27, kR183_30, kR183_31, kR183_33, kR183_34, kR183_36, kR183_37, kR183_38, kR183_39, kR183_40, kR183_41, kR183_42, kR183_43, kR183_44, kL184, kA184, kS184, kL185, kA185, kS185, kL186, kA186, kS186, kL187, kA187, kS187, kL188, kA188, kS188, kL189, kL190, kL191, kA191, kS191, kL192, kA192, kS192, kL193, kA193, kS193, kL194, kA194, kS194, kL195, kA195, kS195, kL196, kA196, kS196, kL197, kA197, kS197, kL198, kA198, kS198, kL199, kA199, kS199, kL200, kA200, kS200, kL201, kL202, kA202, kS202, kL203, kA203, kS203, kL204, kA204, kS204, kL205, kL206, kA206, kS206, h8, hb, h4, lt8_ok, hl, Bool.false_eq_true, dg8_ok, hd, one0, ← nI_succ, q0, hsm, j1]
        · rw [j5 3 8 (by omega)]; exact u8
        · have h5 : nxP isDg (J 4) m s - s ≤ 4 := by
            apply Classical.byContradiction
            intro w
            rw [if_neg w] at z
            cases z
          exact j4 h5
        · rw [j5 a q (by omega), xup_at, if_neg (by omega)]
      | false =>
        have te : tE0 (J 4) m s = s + 1 := by unfold tE0; rw [if_neg nm, hl, if_neg (by decide), hd, if_neg (by decide)]
        have tk : tK0 (J 4) m s = if J 4 s = 45 then 3 else if J 4 s = 59 then 4 else 1 := by unfold tK0; rw [if_neg nm, hl, if_neg (by decide), hd, if_neg (by decide)]
        rw [te, tk]
        refine ⟨xup (xup J 3 9 (nI (s + 1))) 3 6 (nI (if J 4 s = 45 then 3 else if J 4 s = 59 then 4 else 1)), ?_, ?_, ?_, ?_, fun z => ?_, fun a q hq => ?_⟩
        · unfold f_X8_findToken_j43
          simp (disch := first | assumption | omega) only [Option.bind_some, Option.map_some, xw_gR, xw_gN, xw_al, xw_ck, xw_uI, xw_ur, xup_at, xur_at, if_true, if_false, reduceIte, and_true, true_and, and_false, false_and, not_true_eq_false, not_false_eq_true, Nat.reduceEqDiff, eq_self, Nat.reduceAdd, Nat.reduceMul, kC1, kG1, kP1, kR1_0, kR1_1, kR1_2, kR1_3, kR1_4, kR1_5, kR1_6, kR1_7, kR1_8, kR1_9, kR1_10, kR1_11, kR1_12, kR1_13, kC2, kG2, kP2, kR2_0, kR2_1, kC3, kG3, kP3, kR3_0, kR3_1, kR3_2, kR3_3, kL4, kA4, kS4, kL5, kA5, kS5, kL6, kA6, kS6, kL7, kA7, kS7, kC8, kG8, kP8, kR8_0, kR8_1, kL9, kA9, kS9, kL10, kA10, kS10, kC11, kG11, kP11, kR11_0, kR11_1, kR11_2, kR11_3, kL12, kA12, kS12, kL13, kA13, kS13, kL14, kA14, kS14, kL15, kA15, kS15, kC16, kG16, kP16, kR16_0, kR16_1, kL17, kA17, kS17, kL18, kA18, kS18, kC19, kG19, kP19, kR19_0, kL20, kL141, kL146, kA146, kS146, kL151, kA151, kS151, kL156, kA156, kS156, kC157, kG157, kP157, kR157_0, kR157_1, kL158, kA158, kS158, kL159, kA159, kS159, kC161, kG161, kP161, kR161_0, kR161_1, kL162, kA162, kS162, kL163, kA163, kS163, kC165, kG165, kP165, kR165_0, kR165_1, kR165_2, kR165_3, kL166, kA166, kS166, kL167, kA167, kS167, kL168, kA168, kS168, kL169, kA169, kS169, kC170, kG170, kP170, kR170_0, kR170_1, kR170_2, kL171, kA171, kS171, kL172, kA172, kS172, kL173, kA173, kS173, kC174, kG174, kP174, kR174_0, kR174_1, kR174_2, kR174_3, kR174_4, kL175, kA175, kS175, kL176, kA176, kS176, kL177, kA177, kS177, kL178, kA178, kS178, kL179, kC180, kG180, kP180, kL181, kL182, kA182, kS182, kC183, kG183, kP183, kR183_1, kR183_3, kR183_5, kR183_6, kR183_7, kR183_8, kR183_9, kR183_21, kR183_26, kR183_27, kR183_30, kR183_31, kR183_33, kR183_34, kR183_36, kR183_37, kR183_38, kR183_39, kR183_40, kR183_41, kR183_42, kR183_43, kR183_44, kL184, kA184, kS184, kL185, kA185, kS185, kL186, kA186, kS186, kL187, kA187, kS187, kL188, kA188, kS188, kL189, kL190, kL191, kA191, kS191, kL192, kA192, kS192, kL193, kA193, kS193, kL194, kA194, kS194, kL195, kA195, kS195, kL196, kA196, kS196, kL197, kA197, kS197, kL198, kA198, kS198, kL199, kA199, kS199, kL200, kA200, kS200, kL201, kL202, kA202, kS202, kL203, kA203, kS203, kL204, kA204, kS204, kL205, kL206, kA206, kS206, h8, hb, h4, lt8_ok, hl, Bool.false_eq_true, dg8_ok, hd, ← nI_succ, q0, hsm]
          by_cases z1 : J 4 s = 45
          · rw [if_pos z1, if_pos z1]; rfl
          · rw [if_neg z1, if_neg z1]
            by_cases z2 : J 4 s = 59
            · rw [if_pos z2, if_pos z2]; rfl
            · rw [if_neg z2, if_neg z2]; rfl
        · rw [xup_at, if_neg (by omega)]; exact u8
        · rw [xup_at, if_neg (by omega)]; exact u9
        · rw [xup_at, if_pos ⟨rfl, rfl⟩]
        · exfalso
          split at z
          · cases z
          · split at z <;> cases z
        · rw [xup_at, if_neg (by omega), xup_at, if_neg (by omega)]
  · have esm : s = m := by omega
    have tk : tK0 (J 4) m s = 0 := by unfold tK0; rw [if_pos (by omega)]
    have te : tE0 (J 4) m s = m := by unfold tE0; rw [if_pos (by omega)]
    have hb : f_X8_byteAt (xw σ J) 3 (nI s) = some 0 := by
      unfold f_X8_byteAt
      have q1 : (nI m ≤ nI s) = True := by rw [nn_le (by omega) (by omega)]; exact eq_true (by omega)
      rw [if_neg (nI_pos (by omega))]
      simp (disch := first | assumption | omega) only [Option.bind_some, Option.map_some, xw_gR, xw_gN, xw_al, xw_ck, xw_uI, xw_ur, xup_at, xur_at, if_true, if_false, reduceIte, and_true, true_and, and_false, false_and, not_true_eq_false, not_false_eq_true, Nat.reduceEqDiff, eq_self, Nat.reduceAdd, Nat.reduceMul, kC1, kG1, kP1, kR1_0, kR1_1, kR1_2, kR1_3, kR1_4, kR1_5, kR1_6, kR1_7, kR1_8, kR1_9, kR1_10, kR1_11, kR1_12, kR1_13, kC2, kG2, kP2, kR2_0, kR2_1, kC3, kG3, kP3, kR3_0, kR3_1, kR3_2, kR3_3, kL4, kA4, kS4, kL5, kA5, kS5, kL6, kA6, kS6, kL7, kA7, kS7, kC8, kG8, kP8, kR8_0, kR8_1, kL9, kA9, kS9, kL10, kA10, kS10, kC11, kG11, kP11, kR11_0, kR11_1, kR11_2, kR11_3, kL12, kA12, kS12, kL13, kA13, kS13, kL14, kA14, kS14, kL15, kA15, kS15, kC16, kG16, kP16, kR16_0, kR16_1, kL17, kA17, kS17, kL18, kA18, kS18, kC19, kG19, kP19, kR19_0, kL20, kL141, kL146, kA146, kS146, kL151, kA151, kS151, kL156, kA156, kS156, kC157, kG157, kP157, kR157_0, kR157_1, kL158, kA158, kS158, kL159, kA159, kS159, kC161, kG161, kP161, kR161_0, kR161_1, kL162, kA162, kS162, kL163, kA163, kS163, kC165, kG165, kP165, kR165_0, kR165_1, kR165_2, kR165_3, kL166, kA166, kS166, kL167, kA167, kS167, kL168, kA168, kS168, kL169, kA169, kS169, kC170, kG170, kP170, kR170_0, kR170_1, kR170_2, kL171, kA171, kS171, kL172, kA172, kS172, kL173, kA173, kS173, kC174, kG174, kP174, kR174_0, kR174_1, kR174_2, kR174_3, kR174_4, kL175, kA175, kS175, kL176, kA176, kS176, kL177, kA177, kS177, kL178, kA178, kS178, kL179, kC180, kG180, kP180, kL181, kL182, kA182, kS182, kC183, kG183, kP183, kR183_1, kR183_3, kR183_5, kR183_6, kR183_7, kR183_8, kR183_9, kR183_21, kR183_26, kR183_27, kR183_30, kR183_31, kR183_33, kR183_34, kR183_36, kR183_37, kR183_38, kR183_39, kR183_40, kR183_41, kR183_42, kR183_43, kR183_44, kL184, kA184, kS184, kL185, kA185, kS185, kL186, kA186, kS186, kL187, kA187, kS187, kL188, kA188, kS188, kL189, kL190, kL191, kA191, kS191, kL192, kA192, kS192, kL193, kA193, kS193, kL194, kA194, kS194, kL195, kA195, kS195, kL196, kA196, kS196, kL197, kA197, kS197, kL198, kA198, kS198, kL199, kA199, kS199, kL200, kA200, kS200, kL201, kL202, kA202, kS202, kL203, kA203, kS203, kL204, kA204, kS204, kL205, kL206, kA206, kS206, h4, q1]
    rw [tk, te]
    refine ⟨xup (xup (xup J 3 9 (nI (s + 1))) 3 9 (nI m)) 3 6 0, ?_, ?_, ?_, ?_, (fun z => by cases z), fun a q hq => ?_⟩
    · unfold f_X8_findToken_j43
      simp (disch := first | assumption | omega) only [Option.bind_some, Option.map_some, xw_gR, xw_gN, xw_al, xw_ck, xw_uI, xw_ur, xup_at, xur_at, if_true, if_false, reduceIte, and_true, true_and, and_false, false_and, not_true_eq_false, not_false_eq_true, Nat.reduceEqDiff, eq_self, Nat.reduceAdd, Nat.reduceMul, kC1, kG1, kP1, kR1_0, kR1_1, kR1_2, kR1_3, kR1_4, kR1_5, kR1_6, kR1_7, kR1_8, kR1_9, kR1_10, kR1_11, kR1_12, kR1_13, kC2, kG2, kP2, kR2_0, kR2_1, kC3, kG3, kP3, kR3_0, kR3_1, kR3_2, kR3_3, kL4, kA4, kS4, kL5, kA5, kS5, kL6, kA6, kS6, kL7, kA7, kS7, kC8, kG8, kP8, kR8_0, kR8_1, kL9, kA9, kS9, kL10, kA10, kS10, kC11, kG11, kP11, kR11_0, kR11_1, kR11_2, kR11_3, kL12, kA12, kS12, kL13, kA13, kS13, kL14, kA14, kS14, kL15, kA15, kS15, kC16, kG16, kP16, kR16_0, kR16_1, kL17, kA17, kS17, kL18, kA18, kS18, kC19, kG19, kP19, kR19_0, kL20, kL141, kL146, kA146, kS146, kL151, kA151, kS151, kL156, kA156, kS156, kC157, kG157, kP157, kR157_0, kR157_1, kL158, kA158, kS158, kL159, kA159, kS159, kC161, kG161, kP161, kR161_0, kR161_1, kL162, kA162, kS162, kL163, kA163, kS163, kC165, kG165, kP165, kR165_0, kR165_1, kR165_2, kR165_3, kL166, kA166, kS166, kL167, kA167, kS167, kL168, kA168, kS168, kL169, kA169, kS169, kC170, kG170, kP170, kR170_0, kR170_1, kR170_2, kL171, kA171, kS171, kL172, kA172, kS172, kL173, kA173, kS173, kC174, kG174, kP174, kR174_0, kR174_1, kR174_2, kR174_3, kR174_4, kL175, kA175, kS175, kL176, kA176, kS176, kL177, kA177, kS177, kL178, kA178, kS178, kL179, kC180, kG180, kP180, kL181, kL182, kA182, kS182, kC183, kG183, kP183, kR183_1, kR183_3, kR183_5, kR183_6, kR183_7, kR183_8, kR183_9, kR183_21, kR183_26, kR183_27, kR183_30, kR183_31, kR183_33, kR183_34, kR183_36, kR183_37, kR183_38, kR183_39, kR183_40, kR183_41, kR183_42, kR183_43, kR183_44, kL184, kA184, kS184, kL185, kA185, kS185, kL186, kA186, kS186, kL187, kA187, kS187, kL188, kA188, kS188, kL189, kL190, kL191, kA191, kS191, kL192, kA192, kS192, kL193, kA193, kS193, kL194, kA194, kS194, kL195, kA195, kS195, kL196, kA196, kS196, kL197, kA197, kS197, kL198, kA198, kS198, kL199, kA199, kS199, kL200, kA200, kS200, kL201, kL202, kA202, kS202, kL203, kA203, kS203, kL204, kA204, kS204, kL205, kL206, kA206, kS206, h8, hb, h4, ← nI_succ, q0, hsm]
    · rw [xup_at, if_neg (by omega), xup_at, if_neg (by omega), xup_at, if_neg (by omega)]; exact h8
    · rw [xup_at, if_neg (by omega), xup_at, if_pos ⟨rfl, rfl⟩]
    · rw [xup_at, if_pos ⟨rfl, rfl⟩]; rfl
    · rw [xup_at, if_neg (by omega), xup_at, if_neg (by omega), xup_at, if_neg (by omega)]
theorem findTok_ok (hS : Shp σ) (hm : m ≤ 2000) (h4 : J 3 4 = nI m) {p : Nat} (hp : p ≤ m) : ∃ J', f_X8_findToken (xw σ J) 3 (nI p) = some (xw σ J') ∧ J' 3 8 = nI (tS0 (J 4) m p) ∧ J' 3 9 = nI (tE0 (J 4) m (tS0 (J 4) m p)) ∧ J' 3 6 = nI (tK0 (J 4) m (tS0 (J 4) m p)) ∧ (tK0 (J 4) m (tS0 (J 4) m p) = 2 → J' 3 7 = nI (tN0 (J 4) m (tS0 (J 4) m p))) ∧ ∀ a q, ¬ (a = 3 ∧ 6 ≤ q ∧ q ≤ 9) → J' a q = J a q := by
  obtain ⟨s, hs⟩ : ∃ s, s = tS0 (J 4) m p := ⟨_, rfl⟩
  have hge : p ≤ s := by rw [hs]; exact nxP_ge
  have hle : s ≤ m := by rw [hs]; exact nxP_le hp
  have hbl : ∀ k, p ≤ k → k < s → isBl (J 4 k) = true := fun k h1 h2 => nxP_in (q := isBl) (b := J 4) (m := m) (p := p) h1 (by rw [hs] at h2; exact h2)
  have hno : s < m → isBl (J 4 s) = false := fun h => by rw [hs] at h ⊢; exact nxP_out h
  rw [← hs]
  have u4 : ∀ v, xup J 3 8 v 3 4 = nI m := fun v => by rw [xup_at, if_neg (by omega)]; exact h4
  have u3 : ∀ v, xup J 3 8 v 4 = J 4 := fun v => by funext k; rw [xup_at, if_neg (by omega)]
  have u8 : ∀ v, xup J 3 8 v 3 8 = v := fun v => by rw [xup_at, if_pos ⟨rfl, rfl⟩]
  obtain ⟨J', j1, j2, j3, j4, j5, j6⟩ := tok43_ok (σ := σ) (J := xup J 3 8 (nI s)) hS hm (u4 _) hle (u8 _)
  rw [u3] at j3 j4 j5
  refine ⟨J', ?_, j2, j3, j4, j5, fun a q hq => by rw [j6 a q hq, xup_at, if_neg (by omega)]⟩
  unfold f_X8_findToken
  simp (disch := first | assumption | omega) only [Option.bind_some, Option.map_some, xw_gR, xw_gN, xw_al, xw_ck, xw_uI, xw_ur, xup_at, xur_at, if_true, if_false, reduceIte, and_true, true_and, and_false, false_and, not_true_eq_false, not_false_eq_true, Nat.reduceEqDiff, eq_self, Nat.reduceAdd, Nat.reduceMul, kC1, kG1, kP1, kR1_0, kR1_1, kR1_2, kR1_3, kR1_4, kR1_5, kR1_6, kR1_7, kR1_8, kR1_9, kR1_10, kR1_11, kR1_12, kR1_13, kC2, kG2, kP2, kR2_0, kR2_1, kC3, kG3, kP3, kR3_0, kR3_1, kR3_2, kR3_3, kL4, kA4, kS4, kL5, kA5, kS5, kL6, kA6, kS6, kL7, kA7, kS7, kC8, kG8, kP8, kR8_0, kR8_1, kL9, kA9, kS9, kL10, kA10, kS10, kC11, kG11, kP11, kR11_0, kR11_1, kR11_2, kR11_3, kL12, kA12, kS12, kL13, kA13, kS13, kL14, kA14, kS14, kL15, kA15, kS15, kC16, kG16, kP16, kR16_0, kR16_1, kL17, kA17, kS17, kL18, kA18, kS18, kC19, kG19, kP19, kR19_0, kL20, kL141, kL146, kA146, kS146, kL151, kA151, kS151, kL156, kA156, kS156, kC157, kG157, kP157, kR157_0, kR157_1, kL158, kA158, kS158, kL159, kA159, kS159, kC161, kG161, kP161, kR161_0, kR161_1, kL162, kA162, kS162, kL163, kA163, kS163, kC165, kG165, kP165, kR165_0, kR165_1, kR165_2, kR165_3, kL166, kA166, kS166, kL167, kA167, kS167, kL168, kA168, kS168, kL169, kA169, kS169, kC170, kG170, kP170, kR170_0, kR170_1, kR170_2, kL171, kA171, kS171, kL172, kA172, kS172, kL173, kA173, kS173, kC174, kG174, kP174, kR174_0, kR174_1, kR174_2, kR174_3, kR174_4, kL175, kA175, kS175, kL176, kA176, kS176, kL177, kA177, kS177, kL178, kA178, kS178, kL179, kC180, kG180, kP180, kL181, kL182, kA182, kS182, kC183, kG183, kP183, kR183_1, kR183_3, kR183_5, kR183_6, kR183_7, kR183_8, kR183_9, kR183_21, kR183_26, kR183_27, kR183_30, kR183_31, kR183_33, kR183_34, kR183_36, kR183_37, kR183_38, kR183_39, kR183_40, kR183_41, kR183_42, kR183_43, kR183_44, kL184, kA184, kS184, kL185, kA185, kS185, kL186, kA186, kS186, kL187, kA187, kS187, kL188, kA188, kS188, kL189, kL190, kL191, kA191, kS191, kL192, kA192, kS192, kL193, kA193, kS193, kL194, kA194, kS194, kL195, kA195, kS195, kL196, kA196, kS196, kL197, kA197, kS197, kL198, kA198, kS198, kL199, kA199, kS199, kL200, kA200, kS200, kL201, kL202, kA202, kS202, kL203, kA203, kS203, kL204, kA204, kS204, kL205, kL206, kA206, kS206]
  have ends : nI (p + (s - p)) = nI s := by congr 1; omega
  refine xforE (fun i : Nat => xw σ (xup J 3 8 (nI (p + i)))) (s - p) ?_ (fun i hi => ?_) ?_
  · show xw σ (xup J 3 8 (nI p)) = xw σ (xup J 3 8 (nI (p + 0)))
    rw [Nat.add_zero]
  · have hb := byte8_ok (σ := σ) (J := xup J 3 8 (nI (p + i))) hS hm (u4 _) (show p + i < m by omega)
    rw [u3] at hb
    have hl := hbl (p + i) (by omega) (by omega)
    have q1 : (nI m ≤ nI (p + i)) = False := by rw [nn_le (by omega) (by omega)]; exact eq_false (by omega)
    simp only [f_X8_findToken_b5]
    simp (disch := first | assumption | omega) only [Option.bind_some, Option.map_some, xw_gR, xw_gN, xw_al, xw_ck, xw_uI, xw_ur, xup_at, xur_at, if_true, if_false, reduceIte, and_true, true_and, and_false, false_and, not_true_eq_false, not_false_eq_true, Nat.reduceEqDiff, eq_self, Nat.reduceAdd, Nat.reduceMul, kC1, kG1, kP1, kR1_0, kR1_1, kR1_2, kR1_3, kR1_4, kR1_5, kR1_6, kR1_7, kR1_8, kR1_9, kR1_10, kR1_11, kR1_12, kR1_13, kC2, kG2, kP2, kR2_0, kR2_1, kC3, kG3, kP3, kR3_0, kR3_1, kR3_2, kR3_3, kL4, kA4, kS4, kL5, kA5, kS5, kL6, kA6, kS6, kL7, kA7, kS7, kC8, kG8, kP8, kR8_0, kR8_1, kL9, kA9, kS9, kL10, kA10, kS10, kC11, kG11, kP11, kR11_0, kR11_1, kR11_2, kR11_3, kL12, kA12, kS12, kL13, kA13, kS13, kL14, kA14, kS14, kL15, kA15, kS15, kC16, kG16, kP16, kR16_0, kR16_1, kL17, kA17, kS17, kL18, kA18, kS18, kC19, kG19, kP19, kR19_0, kL20, kL141, kL146, kA146, kS146, kL151, kA151, kS151, kL156, kA156, kS156, kC157, kG157, kP157, kR157_0, kR157_1, kL158, kA158, kS158, kL159, kA159, kS159, kC161, kG161, kP161, kR161_0, kR161_1, kL162, kA162, kS162, kL163, kA163, kS163, kC165, kG165, kP165, kR165_0, kR165_1, kR165_2, kR165_3, kL166, kA166, kS166, kL167, kA167, kS167, kL168, kA168, kS168, kL169, kA169, kS169, kC170, kG170, kP170, kR170_0, kR170_1, kR170_2, kL171, kA171, kS171, kL172, kA172, kS172, kL173, kA173, kS173, kC174, kG174, kP174, kR174_0, kR174_1, kR174_2, kR174_3, kR174_4, kL175, kA175, kS175, kL176, kA176, kS176, kL177, kA177, kS177, kL178, kA178, kS178, kL179, kC180, kG180, kP180, kL181, kL182, kA182, kS182, kC183, kG183, kP183, kR183_1, kR183_3, kR183_5, kR183_6, kR183_7, kR183_8, kR183_9, kR183_21, kR183_26, kR183_27, kR183_30, kR183_31, kR183_33, kR183_34, kR183_36, kR183_37, kR183_38, kR183_39, kR183_40, kR183_41, kR183_42, kR183_43, kR183_44, kL184, kA184, kS184, kL185, kA185, kS185, kL186, kA186, kS186, kL187, kA187, kS187, kL188, kA188, kS188, kL189, kL190, kL191, kA191, kS191, kL192, kA192, kS192, kL193, kA193, kS193, kL194, kA194, kS194, kL195, kA195, kS195, kL196, kA196, kS196, kL197, kA197, kS197, kL198, kA198, kS198, kL199, kA199, kS199, kL200, kA200, kS200, kL201, kL202, kA202, kS202, kL203, kA203, kS203, kL204, kA204, kS204, kL205, kL206, kA206, kS206, h4, q1, hb, bl8_ok, hl, one0]
    rw [← nI_succ, xup2]
    rfl
  · rw [ends]
    by_cases z : s = m
    · have q1 : (nI m ≤ nI s) = True := by rw [nn_le (by omega) (by omega)]; exact eq_true (by omega)
      simp only [f_X8_findToken_b5]
      simp (disch := first | assumption | omega) only [Option.bind_some, Option.map_some, xw_gR, xw_gN, xw_al, xw_ck, xw_uI, xw_ur, xup_at, xur_at, if_true, if_false, reduceIte, and_true, true_and, and_false, false_and, not_true_eq_false, not_false_eq_true, Nat.reduceEqDiff, eq_self, Nat.reduceAdd, Nat.reduceMul, kC1, kG1, kP1, kR1_0, kR1_1, kR1_2, kR1_3, kR1_4, kR1_5, kR1_6, kR1_7, kR1_8, kR1_9, kR1_10, kR1_11, kR1_12, kR1_13, kC2, kG2, kP2, kR2_0, kR2_1, kC3, kG3, kP3, kR3_0, kR3_1, kR3_2, kR3_3, kL4, kA4, kS4, kL5, kA5, kS5, kL6, kA6, kS6, kL7, kA7, kS7, kC8, kG8, kP8, kR8_0, kR8_1, kL9, kA9, kS9, kL10, kA10, kS10, kC11, kG11, kP11, kR11_0, kR11_1, kR11_2, kR11_3, kL12, kA12, kS12, kL13, kA13, kS13, kL14, kA14, kS14, kL15, kA15, kS15, kC16, kG16, kP16, kR16_0, kR16_1, kL17, kA17, kS17, kL18, kA18, kS18, kC19, kG19, kP19, kR19_0, kL20, kL141, kL146, kA146, kS146, kL151, kA151, kS151, kL156, kA156, kS156, kC157, kG157, kP157, kR157_0, kR157_1, kL158, kA158, kS158, kL159, kA159, kS159, kC161, kG161, kP161, kR161_0, kR161_1, kL162, kA162, kS162, kL163, kA163, kS163, kC165, kG165, kP165, kR165_0, kR165_1, kR165_2, kR165_3, kL166, kA166, kS166, kL167, kA167, kS167, kL168, kA168, kS168, kL169, kA169, kS169, kC170, kG170, kP170, kR170_0, kR170_1, kR170_2, kL171, kA171, kS171, kL172, kA172, kS172, kL173, kA173, kS173, kC174, kG174, kP174, kR174_0, kR174_1, kR174_2, kR174_3, kR174_4, kL175, kA175, kS175, kL176, kA176, kS176, kL177, kA177, kS177, kL178, kA178, kS178, kL179, kC180, kG180, kP180, kL181, kL182, kA182, kS182, kC183, kG183, kP183, kR183_1, kR183_3, kR183_5, kR183_6, kR183_7, kR183_8, kR183_9, kR183_21, kR183_26, kR183_27, kR183_30, kR183_31, kR183_33, kR183_34, kR183_36, kR183_37, kR183_38, kR183_39, kR183_40, kR183_41, kR183_42, kR183_43, kR183_44, kL184, kA184, kS184, kL185, kA185, kS185, kL186, kA186, kS186, kL187, kA187, kS187, kL188, kA188, kS188, kL189, kL190, kL191, kA191, kS191, kL192, kA192, kS192, kL193, kA193, kS193, kL194, kA194, kS194, kL195, kA195, kS195, kL196, kA196, kS196, kL197, kA197, kS197, kL198, kA198, kS198, kL199, kA199, kS199, kL200, kA200, kS200, kL201, kL202, kA202, kS202, kL203, kA203, kS203, kL204, kA204, kS204, kL205, kL206, kA206, kS206, h4, q1, j1]
    · have hb := byte8_ok (σ := σ) (J := xup J 3 8 (nI s)) hS hm (u4 _) (show s < m by omega)
      rw [u3] at hb
      have hl := hno (by omega)
      have q1 : (nI m ≤ nI s) = False := by rw [nn_le (by omega) (by omega)]; exact eq_false (by omega)
      simp only [f_X8_findToken_b5]
      simp (disch := first | assumption | omega) only [Option.bind_some, Option.map_some, xw_gR, xw_gN, xw_al, xw_ck, xw_uI, xw_ur, xup_at, xur_at, if_true, if_false, reduceIte, and_true, true_and, and_false, false_and, not_true_eq_false, not_false_eq_true, Nat.reduceEqDiff, eq_self, Nat.reduceAdd, Nat.reduceMul, kC1, kG1, kP1, kR1_0, kR1_1, kR1_2, kR1_3, kR1_4, kR1_5, kR1_6, kR1_7, kR1_8, kR1_9, kR1_10, kR1_11, kR1_12, kR1_13, kC2, kG2, kP2, kR2_0, kR2_1, kC3, kG3, kP3, kR3_0, kR3_1, kR3_2, kR3_3, kL4, kA4, kS4, kL5, kA5, kS5, kL6, kA6, kS6, kL7, kA7, kS7, kC8, kG8, kP8, kR8_0, kR8_1, kL9, kA9, kS9, kL10, kA10, kS10, kC11, kG11, kP11, kR11_0, kR11_1, kR11_2, kR11_3, kL12, kA12, kS12, kL13, kA13, kS13, kL14, kA14, kS14, kL15, kA15, kS15, kC16, kG16, kP16, kR16_0, kR16_1, kL17, kA17, kS17, kL18, kA18, kS18, kC19, kG19, kP19, kR19_0, kL20, kL141, kL146, kA146, kS146, kL151, kA151, kS151, kL156, kA156, kS156, kC157, kG157, kP157, kR157_0, kR157_1, kL158, kA158, kS158, kL159, kA159, kS159, kC161, kG161, kP161, kR161_0, kR161_1, kL162, kA162, kS162, kL163, kA163, kS163, kC165, kG165, kP165, kR165_0, kR165_1, kR165_2, kR165_3, kL166, kA166, kS166, kL167, kA167, kS167, kL168, kA168, kS168, kL169, kA169, kS169, kC170, kG170, kP170, kR170_0, kR170_1, kR170_2, kL171, kA171, kS171, kL172, kA172, kS172, kL173, kA173, kS173, kC174, kG174, kP174, kR174_0, kR174_1, kR174_2, kR174_3, kR174_4, kL175, kA175, kS175, kL176, kA176, kS176, kL177, kA177, kS177, kL178, kA178, kS178, kL179, kC180, kG180, kP180, kL181, kL182, kA182, kS182, kC183, kG183, kP183, kR183_1, kR183_3, kR183_5, kR183_6, kR183_7, kR183_8, kR183_9, kR183_21, kR183_26, kR183_27, kR183_30, kR183_31, kR183_33, kR183_34, kR183_36, kR183_37, kR183_38, kR183_39, kR183_40, kR183_41, kR183_42, kR183_43, kR183_44, kL184, kA184, kS184, kL185, kA185, kS185, kL186, kA186, kS186, kL187, kA187, kS187, kL188, kA188, kS188, kL189, kL190, kL191, kA191, kS191, kL192, kA192, kS192, kL193, kA193, kS193, kL194, kA194, kS194, kL195, kA195, kS195, kL196, kA196, kS196, kL197, kA197, kS197, kL198, kA198, kS198, kL199, kA199, kS199, kL200, kA200, kS200, kL201, kL202, kA202, kS202, kL203, kA203, kS203, kL204, kA204, kS204, kL205, kL206, kA206, kS206, h4, q1, hb, bl8_ok, hl, Bool.false_eq_true, j1]
end FIND2
end
section
/-! the grammar: what is wanted behind what -/
def dlT (k : Nat) : Option Nat := if k = 6 ∨ k = 7 ∨ k = 8 then some 5 else if k = 9 then some 7 else if k = 10 then some 8 else if k = 11 then some 10 else if k = 12 then some 11 else if k = 15 then some 13 else none
def dl (w k : Nat) : Option Nat := if w = 0 then (if k = 5 then some 1 else none) else if w = 1 then (if k = 2 then some 2 else none) else if w = 2 then (if k = 2 then some 3 else none) else if w = 3 then (if k = 4 then some 4 else none) else if w = 4 then dlT k else if w = 5 then (if k = 3 then some 6 else if k = 2 then some 3 else none) else if w = 6 then (if k = 2 then some 3 else none) else if w = 7 then (if k = 6 ∨ k = 7 then some 3 else none) else if w = 8 then (if k = 2 then some 9 else none) else if w = 9 then (if k = 6 ∨ k = 7 then some 5 else none) else if w = 10 then (if k = 2 then some 5 else none) else if w = 11 then (if k = 2 then some 12 else none) else if w = 12 then (if k = 13 ∨ k = 14 then some 3 else none) else if w = 13 then (if k = 2 then some 3 else none) else none
theorem dl_ok : ∀ w, w < 14 → ∀ k, k < 16 → f_X8_wantBehind (nI w) (nI k) = some (oI (dl w k)) := by decide +kernel
theorem dl_b : ∀ w, w < 14 → ∀ k, k < 16 → (dl w k).all (fun e => decide (e < 14)) = true := by decide +kernel
def ws (b : Nat → Int32) (m : Nat) : Nat → Option Nat
  | 0 => some 0
  | n + 1 => match ws b m n with
    | none => none
    | some w => if tKd b m n = 0 then none else dl w (tKd b m n)
section WANT
variable {b : Nat → Int32} {m : Nat}
theorem ws_s {n w : Nat} (h : ws b m n = some w) : ws b m (n + 1) = if tKd b m n = 0 then none else dl w (tKd b m n) := by
  rw [ws, h]
theorem ws_b : ∀ n w, ws b m n = some w → w < 14
  | 0, w => fun h => by cases h; decide
  | n + 1, w => fun h => by
    cases hn : ws b m n with
    | none =>
      rw [ws, hn] at h; cases h
    | some v =>
      rw [ws_s hn] at h
      have hv := ws_b n v hn
      split at h
      · cases h
      · have := dl_b v hv (tKd b m n) (by have := tKd_b (b := b) (m := m) n; omega)
        rw [h] at this
        exact of_decide_eq_true this
theorem ws_pre : ∀ i w, ws b m i = some w → ∀ j, j < i → ∃ v, ws b m j = some v ∧ tKd b m j ≠ 0 ∧ ∃ u, dl v (tKd b m j) = some u ∧ ws b m (j + 1) = some u
  | 0, w => fun _ j hj => by omega
  | i + 1, w => fun h j hj => by
    cases hi : ws b m i with
    | none =>
      rw [ws, hi] at h; cases h
    | some v =>
      have h' := h
      rw [ws_s hi] at h
      by_cases z : j = i
      · subst z
        by_cases k0 : tKd b m j = 0
        · rw [if_pos k0] at h; cases h
        · rw [if_neg k0] at h
          exact ⟨v, hi, k0, w, h, h'⟩
      · exact ws_pre i v hi j (by omega)
/-- how the reading of the tokens ends -/
def cutR (b : Nat → Int32) (m n r pl : Nat) : Prop := ∃ w, ws b m n = some w ∧ ((r = 0 ∧ pl = 0 ∧ n ≤ 400 ∧ tKd b m n = 0 ∧ w = 4) ∨ (r = 1 ∧ pl = tSt b m n ∧ n ≤ 400 ∧ (tKd b m n = 0 ∧ w ≠ 4 ∨ tKd b m n ≠ 0 ∧ dl w (tKd b m n) = none)) ∨ (r = 2 ∧ pl = tSt b m 400 ∧ n = 401))
theorem cutR_no {n r pl i w : Nat} (h : cutR b m n r pl) (hi : n < i) (h2 : n ≤ 400) (hw : ws b m i = some w) : False := by
  obtain ⟨v, v1, v2, u, v3, v4⟩ := ws_pre i w hw n hi
  obtain ⟨w', w1, h⟩ := h
  rw [w1] at v1
  cases v1
  rcases h with ⟨-, -, -, k0, -⟩ | ⟨-, -, -, ⟨k0, -⟩ | ⟨-, d0⟩⟩ | ⟨-, -, n4⟩
  · exact v2 k0
  · exact v2 k0
  · rw [d0] at v3; cases v3
  · omega
theorem cutR_one {n r pl n' r' pl' : Nat} (h : cutR b m n r pl) (h' : cutR b m n' r' pl') : n = n' ∧ r = r' ∧ pl = pl' := by
  have hn : n ≤ 401 := by
    obtain ⟨w, -, h⟩ := h
    rcases h with h | h | h <;> omega
  have hn' : n' ≤ 401 := by
    obtain ⟨w, -, h⟩ := h'
    rcases h with h | h | h <;> omega
  have e : n = n' := by
    rcases Nat.lt_trichotomy n n' with z | z | z
    · obtain ⟨w, w1, -⟩ := id h'
      exact (cutR_no h z (by omega) w1).elim
    · exact z
    · obtain ⟨w, w1, -⟩ := id h
      exact (cutR_no h' z (by omega) w1).elim
  subst e
  obtain ⟨w, w1, h⟩ := h
  obtain ⟨w', w1', h'⟩ := h'
  rw [w1] at w1'
  cases w1'
  refine ⟨rfl, ?_⟩
  rcases h with ⟨a1, a2, a3, a4, a5⟩ | ⟨a1, a2, a3, ⟨a4, a5⟩ | ⟨a4, a5⟩⟩ | ⟨a1, a2, a3⟩ <;> rcases h' with ⟨b1, b2, b3, b4, b5⟩ | ⟨b1, b2, b3, ⟨b4, b5⟩ | ⟨b4, b5⟩⟩ | ⟨b1, b2, b3⟩ <;> first
    | omega
    | (exfalso; omega)
    | (exfalso; subst a5; subst b5; omega)
    | (exfalso; exact absurd a5 b5)
    | (exfalso; exact absurd b5 a5)
end WANT
/-- the class's tokens as they lie -/
def TKC (J : Nat → Nat → Int32) (b : Nat → Int32) (m n : Nat) : Prop := ∀ i, i < n → J 5 i = nI (tKd b m i) ∧ J 7 i = nI (tSt b m i) ∧ (tKd b m i = 2 → J 6 i = nI (tNu b m i))
section CUT
variable {σ : XS} {J : Nat → Nat → Int32} {m : Nat}
theorem keep8_ok (hS : Shp σ) {n : Nat} {k v p : Int32} (hn : n < 400) (h5 : J 3 5 = nI n) (h6 : J 3 6 = k) (h7 : J 3 7 = v) (h8 : J 3 8 = p) : f_X8_keepToken (xw σ J) 3 = some (xw σ (xup (xup (xup (xup J 5 n k) 6 n v) 7 n p) 3 5 (nI (n + 1)))) := by
  unfold f_X8_keepToken
  have q : ((400 : Int32) ≤ nI n) = False := by rw [show (400 : Int32) = nI 400 from rfl, nn_le (by omega) (by omega)]; exact eq_false (by omega)
  simp (disch := first | assumption | omega) only [Option.bind_some, Option.map_some, xw_gR, xw_gN, xw_al, xw_ck, xw_uI, xw_ur, xup_at, xur_at, if_true, if_false, reduceIte, and_true, true_and, and_false, false_and, not_true_eq_false, not_false_eq_true, Nat.reduceEqDiff, eq_self, Nat.reduceAdd, Nat.reduceMul, kC1, kG1, kP1, kR1_0, kR1_1, kR1_2, kR1_3, kR1_4, kR1_5, kR1_6, kR1_7, kR1_8, kR1_9, kR1_10, kR1_11, kR1_12, kR1_13, kC2, kG2, kP2, kR2_0, kR2_1, kC3, kG3, kP3, kR3_0, kR3_1, kR3_2, kR3_3, kL4, kA4, kS4, kL5, kA5, kS5, kL6, kA6, kS6, kL7, kA7, kS7, kC8, kG8, kP8, kR8_0, kR8_1, kL9, kA9, kS9, kL10, kA10, kS10, kC11, kG11, kP11, kR11_0, kR11_1, kR11_2, kR11_3, kL12, kA12, kS12, kL13, kA13, kS13, kL14, kA14, kS14, kL15, kA15, kS15, kC16, kG16, kP16, kR16_0, kR16_1, kL17, kA17, kS17, kL18, kA18, kS18, kC19, kG19, kP19, kR19_0, kL20, kL141, kL146, kA146, kS146, kL151, kA151, kS151, kL156, kA156, kS156, kC157, kG157, kP157, kR157_0, kR157_1, kL158, kA158, kS158, kL159, kA159, kS159, kC161, kG161, kP161, kR161_0, kR161_1, kL162, kA162, kS162, kL163, kA163, kS163, kC165, kG165, kP165, kR165_0, kR165_1, kR165_2, kR165_3, kL166, kA166, kS166, kL167, kA167, kS167, kL168, kA168, kS168, kL169, kA169, kS169, kC170, kG170, kP170, kR170_0, kR170_1, kR170_2, kL171, kA171, kS171, kL172, kA172, kS172, kL173, kA173, kS173, kC174, kG174, kP174, kR174_0, kR174_1, kR174_2, kR174_3, kR174_4, kL175, kA175, kS175, kL176, kA176, kS176, kL177, kA177, kS177, kL178, kA178, kS178, kL179, kC180, kG180, kP180, kL181, kL182, kA182, kS182, kC183, kG183, kP183, kR183_1, kR183_3, kR183_5, kR183_6, kR183_7, kR183_8, kR183_9, kR183_21, kR183_26, kR183_27, kR183_30, kR183_31, kR183_33, kR183_34, kR183_36, kR183_37, kR183_38, kR183_39, kR183_40, kR183_41, kR183_42, kR183_43, kR183_44, kL184, kA184, kS184, kL185, kA185, kS185, kL186, kA186, kS186, kL187, kA187, kS187, kL188, kA188, kS188, kL189, kL190, kL191, kA191, kS191, kL192, kA192, kS192, kL193, kA193, kS193, kL194, kA194, kS194, kL195, kA195, kS195, kL196, kA196, kS196, kL197, kA197, kS197, kL198, kA198, kS198, kL199, kA199, kS199, kL200, kA200, kS200, kL201, kL202, kA202, kS202, kL203, kA203, kS203, kL204, kA204, kS204, kL205, kL206, kA206, kS206, h5, nn_nneg, q, h6, h7, h8]
  rw [← nI_succ]
theorem keep8_full (hS : Shp σ) (h5 : J 3 5 = nI 400) : f_X8_keepToken (xw σ J) 3 = some (xw σ J) := by
  unfold f_X8_keepToken
  have q : ((400 : Int32) ≤ nI 400) = True := eq_true (by decide)
  simp (disch := first | assumption | omega) only [Option.bind_some, Option.map_some, xw_gR, xw_gN, xw_al, xw_ck, xw_uI, xw_ur, xup_at, xur_at, if_true, if_false, reduceIte, and_true, true_and, and_false, false_and, not_true_eq_false, not_false_eq_true, Nat.reduceEqDiff, eq_self, Nat.reduceAdd, Nat.reduceMul, kC1, kG1, kP1, kR1_0, kR1_1, kR1_2, kR1_3, kR1_4, kR1_5, kR1_6, kR1_7, kR1_8, kR1_9, kR1_10, kR1_11, kR1_12, kR1_13, kC2, kG2, kP2, kR2_0, kR2_1, kC3, kG3, kP3, kR3_0, kR3_1, kR3_2, kR3_3, kL4, kA4, kS4, kL5, kA5, kS5, kL6, kA6, kS6, kL7, kA7, kS7, kC8, kG8, kP8, kR8_0, kR8_1, kL9, kA9, kS9, kL10, kA10, kS10, kC11, kG11, kP11, kR11_0, kR11_1, kR11_2, kR11_3, kL12, kA12, kS12, kL13, kA13, kS13, kL14, kA14, kS14, kL15, kA15, kS15, kC16, kG16, kP16, kR16_0, kR16_1, kL17, kA17, kS17, kL18, kA18, kS18, kC19, kG19, kP19, kR19_0, kL20, kL141, kL146, kA146, kS146, kL151, kA151, kS151, kL156, kA156, kS156, kC157, kG157, kP157, kR157_0, kR157_1, kL158, kA158, kS158, kL159, kA159, kS159, kC161, kG161, kP161, kR161_0, kR161_1, kL162, kA162, kS162, kL163, kA163, kS163, kC165, kG165, kP165, kR165_0, kR165_1, kR165_2, kR165_3, kL166, kA166, kS166, kL167, kA167, kS167, kL168, kA168, kS168, kL169, kA169, kS169, kC170, kG170, kP170, kR170_0, kR170_1, kR170_2, kL171, kA171, kS171, kL172, kA172, kS172, kL173, kA173, kS173, kC174, kG174, kP174, kR174_0, kR174_1, kR174_2, kR174_3, kR174_4, kL175, kA175, kS175, kL176, kA176, kS176, kL177, kA177, kS177, kL178, kA178, kS178, kL179, kC180, kG180, kP180, kL181, kL182, kA182, kS182, kC183, kG183, kP183, kR183_1, kR183_3, kR183_5, kR183_6, kR183_7, kR183_8, kR183_9, kR183_21, kR183_26, kR183_27, kR183_30, kR183_31, kR183_33, kR183_34, kR183_36, kR183_37, kR183_38, kR183_39, kR183_40, kR183_41, kR183_42, kR183_43, kR183_44, kL184, kA184, kS184, kL185, kA185, kS185, kL186, kA186, kS186, kL187, kA187, kS187, kL188, kA188, kS188, kL189, kL190, kL191, kA191, kS191, kL192, kA192, kS192, kL193, kA193, kS193, kL194, kA194, kS194, kL195, kA195, kS195, kL196, kA196, kS196, kL197, kA197, kS197, kL198, kA198, kS198, kL199, kA199, kS199, kL200, kA200, kS200, kL201, kL202, kA202, kS202, kL203, kA203, kS203, kL204, kA204, kS204, kL205, kL206, kA206, kS206, h5, nn_nneg, q]
theorem cut_ok (hS : Shp σ) (hm : m ≤ 2000) (h4 : J 3 4 = nI m) : ∃ (r n pl : Nat) (J' : Nat → Nat → Int32), f_X8_cut (xw σ J) 3 = some (nI r, xw σ J') ∧ cutR (J 4) m n r pl ∧ (r = 0 → J' 3 5 = nI n ∧ TKC J' (J 4) m n) ∧ (r ≠ 0 → J' 3 8 = nI pl) ∧ ∀ a q, ¬ ((a = 3 ∧ 5 ≤ q ∧ q ≤ 9) ∨ (5 ≤ a ∧ a ≤ 7)) → J' a q = J a q := by
  obtain ⟨b, hb⟩ : ∃ b, b = J 4 := ⟨_, rfl⟩
  rw [← hb]
  unfold f_X8_cut
  simp (disch := first | assumption | omega) only [Option.bind_some, Option.map_some, xw_gR, xw_gN, xw_al, xw_ck, xw_uI, xw_ur, xup_at, xur_at, if_true, if_false, reduceIte, and_true, true_and, and_false, false_and, not_true_eq_false, not_false_eq_true, Nat.reduceEqDiff, eq_self, Nat.reduceAdd, Nat.reduceMul, kC1, kG1, kP1, kR1_0, kR1_1, kR1_2, kR1_3, kR1_4, kR1_5, kR1_6, kR1_7, kR1_8, kR1_9, kR1_10, kR1_11, kR1_12, kR1_13, kC2, kG2, kP2, kR2_0, kR2_1, kC3, kG3, kP3, kR3_0, kR3_1, kR3_2, kR3_3, kL4, kA4, kS4, kL5, kA5, kS5, kL6, kA6, kS6, kL7, kA7, kS7, kC8, kG8, kP8, kR8_0, kR8_1, kL9, kA9, kS9, kL10, kA10, kS10, kC11, kG11, kP11, kR11_0, kR11_1, kR11_2, kR11_3, kL12, kA12, kS12, kL13, kA13, kS13, kL14, kA14, kS14, kL15, kA15, kS15, kC16, kG16, kP16, kR16_0, kR16_1, kL17, kA17, kS17, kL18, kA18, kS18, kC19, kG19, kP19, kR19_0, kL20, kL141, kL146, kA146, kS146, kL151, kA151, kS151, kL156, kA156, kS156, kC157, kG157, kP157, kR157_0, kR157_1, kL158, kA158, kS158, kL159, kA159, kS159, kC161, kG161, kP161, kR161_0, kR161_1, kL162, kA162, kS162, kL163, kA163, kS163, kC165, kG165, kP165, kR165_0, kR165_1, kR165_2, kR165_3, kL166, kA166, kS166, kL167, kA167, kS167, kL168, kA168, kS168, kL169, kA169, kS169, kC170, kG170, kP170, kR170_0, kR170_1, kR170_2, kL171, kA171, kS171, kL172, kA172, kS172, kL173, kA173, kS173, kC174, kG174, kP174, kR174_0, kR174_1, kR174_2, kR174_3, kR174_4, kL175, kA175, kS175, kL176, kA176, kS176, kL177, kA177, kS177, kL178, kA178, kS178, kL179, kC180, kG180, kP180, kL181, kL182, kA182, kS182, kC183, kG183, kP183, kR183_1, kR183_3, kR183_5, kR183_6, kR183_7, kR183_8, kR183_9, kR183_21, kR183_26, kR183_27, kR183_30, kR183_31, kR183_33, kR183_34, kR183_36, kR183_37, kR183_38, kR183_39, kR183_40, kR183_41, kR183_42, kR183_43, kR183_44, kL184, kA184, kS184, kL185, kA185, kS185, kL186, kA186, kS186, kL187, kA187, kS187, kL188, kA188, kS188, kL189, kL190, kL191, kA191, kS191, kL192, kA192, kS192, kL193, kA193, kS193, kL194, kA194, kS194, kL195, kA195, kS195, kL196, kA196, kS196, kL197, kA197, kS197, kL198, kA198, kS198, kL199, kA199, kS199, kL200, kA200, kS200, kL201, kL202, kA202, kS202, kL203, kA203, kS203, kL204, kA204, kS204, kL205, kL206, kA206, kS206]
  have key := xloop_run (f := f_X8_cut_b14 3) (fun k a => ∃ (n w : Nat) (J' : Nat → Nat → Int32), a = (nI w, nI n, xw σ J') ∧ k = 401 - n ∧ n ≤ 401 ∧ ws b m n = some w ∧ J' 3 5 = nI (min n 400) ∧ J' 3 9 = nI (tPo b m n) ∧ TKC J' b m (min n 400) ∧ (n = 401 → J' 3 8 = nI (tSt b m 400)) ∧ ∀ a q, ¬ ((a = 3 ∧ 5 ≤ q ∧ q ≤ 9) ∨ (5 ≤ a ∧ a ≤ 7)) → J' a q = J a q) (fun z => ∃ (r n pl : Nat) (J' : Nat → Nat → Int32), z = (nI r, xw σ J') ∧ cutR b m n r pl ∧ (r = 0 → J' 3 5 = nI n ∧ TKC J' b m n) ∧ (r ≠ 0 → J' 3 8 = nI pl) ∧ ∀ a q, ¬ ((a = 3 ∧ 5 ≤ q ∧ q ≤ 9) ∨ (5 ≤ a ∧ a ≤ 7)) → J' a q = J a q) ?_ (401 - 0) ((0 : Int32), (0 : Int32), xw σ (xup (xup J 3 5 0) 3 9 0)) ⟨0, 0, _, rfl, rfl, by omega, rfl, by rw [xup_at, if_neg (by omega), xup_at, if_pos ⟨rfl, rfl⟩]; rfl, by rw [xup_at, if_pos ⟨rfl, rfl⟩]; rfl, fun i hi => by omega, fun z => by omega, fun a q hq => by rw [xup_at, if_neg (by omega), xup_at, if_neg (by omega)]⟩
  · obtain ⟨z, e, r, n, pl, J', rfl, rest⟩ := key
    exact ⟨r, n, pl, J', e, rest⟩
  · rintro k a ⟨n, w, J', rfl, rfl, hn, hw, v5, v9, tk, v8, u⟩
    have hw14 := ws_b n w hw
    by_cases h401 : n = 401
    · left
      refine ⟨(nI 2, xw σ J'), ?_, 2, n, tSt b m 400, J', rfl, ⟨w, hw, .inr (.inr ⟨rfl, rfl, h401⟩)⟩, fun z => by omega, fun _ => v8 h401, u⟩
      simp only [f_X8_cut_b14]
      rw [if_pos (by rw [h401]; decide)]
      rfl
    · have q0 : ((400 : Int32) < nI n) = False := by rw [show (400 : Int32) = nI 400 from rfl, nn_lt (by omega) (by omega)]; exact eq_false (by omega)
      have u4 : J' 3 4 = nI m := by rw [u _ _ (by omega)]; exact h4
      have u3 : J' 4 = b := by rw [hb]; funext k; exact u 4 k (by omega)
      obtain ⟨J2, j1, j2, j3, j4, j5, j6⟩ := findTok_ok (σ := σ) (J := J') hS hm u4 (tPo_b (b := b) (m := m) n)
      rw [u3] at j2 j3 j4 j5
      have j2 : J2 3 8 = nI (tSt b m n) := j2
      have j3 : J2 3 9 = nI (tPo b m (n + 1)) := j3
      have j4 : J2 3 6 = nI (tKd b m n) := j4
      have j5 : tKd b m n = 2 → J2 3 7 = nI (tNu b m n) := j5
      have kb := tKd_b (b := b) (m := m) n
      have u2 : ∀ a q, ¬ ((a = 3 ∧ 5 ≤ q ∧ q ≤ 9) ∨ (5 ≤ a ∧ a ≤ 7)) → J2 a q = J a q := fun a q hq => by rw [j6 a q (by omega)]; exact u a q hq
      have t5 : J2 3 5 = nI (min n 400) := by rw [j6 _ _ (by omega)]; exact v5
      have tk2 : TKC J2 b m (min n 400) := fun i hi => by rw [j6 5 i (by omega), j6 7 i (by omega), j6 6 i (by omega)]; exact tk i hi
      by_cases k0 : tKd b m n = 0
      · left
        have mn : min n 400 = n := by omega
        rw [mn] at t5 tk2
        have q1 : (nI (tKd b m n) = 0) = True := by rw [k0]; exact eq_true rfl
        have q4 : (nI w = (4 : Int32)) = (w = 4) := nn_eq (b := 4) (by omega) (by decide)
        by_cases w4 : w = 4
        · refine ⟨(nI 0, xw σ J2), ?_, 0, n, 0, J2, rfl, ⟨w, hw, .inl ⟨rfl, rfl, by omega, k0, w4⟩⟩, fun _ => ⟨t5, tk2⟩, fun z => absurd rfl z, u2⟩
          simp only [f_X8_cut_b14]
          simp (disch := first | assumption | omega) only [Option.bind_some, Option.map_some, xw_gR, xw_gN, xw_al, xw_ck, xw_uI, xw_ur, xup_at, xur_at, if_true, if_false, reduceIte, and_true, true_and, and_false, false_and, not_true_eq_false, not_false_eq_true, Nat.reduceEqDiff, eq_self, Nat.reduceAdd, Nat.reduceMul, kC1, kG1, kP1, kR1_0, kR1_1, kR1_2, kR1_3, kR1_4, kR1_5, kR1_6, kR1_7, kR1_8, kR1_9, kR1_10, kR1_11, kR1_12, kR1_13, kC2, kG2, kP2, kR2_0, kR2_1, kC3, kG3, kP3, kR3_0, kR3_1, kR3_2, kR3_3, kL4, kA4, kS4, kL5, kA5, kS5, kL6, kA6, kS6, kL7, kA7, kS7, kC8, kG8, kP8, kR8_0, kR8_1, kL9, kA9, kS9, kL10, kA10, kS10, kC11, kG11, kP11, kR11_0, kR11_1, kR11_2, kR11_3, kL12, kA12, kS12, kL13, kA13, kS13, kL14, kA14, kS14, kL15, kA15, kS15, kC16, kG16, kP16, kR16_0, kR16_1, kL17, kA17, kS17, kL18, kA18, kS18, kC19, kG19, kP19, kR19_0, kL20, kL141, kL146, kA146, kS146, kL151, kA151, kS151, kL156, kA156, kS156, kC157, kG157, kP157, kR157_0, kR157_1, kL158, kA158, kS158, kL159, kA159, kS159, kC161, kG161, kP161, kR161_0, kR161_1, kL162, kA162, kS162, kL163, kA163, kS163, kC165, kG165, kP165, kR165_0, kR165_1, kR165_2, kR165_3, kL166, kA166, kS166, kL167, kA167, kS167, kL168, kA168, kS168, kL169, kA169, kS169, kC170, kG170, kP170, kR170_0, kR170_1, kR170_2, kL171, kA171, kS171, kL172, kA172, kS172, kL173, kA173, kS173, kC174, kG174, kP174, kR174_0, kR174_1, kR174_2, kR174_3, kR174_4, kL175, kA175, kS175, kL176, kA176, kS176, kL177, kA177, kS177, kL178, kA178, kS178, kL179, kC180, kG180, kP180, kL181, kL182, kA182, kS182, kC183, kG183, kP183, kR183_1, kR183_3, kR183_5, kR183_6, kR183_7, kR183_8, kR183_9, kR183_21, kR183_26, kR183_27, kR183_30, kR183_31, kR183_33, kR183_34, kR183_36, kR183_37, kR183_38, kR183_39, kR183_40, kR183_41, kR183_42, kR183_43, kR183_44, kL184, kA184, kS184, kL185, kA185, kS185, kL186, kA186, kS186, kL187, kA187, kS187, kL188, kA188, kS188, kL189, kL190, kL191, kA191, kS191, kL192, kA192, kS192, kL193, kA193, kS193, kL194, kA194, kS194, kL195, kA195, kS195, kL196, kA196, kS196, kL197, kA197, kS197, kL198, kA198, kS198, kL199, kA199, kS199, kL200, kA200, kS200, kL201, kL202, kA202, kS202, kL203, kA203, kS203, kL204, kA204, kS204, kL205, kL206, kA206, kS206, q0, v9, j1, j4, q1, q4, w4]
          rfl
        · refine ⟨(nI 1, xw σ J2), ?_, 1, n, tSt b m n, J2, rfl, ⟨w, hw, .inr (.inl ⟨rfl, rfl, by omega, .inl ⟨k0, w4⟩⟩)⟩, fun z => by omega, fun _ => j2, u2⟩
          simp only [f_X8_cut_b14]
          simp (disch := first | assumption | omega) only [Option.bind_some, Option.map_some, xw_gR, xw_gN, xw_al, xw_ck, xw_uI, xw_ur, xup_at, xur_at, if_true, if_false, reduceIte, and_true, true_and, and_false, false_and, not_true_eq_false, not_false_eq_true, Nat.reduceEqDiff, eq_self, Nat.reduceAdd, Nat.reduceMul, kC1, kG1, kP1, kR1_0, kR1_1, kR1_2, kR1_3, kR1_4, kR1_5, kR1_6, kR1_7, kR1_8, kR1_9, kR1_10, kR1_11, kR1_12, kR1_13, kC2, kG2, kP2, kR2_0, kR2_1, kC3, kG3, kP3, kR3_0, kR3_1, kR3_2, kR3_3, kL4, kA4, kS4, kL5, kA5, kS5, kL6, kA6, kS6, kL7, kA7, kS7, kC8, kG8, kP8, kR8_0, kR8_1, kL9, kA9, kS9, kL10, kA10, kS10, kC11, kG11, kP11, kR11_0, kR11_1, kR11_2, kR11_3, kL12, kA12, kS12, kL13, kA13, kS13, kL14, kA14, kS14, kL15, kA15, kS15, kC16, kG16, kP16, kR16_0, kR16_1, kL17, kA17, kS17, kL18, kA18, kS18, kC19, kG19, kP19, kR19_0, kL20, kL141, kL146, kA146, kS146, kL151, kA151, kS151, kL156, kA156, kS156, kC157, kG157, kP157, kR157_0, kR157_1, kL158, kA158, kS158, kL159, kA159, kS159, kC161, kG161, kP161, kR161_0, kR161_1, kL162, kA162, kS162, kL163, kA163, kS163, kC165, kG165, kP165, kR165_0, kR165_1, kR165_2, kR165_3, kL166, kA166, kS166, kL167, kA167, kS167, kL168, kA168, kS168, kL169, kA169, kS169, kC170, kG170, kP170, kR170_0, kR170_1, kR170_2, kL171, kA171, kS171, kL172, kA172, kS172, kL173, kA173, kS173, kC174, kG174, kP174, kR174_0, kR174_1, kR174_2, kR174_3, kR174_4, kL175, kA175, kS175, kL176, kA176, kS176, kL177, kA177, kS177, kL178, kA178, kS178, kL179, kC180, kG180, kP180, kL181, kL182, kA182, kS182, kC183, kG183, kP183, kR183_1, kR183_3, kR183_5, kR183_6, kR183_7, kR183_8, kR183_9, kR183_21, kR183_26, kR183_27, kR183_30, kR183_31, kR183_33, kR183_34, kR183_36, kR183_37, kR183_38, kR183_39, kR183_40, kR183_41, kR183_42, kR183_43, kR183_44, kL184, kA184, kS184, kL185, kA185, kS185, kL186, kA186, kS186, kL187, kA187, kS187, kL188, kA188, kS188, kL189, kL190, kL191, kA191, kS191, kL192, kA192, kS192, kL193, kA193, kS193, kL194, kA194, kS194, kL195, kA195, kS195, kL196, kA196, kS196, kL197, kA197, kS197, kL198, kA198, kS198, kL199, kA199, kS199, kL200, kA200, kS200, kL201, kL202, kA202, kS202, kL203, kA203, kS203, kL204, kA204, kS204, kL205, kL206, kA206, kS206, q0, v9, j1, j4, q1, q4, w4]
          rfl
      · have q1 : (nI (tKd b m n) = 0) = False := by
          have : (nI (tKd b m n) = nI 0) = (tKd b m n = 0) := nn_eq (by omega) (by omega)
          exact this.trans (eq_false k0)
        have dk := dl_ok w hw14 (tKd b m n) (by omega)
        cases hd : dl w (tKd b m n) with
        | none =>
          left
          rw [hd] at dk
          refine ⟨(nI 1, xw σ J2), ?_, 1, n, tSt b m n, J2, rfl, ⟨w, hw, .inr (.inl ⟨rfl, rfl, by omega, .inr ⟨k0, hd⟩⟩)⟩, fun z => by omega, fun _ => j2, u2⟩
          simp only [f_X8_cut_b14]
          have q2 : (oI none = -1) = True := eq_true rfl
          simp (disch := first | assumption | omega) only [Option.bind_some, Option.map_some, xw_gR, xw_gN, xw_al, xw_ck, xw_uI, xw_ur, xup_at, xur_at, if_true, if_false, reduceIte, and_true, true_and, and_false, false_and, not_true_eq_false, not_false_eq_true, Nat.reduceEqDiff, eq_self, Nat.reduceAdd, Nat.reduceMul, kC1, kG1, kP1, kR1_0, kR1_1, kR1_2, kR1_3, kR1_4, kR1_5, kR1_6, kR1_7, kR1_8, kR1_9, kR1_10, kR1_11, kR1_12, kR1_13, kC2, kG2, kP2, kR2_0, kR2_1, kC3, kG3, kP3, kR3_0, kR3_1, kR3_2, kR3_3, kL4, kA4, kS4, kL5, kA5, kS5, kL6, kA6, kS6, kL7, kA7, kS7, kC8, kG8, kP8, kR8_0, kR8_1, kL9, kA9, kS9, kL10, kA10, kS10, kC11, kG11, kP11, kR11_0, kR11_1, kR11_2, kR11_3, kL12, kA12, kS12, kL13, kA13, kS13, kL14, kA14, kS14, kL15, kA15, kS15, kC16, kG16, kP16, kR16_0, kR16_1, kL17, kA17, kS17, kL18, kA18, kS18, kC19, kG19, kP19, kR19_0, kL20, kL141, kL146, kA146, kS146, kL151, kA151, kS151, kL156, kA156, kS156, kC157, kG157, kP157, kR157_0, kR157_1, kL158, kA158, kS158, kL159, kA159, kS159, kC161, kG161, kP161, kR161_0, kR161_1, kL162, kA162, kS162, kL163, kA163, kS163, kC165, kG165, kP165, kR165_0, kR165_1, kR165_2, kR165_3, kL166, kA166, kS166, kL167, kA167, kS167, kL168, kA168, kS168, kL169, kA169, kS169, kC170, kG170, kP170, kR170_0, kR170_1, kR170_2, kL171, kA171, kS171, kL172, kA172, kS172, kL173, kA173, kS173, kC174, kG174, kP174, kR174_0, kR174_1, kR174_2, kR174_3, kR174_4, kL175, kA175, kS175, kL176, kA176, kS176, kL177, kA177, kS177, kL178, kA178, kS178, kL179, kC180, kG180, kP180, kL181, kL182, kA182, kS182, kC183, kG183, kP183, kR183_1, kR183_3, kR183_5, kR183_6, kR183_7, kR183_8, kR183_9, kR183_21, kR183_26, kR183_27, kR183_30, kR183_31, kR183_33, kR183_34, kR183_36, kR183_37, kR183_38, kR183_39, kR183_40, kR183_41, kR183_42, kR183_43, kR183_44, kL184, kA184, kS184, kL185, kA185, kS185, kL186, kA186, kS186, kL187, kA187, kS187, kL188, kA188, kS188, kL189, kL190, kL191, kA191, kS191, kL192, kA192, kS192, kL193, kA193, kS193, kL194, kA194, kS194, kL195, kA195, kS195, kL196, kA196, kS196, kL197, kA197, kS197, kL198, kA198, kS198, kL199, kA199, kS199, kL200, kA200, kS200, kL201, kL202, kA202, kS202, kL203, kA203, kS203, kL204, kA204, kS204, kL205, kL206, kA206, kS206, q0, v9, j1, j4, q1, dk, q2]
          rfl
        | some w' =>
          right
          rw [hd] at dk
          have hw' : ws b m (n + 1) = some w' := by rw [ws_s hw, if_neg k0]; exact hd
          have w14 := ws_b (n + 1) w' hw'
          have q2 : (oI (some w') = -1) = False := nn_m1 (by omega)
          by_cases h400 : n = 400
          · have kf := keep8_full (σ := σ) (J := J2) hS (by rw [t5, h400]; rfl)
            refine ⟨401 - (n + 1), (nI w', nI (n + 1), xw σ J2), by omega, ?_, n + 1, w', J2, rfl, rfl, by omega, hw', ?_, j3, ?_, fun _ => by rw [j2, h400], u2⟩
            · simp only [f_X8_cut_b14]
              simp (disch := first | assumption | omega) only [Option.bind_some, Option.map_some, xw_gR, xw_gN, xw_al, xw_ck, xw_uI, xw_ur, xup_at, xur_at, if_true, if_false, reduceIte, and_true, true_and, and_false, false_and, not_true_eq_false, not_false_eq_true, Nat.reduceEqDiff, eq_self, Nat.reduceAdd, Nat.reduceMul, kC1, kG1, kP1, kR1_0, kR1_1, kR1_2, kR1_3, kR1_4, kR1_5, kR1_6, kR1_7, kR1_8, kR1_9, kR1_10, kR1_11, kR1_12, kR1_13, kC2, kG2, kP2, kR2_0, kR2_1, kC3, kG3, kP3, kR3_0, kR3_1, kR3_2, kR3_3, kL4, kA4, kS4, kL5, kA5, kS5, kL6, kA6, kS6, kL7, kA7, kS7, kC8, kG8, kP8, kR8_0, kR8_1, kL9, kA9, kS9, kL10, kA10, kS10, kC11, kG11, kP11, kR11_0, kR11_1, kR11_2, kR11_3, kL12, kA12, kS12, kL13, kA13, kS13, kL14, kA14, kS14, kL15, kA15, kS15, kC16, kG16, kP16, kR16_0, kR16_1, kL17, kA17, kS17, kL18, kA18, kS18, kC19, kG19, kP19, kR19_0, kL20, kL141, kL146, kA146, kS146, kL151, kA151, kS151, kL156, kA156, kS156, kC157, kG157, kP157, kR157_0, kR157_1, kL158, kA158, kS158, kL159, kA159, kS159, kC161, kG161, kP161, kR161_0, kR161_1, kL162, kA162, kS162, kL163, kA163, kS163, kC165, kG165, kP165, kR165_0, kR165_1, kR165_2, kR165_3, kL166, kA166, kS166, kL167, kA167, kS167, kL168, kA168, kS168, kL169, kA169, kS169, kC170, kG170, kP170, kR170_0, kR170_1, kR170_2, kL171, kA171, kS171, kL172, kA172, kS172, kL173, kA173, kS173, kC174, kG174, kP174, kR174_0, kR174_1, kR174_2, kR174_3, kR174_4, kL175, kA175, kS175, kL176, kA176, kS176, kL177, kA177, kS177, kL178, kA178, kS178, kL179, kC180, kG180, kP180, kL181, kL182, kA182, kS182, kC183, kG183, kP183, kR183_1, kR183_3, kR183_5, kR183_6, kR183_7, kR183_8, kR183_9, kR183_21, kR183_26, kR183_27, kR183_30, kR183_31, kR183_33, kR183_34, kR183_36, kR183_37, kR183_38, kR183_39, kR183_40, kR183_41, kR183_42, kR183_43, kR183_44, kL184, kA184, kS184, kL185, kA185, kS185, kL186, kA186, kS186, kL187, kA187, kS187, kL188, kA188, kS188, kL189, kL190, kL191, kA191, kS191, kL192, kA192, kS192, kL193, kA193, kS193, kL194, kA194, kS194, kL195, kA195, kS195, kL196, kA196, kS196, kL197, kA197, kS197, kL198, kA198, kS198, kL199, kA199, kS199, kL200, kA200, kS200, kL201, kL202, kA202, kS202, kL203, kA203, kS203, kL204, kA204, kS204, kL205, kL206, kA206, kS206, q0, v9, j1, j4, q1, dk, q2, kf]
              rw [nI_succ]
              rfl
            · rw [t5]; congr 1; omega
            · rw [show min (n + 1) 400 = min n 400 by omega]; exact tk2
          · have mn : min n 400 = n := by omega
            rw [mn] at t5 tk2
            have kp := keep8_ok (σ := σ) (J := J2) hS (show n < 400 by omega) t5 j4 rfl j2
            refine ⟨401 - (n + 1), _, by omega, ?_, n + 1, w', xup (xup (xup (xup J2 5 n (nI (tKd b m n))) 6 n (J2 3 7)) 7 n (nI (tSt b m n))) 3 5 (nI (n + 1)), rfl, rfl, by omega, hw', ?_, ?_, fun i hi => ?_, fun z => by omega, fun a q hq => ?_⟩
            · simp only [f_X8_cut_b14]
              simp (disch := first | assumption | omega) only [Option.bind_some, Option.map_some, xw_gR, xw_gN, xw_al, xw_ck, xw_uI, xw_ur, xup_at, xur_at, if_true, if_false, reduceIte, and_true, true_and, and_false, false_and, not_true_eq_false, not_false_eq_true, Nat.reduceEqDiff, eq_self, Nat.reduceAdd, Nat.reduceMul, kC1, kG1, kP1, kR1_0, kR1_1, kR1_2, kR1_3, kR1_4, kR1_5, kR1_6, kR1_7, kR1_8, kR1_9, kR1_10, kR1_11, kR1_12, kR1_13, kC2, kG2, kP2, kR2_0, kR2_1, kC3, kG3, kP3, kR3_0, kR3_1, kR3_2, kR3_3, kL4, kA4, kS4, kL5, kA5, kS5, kL6, kA6, kS6, kL7, kA7, kS7, kC8, kG8, kP8, kR8_0, kR8_1, kL9, kA9, kS9, kL10, kA10, kS10, kC11, kG11, kP11, kR11_0, kR11_1, kR11_2, kR11_3, kL12, kA12, kS12, kL13, kA13, kS13, kL14, kA14, kS14, kL15, kA15, kS15, kC16, kG16, kP16, kR16_0, kR16_1, kL17, kA17, kS17, kL18, kA18, kS18, kC19, kG19, kP19, kR19_0, kL20, kL141, kL146, kA146, kS146, kL151, kA151, kS151, kL156, kA156, kS156, kC157, kG157, kP157, kR157_0, kR157_1, kL158, kA158, kS158, kL159, kA159, kS159, kC161, kG161, kP161, kR161_0, kR161_1, kL162, kA162, kS162, kL163, kA163, kS163, kC165, kG165, kP165, kR165_0, kR165_1, kR165_2, kR165_3, kL166, kA166, kS166, kL167, kA167, kS167, kL168, kA168, kS168, kL169, kA169, kS169, kC170, kG170, kP170, kR170_0, kR170_1, kR170_2, kL171, kA171, kS171, kL172, kA172, kS172, kL173, kA173, kS173, kC174, kG174, kP174, kR174_0, kR174_1, kR174_2, kR174_3, kR174_4, kL175, kA175, kS175, kL176, kA176, kS176, kL177, kA177, kS177, kL178, kA178, kS178, kL179, kC180, kG180, kP180, kL181, kL182, kA182, kS182, kC183, kG183, kP183, kR183_1, kR183_3, kR183_5, kR183_6, kR183_7, kR183_8, kR183_9, kR183_21, kR183_26, kR183_27, kR183_30, kR183_31, kR183_33, kR183_34, kR183_36, kR183_37, kR183_38, kR183_39, kR183_40, kR183_41, kR183_42, kR183_43, kR183_44, kL184, kA184, kS184, kL185, kA185, kS185, kL186, kA186, kS186, kL187, kA187, kS187, kL188, kA188, kS188, kL189, kL190, kL191, kA191, kS191, kL192, kA192, kS192, kL193, kA193, kS193, kL194, kA194, kS194, kL195, kA195, kS195, kL196, kA196, kS196, kL197, kA197, kS197, kL198, kA198, kS198, kL199, kA199, kS199, kL200, kA200, kS200, kL201, kL202, kA202, kS202, kL203, kA203, kS203, kL204, kA204, kS204, kL205, kL206, kA206, kS206, q0, v9, j1, j4, q1, dk, q2, kp]
              rw [nI_succ]
              rfl
            · rw [xup_at, if_pos ⟨rfl, rfl⟩]; congr 1; omega
            · rw [xup_at, if_neg (by omega), xup_at, if_neg (by omega), xup_at, if_neg (by omega), xup_at, if_neg (by omega)]; exact j3
            · have hi' : i < n + 1 := by omega
              simp only [xup_at]
              by_cases z : i = n
              · subst z
                simp only [Nat.reduceEqDiff, false_and, true_and, if_true, if_false, and_true, and_self, eq_self]
                first
                  | exact ⟨trivial, trivial, j5⟩
                  | exact j5
                  | exact ⟨rfl, rfl, j5⟩
              · have := tk2 i (by omega)
                simp only [Nat.reduceEqDiff, false_and, true_and, if_false, z, and_false]
                exact this
            · rw [xup_at, if_neg (by omega), xup_at, if_neg (by omega), xup_at, if_neg (by omega), xup_at, if_neg (by omega)]; exact u2 a q hq
end CUT
end
section
/-! the model cuts the text -/
theorem b255 : ∀ k : Nat, k < 256 → (isLt (iI ((k : Int) - 128) &&& 255) = isLt (iI ((k : Int) - 128)) ∧ isDg (iI ((k : Int) - 128) &&& 255) = isDg (iI ((k : Int) - 128)) ∧ isBl (iI ((k : Int) - 128) &&& 255) = isBl (iI ((k : Int) - 128)) ∧ decide (iI ((k : Int) - 128) &&& 255 = 45) = decide (iI ((k : Int) - 128) = 45) ∧ decide (iI ((k : Int) - 128) &&& 255 = 59) = decide (iI ((k : Int) - 128) = 59) ∧ (128 ≤ k → iI ((k : Int) - 128) &&& 255 = iI ((k : Int) - 128))) := by decide +kernel
def byB (x : Int32) : Prop := -128 ≤ x.toInt ∧ x.toInt < 128
theorem b255_x {x : Int32} (h : byB x) : isLt (x &&& 255) = isLt x ∧ isDg (x &&& 255) = isDg x ∧ isBl (x &&& 255) = isBl x ∧ ((x &&& 255) = 45 ↔ x = 45) ∧ ((x &&& 255) = 59 ↔ x = 59) ∧ (0 ≤ x.toInt → x &&& 255 = x) := by
  have h1 := h.1
  have h2 := h.2
  have e : iI (((x.toInt + 128).toNat : Int) - 128) = x := by
    rw [show (((x.toInt + 128).toNat : Int) - 128) = x.toInt by omega]
    exact (iI_of x).symm
  have := b255 (x.toInt + 128).toNat (by omega)
  rw [e] at this
  obtain ⟨a1, a2, a3, a4, a5, a6⟩ := this
  refine ⟨a1, a2, a3, ?_, ?_, fun z => a6 (by omega)⟩
  · exact decide_eq_decide.mp a4
  · exact decide_eq_decide.mp a5
theorem lt12_ok (x : Int32) : f_X12_isLetter x = some (if isLt x then 1 else 0) := lt8_ok x
theorem dg12_ok (x : Int32) : f_X12_isDigit x = some (if isDg x then 1 else 0) := dg8_ok x
/-- a kind in the model's numbers -/
def kmN (k : Nat) : Nat := if k = 3 then 5 else if 5 ≤ k then k + 15 else k
def KMr (k : Nat) (x : Int32) : Prop := (k = 1 ∧ (x = 1 ∨ x = 3)) ∨ (k ≠ 1 ∧ x = nI (kmN k))
/-- the model's tokens as they lie -/
def TKM (J : Nat → Nat → Int32) (b : Nat → Int32) (m n : Nat) : Prop := ∀ i, i < n → KMr (tKd b m i) (J 186 i) ∧ J 187 i = nI (tSt b m i) ∧ (tKd b m i = 2 → J 188 i = nI (tNu b m i))
section CUT12
variable {τ : XS} {J : Nat → Nat → Int32} {m : Nat} {b : Nat → Int32}
/-- the text at hand -/
def TX (J : Nat → Nat → Int32) (b : Nat → Int32) (m : Nat) : Prop := m ≤ 2000 ∧ J 183 4 = nI m ∧ ∀ k, k < m → J 185 k = b k ∧ byB (b k)
theorem byte12_ok (hS : Shp τ) (hX : TX J b m) {k : Nat} (hk : k < m) : f_X12_byteAt (xw τ J) 183 (nI k) = some (b k &&& 255) := by
  obtain ⟨hm, h4, hb⟩ := hX
  unfold f_X12_byteAt
  have q1 : (nI m ≤ nI k) = False := by rw [nn_le (by omega) (by omega)]; exact eq_false (by omega)
  have k20 : k < 2000 := by omega
  simp (disch := first | assumption | omega) only [Option.bind_some, Option.map_some, xw_gR, xw_gN, xw_al, xw_ck, xw_uI, xw_ur, xup_at, xur_at, if_true, if_false, reduceIte, and_true, true_and, and_false, false_and, not_true_eq_false, not_false_eq_true, Nat.reduceEqDiff, eq_self, Nat.reduceAdd, Nat.reduceMul, kC1, kG1, kP1, kR1_0, kR1_1, kR1_2, kR1_3, kR1_4, kR1_5, kR1_6, kR1_7, kR1_8, kR1_9, kR1_10, kR1_11, kR1_12, kR1_13, kC2, kG2, kP2, kR2_0, kR2_1, kC3, kG3, kP3, kR3_0, kR3_1, kR3_2, kR3_3, kL4, kA4, kS4, kL5, kA5, kS5, kL6, kA6, kS6, kL7, kA7, kS7, kC8, kG8, kP8, kR8_0, kR8_1, kL9, kA9, kS9, kL10, kA10, kS10, kC11, kG11, kP11, kR11_0, kR11_1, kR11_2, kR11_3, kL12, kA12, kS12, kL13, kA13, kS13, kL14, kA14, kS14, kL15, kA15, kS15, kC16, kG16, kP16, kR16_0, kR16_1, kL17, kA17, kS17, kL18, kA18, kS18, kC19, kG19, kP19, kR19_0, kL20, kL141, kL146, kA146, kS146, kL151, kA151, kS151, kL156, kA156, kS156, kC157, kG157, kP157, kR157_0, kR157_1, kL158, kA158, kS158, kL159, kA159, kS159, kC161, kG161, kP161, kR161_0, kR161_1, kL162, kA162, kS162, kL163, kA163, kS163, kC165, kG165, kP165, kR165_0, kR165_1, kR165_2, kR165_3, kL166, kA166, kS166, kL167, kA167, kS167, kL168, kA168, kS168, kL169, kA169, kS169, kC170, kG170, kP170, kR170_0, kR170_1, kR170_2, kL171, kA171, kS171, kL172, kA172, kS172, kL173, kA173, kS173, kC174, kG174, kP174, kR174_0, kR174_1, kR174_2, kR174_3, kR174_4, kL175, kA175, kS175, kL176, kA176, kS176, kL177, kA177, kS177, kL178, kA178, kS178, kL179, kC180, kG180, kP180, kL181, kL182, kA182, kS182, kC183, kG183, kP183, kR183_1, kR183_3, kR183_5, kR183_6, kR183_7, kR183_8, kR183_9, kR183_21, kR183_26, kR183_27, kR183_30, kR183_31, kR183_33, kR183_34, kR183_36, kR183_37, kR183_38, kR183_39, kR183_40, kR183_41, kR183_42, kR183_43, kR183_44, kL184, kA184, kS184, kL185, kA185, kS185, kL186, kA186, kS186, kL187, kA187, kS187, kL188, kA188, kS188, kL189, kL190, kL191, kA191, kS191, kL192, kA192, kS192, kL193, kA193, kS193, kL194, kA194, kS194, kL195, kA195, kS195, kL196, kA196, kS196, kL197, kA197, kS197, kL198, kA198, kS198, kL199, kA199, kS199, kL200, kA200, kS200, kL201, kL202, kA202, kS202, kL203, kA203, kS203, kL204, kA204, kS204, kL205, kL206, kA206, kS206, h4, q1, (hb k hk).1]
theorem byte12_end (hS : Shp τ) (hX : TX J b m) {k : Nat} (hk : m ≤ k) (hk2 : k < 2147483648) : f_X12_byteAt (xw τ J) 183 (nI k) = some 0 := by
  obtain ⟨hm, h4, hb⟩ := hX
  unfold f_X12_byteAt
  have q1 : (nI m ≤ nI k) = True := by rw [nn_le (by omega) (by omega)]; exact eq_true (by omega)
  simp (disch := first | assumption | omega) only [Option.bind_some, Option.map_some, xw_gR, xw_gN, xw_al, xw_ck, xw_uI, xw_ur, xup_at, xur_at, if_true, if_false, reduceIte, and_true, true_and, and_false, false_and, not_true_eq_false, not_false_eq_true, Nat.reduceEqDiff, eq_self, Nat.reduceAdd, Nat.reduceMul, kC1, kG1, kP1, kR1_0, kR1_1, kR1_2, kR1_3, kR1_4, kR1_5, kR1_6, kR1_7, kR1_8, kR1_9, kR1_10, kR1_11, kR1_12, kR1_13, kC2, kG2, kP2, kR2_0, kR2_1, kC3, kG3, kP3, kR3_0, kR3_1, kR3_2, kR3_3, kL4, kA4, kS4, kL5, kA5, kS5, kL6, kA6, kS6, kL7, kA7, kS7, kC8, kG8, kP8, kR8_0, kR8_1, kL9, kA9, kS9, kL10, kA10, kS10, kC11, kG11, kP11, kR11_0, kR11_1, kR11_2, kR11_3, kL12, kA12, kS12, kL13, kA13, kS13, kL14, kA14, kS14, kL15, kA15, kS15, kC16, kG16, kP16, kR16_0, kR16_1, kL17, kA17, kS17, kL18, kA18, kS18, kC19, kG19, kP19, kR19_0, kL20, kL141, kL146, kA146, kS146, kL151, kA151, kS151, kL156, kA156, kS156, kC157, kG157, kP157, kR157_0, kR157_1, kL158, kA158, kS158, kL159, kA159, kS159, kC161, kG161, kP161, kR161_0, kR161_1, kL162, kA162, kS162, kL163, kA163, kS163, kC165, kG165, kP165, kR165_0, kR165_1, kR165_2, kR165_3, kL166, kA166, kS166, kL167, kA167, kS167, kL168, kA168, kS168, kL169, kA169, kS169, kC170, kG170, kP170, kR170_0, kR170_1, kR170_2, kL171, kA171, kS171, kL172, kA172, kS172, kL173, kA173, kS173, kC174, kG174, kP174, kR174_0, kR174_1, kR174_2, kR174_3, kR174_4, kL175, kA175, kS175, kL176, kA176, kS176, kL177, kA177, kS177, kL178, kA178, kS178, kL179, kC180, kG180, kP180, kL181, kL182, kA182, kS182, kC183, kG183, kP183, kR183_1, kR183_3, kR183_5, kR183_6, kR183_7, kR183_8, kR183_9, kR183_21, kR183_26, kR183_27, kR183_30, kR183_31, kR183_33, kR183_34, kR183_36, kR183_37, kR183_38, kR183_39, kR183_40, kR183_41, kR183_42, kR183_43, kR183_44, kL184, kA184, kS184, kL185, kA185, kS185, kL186, kA186, kS186, kL187, kA187, kS187, kL188, kA188, kS188, kL189, kL190, kL191, kA191, kS191, kL192, kA192, kS192, kL193, kA193, kS193, kL194, kA194, kS194, kL195, kA195, kS195, kL196, kA196, kS196, kL197, kA197, kS197, kL198, kA198, kS198, kL199, kA199, kS199, kL200, kA200, kS200, kL201, kL202, kA202, kS202, kL203, kA203, kS203, kL204, kA204, kS204, kL205, kL206, kA206, kS206, h4, q1]
/-- the rows behind a new token -/
def tkI (J : Nat → Nat → Int32) (n : Nat) (k p v : Int32) : Nat → Nat → Int32 := xup (xup (xup (xup J 186 n k) 187 n p) 188 n v) 183 10 (nI (n + 1))
theorem token_ok (hS : Shp τ) {n : Nat} {k p v : Int32} {w : Int64} (hn : n < 403) (h : J 183 10 = nI n) : f_X12_token (xw τ J) 183 k p v w = some (xw (xl τ (xup (xL τ) 189 n w)) (tkI J n k p v)) := by
  have K : τ.1 189 = (23, 403) := xw_K hS (by decide) (by decide) (by decide)
  have hS2 : Shp (xl τ (xup (xL τ) 189 n w)) := hS
  have sl : ∀ J', xsL (xw τ J') 189 (nI n) w = some (xw (xl τ (xup (xL τ) 189 n w)) J') := fun J' => xl_sL (σ := τ) (L := xL τ) K hn (by decide)
  unfold f_X12_token
  simp (disch := first | assumption | omega) only [Option.bind_some, Option.map_some, xw_gR, xw_gN, xw_al, xw_ck, xw_uI, xw_ur, xup_at, xur_at, if_true, if_false, reduceIte, and_true, true_and, and_false, false_and, not_true_eq_false, not_false_eq_true, Nat.reduceEqDiff, eq_self, Nat.reduceAdd, Nat.reduceMul, kC1, kG1, kP1, kR1_0, kR1_1, kR1_2, kR1_3, kR1_4, kR1_5, kR1_6, kR1_7, kR1_8, kR1_9, kR1_10, kR1_11, kR1_12, kR1_13, kC2, kG2, kP2, kR2_0, kR2_1, kC3, kG3, kP3, kR3_0, kR3_1, kR3_2, kR3_3, kL4, kA4, kS4, kL5, kA5, kS5, kL6, kA6, kS6, kL7, kA7, kS7, kC8, kG8, kP8, kR8_0, kR8_1, kL9, kA9, kS9, kL10, kA10, kS10, kC11, kG11, kP11, kR11_0, kR11_1, kR11_2, kR11_3, kL12, kA12, kS12, kL13, kA13, kS13, kL14, kA14, kS14, kL15, kA15, kS15, kC16, kG16, kP16, kR16_0, kR16_1, kL17, kA17, kS17, kL18, kA18, kS18, kC19, kG19, kP19, kR19_0, kL20, kL141, kL146, kA146, kS146, kL151, kA151, kS151, kL156, kA156, kS156, kC157, kG157, kP157, kR157_0, kR157_1, kL158, kA158, kS158, kL159, kA159, kS159, kC161, kG161, kP161, kR161_0, kR161_1, kL162, kA162, kS162, kL163, kA163, kS163, kC165, kG165, kP165, kR165_0, kR165_1, kR165_2, kR165_3, kL166, kA166, kS166, kL167, kA167, kS167, kL168, kA168, kS168, kL169, kA169, kS169, kC170, kG170, kP170, kR170_0, kR170_1, kR170_2, kL171, kA171, kS171, kL172, kA172, kS172, kL173, kA173, kS173, kC174, kG174, kP174, kR174_0, kR174_1, kR174_2, kR174_3, kR174_4, kL175, kA175, kS175, kL176, kA176, kS176, kL177, kA177, kS177, kL178, kA178, kS178, kL179, kC180, kG180, kP180, kL181, kL182, kA182, kS182, kC183, kG183, kP183, kR183_1, kR183_3, kR183_5, kR183_6, kR183_7, kR183_8, kR183_9, kR183_21, kR183_26, kR183_27, kR183_30, kR183_31, kR183_33, kR183_34, kR183_36, kR183_37, kR183_38, kR183_39, kR183_40, kR183_41, kR183_42, kR183_43, kR183_44, kL184, kA184, kS184, kL185, kA185, kS185, kL186, kA186, kS186, kL187, kA187, kS187, kL188, kA188, kS188, kL189, kL190, kL191, kA191, kS191, kL192, kA192, kS192, kL193, kA193, kS193, kL194, kA194, kS194, kL195, kA195, kS195, kL196, kA196, kS196, kL197, kA197, kS197, kL198, kA198, kS198, kL199, kA199, kS199, kL200, kA200, kS200, kL201, kL202, kA202, kS202, kL203, kA203, kS203, kL204, kA204, kS204, kL205, kL206, kA206, kS206, h, sl]
  rw [← nI_succ]
  rfl
theorem tkI_out {n : Nat} {k p v : Int32} {a q : Nat} (h : ¬ (186 ≤ a ∧ a ≤ 188)) (h2 : ¬ (a = 183 ∧ q = 10)) : tkI J n k p v a q = J a q := by
  unfold tkI
  rw [xup_at, if_neg h2, xup_at, if_neg (by omega), xup_at, if_neg (by omega), xup_at, if_neg (by omega)]
theorem tkI_10 {n : Nat} {k p v : Int32} : tkI J n k p v 183 10 = nI (n + 1) := by
  unfold tkI
  rw [xup_at, if_pos ⟨rfl, rfl⟩]
theorem TKM_s {n : Nat} {k p v : Int32} (h : TKM J b m n) (h1 : KMr (tKd b m n) k) (h2 : p = nI (tSt b m n)) (h3 : tKd b m n = 2 → v = nI (tNu b m n)) : TKM (tkI J n k p v) b m (n + 1) := by
  intro i hi
  have e6 : tkI J n k p v 186 i = if i = n then k else J 186 i := by
    unfold tkI
    rw [xup_at, if_neg (by omega), xup_at, if_neg (by omega), xup_at, if_neg (by omega), xup_at]
    by_cases z : i = n
    · rw [if_pos ⟨rfl, z⟩, if_pos z]
    · rw [if_neg (by omega), if_neg z]
  have e7 : tkI J n k p v 187 i = if i = n then p else J 187 i := by
    unfold tkI
    rw [xup_at, if_neg (by omega), xup_at, if_neg (by omega), xup_at]
    by_cases z : i = n
    · rw [if_pos ⟨rfl, z⟩, if_pos z]
    · rw [if_neg (by omega), if_neg z, xup_at, if_neg (by omega)]
  have e8 : tkI J n k p v 188 i = if i = n then v else J 188 i := by
    unfold tkI
    rw [xup_at, if_neg (by omega), xup_at]
    by_cases z : i = n
    · rw [if_pos ⟨rfl, z⟩, if_pos z]
    · rw [if_neg (by omega), if_neg z, xup_at, if_neg (by omega), xup_at, if_neg (by omega)]
  rw [e6, e7, e8]
  by_cases z : i = n
  · rw [if_pos z, if_pos z, if_pos z, z]; exact ⟨h1, h2, h3⟩
  · rw [if_neg z, if_neg z, if_neg z]; exact h i (by omega)
/-- the last key that is the word -/
def kfN (c : Nat) : Nat → Nat
  | 0 => 1
  | k + 1 => if kyW.getD k 0 = c then 20 + k else kfN c k
theorem kf_no {c : Nat} : ∀ n, (∀ k, k < n → kyW.getD k 0 ≠ c) → kfN c n = 1
  | 0, _ => rfl
  | n + 1, h => by rw [kfN, if_neg (h n (by omega))]; exact kf_no n (fun k hk => h k (by omega))
theorem kf_yes {c j : Nat} (hj : kyW.getD j 0 = c) (hj2 : j < 11) : ∀ n, n ≤ 11 → j < n → kfN c n = 20 + j
  | 0, _, h => by omega
  | n + 1, hn, h => by
    rw [kfN]
    by_cases z : kyW.getD n 0 = c
    · rw [if_pos z, ky_one n (by omega) j hj2 (z.trans hj.symm)]
    · rw [if_neg z]
      exact kf_yes hj hj2 n (by omega) (by
        by_cases y : j = n
        · rw [y] at hj; exact absurd hj z
        · omega)
theorem wk_no {p : Nat → Bool} : ∀ n, n ≤ 11 → (∀ j, j < 11 → p j = false) → wkF p n = 1
  | 0, _, _ => rfl
  | n + 1, hn, h => by rw [wkF, h (10 - n) (by omega), if_neg (by decide)]; exact wk_no n (by omega) h
theorem wk_yes {p : Nat → Bool} {j : Nat} (hj : p j = true) (ho : ∀ i, i < 11 → p i = true → i = j) : ∀ n, n ≤ 11 → 11 - n ≤ j → j < 11 → wkF p n = 5 + j
  | 0, _, h1, h2 => by omega
  | n + 1, hn, h1, h2 => by
    rw [wkF]
    by_cases z : p (10 - n) = true
    · rw [if_pos z, ho _ (by omega) z]
    · rw [if_neg z]
      refine wk_yes hj ho n (by omega) ?_ h2
      by_cases y : 10 - n = j
      · rw [y] at z; exact absurd hj z
      · omega
theorem word_rel {s n : Nat} (hb : ∀ i, i < n → isLt (b (s + i)) = true) : KMr (wdK b s n) (nI (kfN (wdN b s n) 11)) := by
  unfold wdK
  by_cases h : ∃ j, j < 11 ∧ wdM b s n j = true
  · obtain ⟨j, j1, j2⟩ := h
    have e := (wdM_iff j1 hb).mp j2
    rw [wk_yes j2 (fun i i1 i2 => ky_one i i1 j j1 (((wdM_iff i1 hb).mp i2).symm.trans e)) 11 (by omega) (by omega) j1, kf_yes e.symm j1 11 (by omega) j1]
    right
    refine ⟨by omega, ?_⟩
    unfold kmN
    rw [if_neg (by omega), if_pos (by omega)]
    congr 1
    omega
  · have h' : ∀ j, j < 11 → wdM b s n j = false := fun j hj => by
      cases z : wdM b s n j with
      | false => rfl
      | true => exact absurd ⟨j, hj, z⟩ h
    rw [wk_no 11 (by omega) h', kf_no 11 (fun k hk z => by
      have := (wdM_iff hk hb).mpr z.symm
      rw [h' k hk] at this; cases this)]
    exact .inl ⟨rfl, .inl rfl⟩
theorem word_long {s n : Nat} (h : 8 < n) : wdK b s n = 1 := by
  unfold wdK
  refine wk_no 11 (by omega) (fun j hj => ?_)
  unfold wdM
  have := (wd_tab j hj).2.2.1
  rw [decide_eq_false (by omega), Bool.false_and]
theorem letters12 (hS : Shp τ) (hk : KY (xL τ)) (hX : TX J b m) {i n : Nat} (hi : i < m) (hl : isLt (b i) = true) (hn : n < 403) (h10 : J 183 10 = nI n) :
    ∃ (L : Nat → Nat → Int64) (k : Int32), xloop (f_X12_cutsText_b85 (xw τ J) 183 (nI i)) ((0 : Int32), (0 : Int64)) = some (.inl (nI (nxP isLt b m i), xw (xl τ L) (tkI J n k (nI i) 0))) ∧ KMr (wdK b i (nxP isLt b m i - i)) k ∧ ∀ q, L 190 q = xL τ 190 q := by
  have hm := hX.1
  have hge := nxP_ge (q := isLt) (b := b) (m := m) (p := i)
  have hle := nxP_le (q := isLt) (b := b) (show i ≤ m by omega)
  obtain ⟨len, hlen⟩ : ∃ len, len = nxP isLt b m i - i := ⟨_, rfl⟩
  have hall : ∀ k, k < len → isLt (b (i + k)) = true := fun k hk => nxP_in (q := isLt) (b := b) (m := m) (p := i) (by omega) (by omega)
  have hnx : i + len = nxP isLt b m i := by omega
  have Lf : ∀ (w : Int64) (q : Nat), xup (xL τ) 189 n w 190 q = xL τ 190 q := fun w q => by
    show (if 190 = 189 ∧ q = n then w else xL τ 190 q) = _
    rw [if_neg (by omega)]
  have tok : ∀ (k : Int32) (w : Int64), f_X12_cutsText_j179 (xw τ J) 183 (nI i) (nI len) w k = some (.inl (nI (nxP isLt b m i), xw (xl τ (xup (xL τ) 189 n w)) (tkI J n k (nI i) 0))) := fun k w => by
    unfold f_X12_cutsText_j179
    rw [xw_ck, kC183 hS, Option.bind_some, token_ok hS hn h10, Option.bind_some, nn_add, hnx]
  have go : ∀ (k : Int32) (w : Int64), (if nI len ≤ (8 : Int32) then f_X12_cutsText_j135 (xw τ J) 183 (nI i) (nI len) (lN (wdN b i (min len 8))) 1 else f_X12_cutsText_j135 (xw τ J) 183 (nI i) (nI len) (lN (wdN b i (min len 8))) 3) = some (.inl (nI (nxP isLt b m i), xw (xl τ (xup (xL τ) 189 n w)) (tkI J n k (nI i) 0))) → xloop (f_X12_cutsText_b85 (xw τ J) 183 (nI i)) ((0 : Int32), (0 : Int64)) = some (.inl (nI (nxP isLt b m i), xw (xl τ (xup (xL τ) 189 n w)) (tkI J n k (nI i) 0))) := by
    intro k w hgo
    refine xforE (fun j : Nat => (nI j, lN (wdN b i (min j 8)))) len rfl (fun j hj => ?_) ?_
    · have hb := byte12_ok (τ := τ) hS hX (show i + j < m by omega)
      have hlj := hall j hj
      have hbx := b255_x (hX.2.2 (i + j) (by omega)).2
      have hlb := isLt_b hlj
      have ev : b (i + j) &&& 255 = b (i + j) := hbx.2.2.2.2.2 (by omega)
      rw [ev] at hb
      simp only [f_X12_cutsText_b85]
      have q8 : ((8 : Int32) ≤ nI j) = (8 ≤ j) := by rw [show (8 : Int32) = nI 8 from rfl, nn_le (by omega) (by omega)]
      by_cases h8 : 8 ≤ j
      · simp (disch := first | assumption | omega) only [Option.bind_some, Option.map_some, xw_gR, xw_gN, xw_al, xw_ck, xw_uI, xw_ur, xup_at, xur_at, if_true, if_false, reduceIte, and_true, true_and, and_false, false_and, not_true_eq_false, not_false_eq_true, Nat.reduceEqDiff, eq_self, Nat.reduceAdd, Nat.reduceMul, kC1, kG1, kP1, kR1_0, kR1_1, kR1_2, kR1_3, kR1_4, kR1_5, kR1_6, kR1_7, kR1_8, kR1_9, kR1_10, kR1_11, kR1_12, kR1_13, kC2, kG2, kP2, kR2_0, kR2_1, kC3, kG3, kP3, kR3_0, kR3_1, kR3_2, kR3_3, kL4, kA4, kS4, kL5, kA5, kS5, kL6, kA6, kS6, kL7, kA7, kS7, kC8, kG8, kP8, kR8_0, kR8_1, kL9, kA9, kS9, kL10, kA10, kS10, kC11, kG11, kP11, kR11_0, kR11_1, kR11_2, kR11_3, kL12, kA12, kS12, kL13, kA13, kS13, kL14, kA14, kS14, kL15, kA15, kS15, kC16, kG16, kP16, kR16_0, kR16_1, kL17, kA17, kS17, kL18, kA18, kS18, kC19, kG19, kP19, kR19_0, kL20, kL141, kL146, kA146, kS146, kL151, kA151, kS151, kL156, kA156, kS156, kC157, kG157, kP157, kR157_0, kR157_1, kL158, kA158, kS158, kL159, kA159, kS159, kC161, kG161, kP161, kR161_0, kR161_1, kL162, kA162, kS162, kL163, kA163, kS163, kC165, kG165, kP165, kR165_0, kR165_1, kR165_2, kR165_3, kL166, kA166, kS166, kL167, kA167, kS167, kL168, kA168, kS168, kL169, kA169, kS169, kC170, kG170, kP170, kR170_0, kR170_1, kR170_2, kL171, kA171, kS171, kL172, kA172, kS172, kL173, kA173, kS173, kC174, kG174, kP174, kR174_0, kR174_1, kR174_2, kR174_3, kR174_4, kL175, kA175, kS175, kL176, kA176, kS176, kL177, kA177, kS177, kL178, kA178, kS178, kL179, kC180, kG180, kP180, kL181, kL182, kA182, kS182, kC183, kG183, kP183, kR183_1, kR183_3, kR183_5, kR183_6, kR183_7, kR183_8, kR183_9, kR183_21, kR183_26, kR183_27, kR183_30, kR183_31, kR183_33, kR183_34, kR183_36, kR183_37, kR183_38, kR183_39, kR183_40, kR183_41, kR183_42, kR183_43, kR183_44, kL184, kA184, kS184, kL185, kA185, kS185, kL186, kA186, kS186, kL187, kA187, kS187, kL188, kA188, kS188, kL189, kL190, kL191, kA191, kS191, kL192, kA192, kS192, kL193, kA193, kS193, kL194, kA194, kS194, kL195, kA195, kS195, kL196, kA196, kS196, kL197, kA197, kS197, kL198, kA198, kS198, kL199, kA199, kS199, kL200, kA200, kS200, kL201, kL202, kA202, kS202, kL203, kA203, kS203, kL204, kA204, kS204, kL205, kL206, kA206, kS206, nn_add, hb, lt12_ok, hlj, one0, q8, h8]
        rw [nI_succ, show min (j + 1) 8 = min j 8 by omega]
      · have q0 : (b (i + j) = 0) = False := by
          apply eq_false
          intro z
          rw [z] at hlb
          have : ((0 : Int32)).toInt = 0 := rfl
          omega
        have hwb := wdN_b (b := b) (s := i) j (fun k hk => by have := isLt_b (hall k (by omega)); unfold lt1; omega)
        have hp : 27 ^ j ≤ 27 ^ 8 := Nat.pow_le_pow_right (by decide) (by omega)
        have ap : f_X12_appends (lN (wdN b i (min j 8))) (b (i + j)) = some (lN (wdN b i (min (j + 1) 8))) := by
          unfold f_X12_appends
          rw [if_neg (by rw [q0]; exact id), show min j 8 = j by omega, show min (j + 1) 8 = j + 1 by omega]
          have e1 : b (i + j) - (97 : Int32) + (1 : Int32) = nI (lt1 (b (i + j))) := by
            rw [iI_of (b (i + j)), show (97 : Int32) = iI 97 from rfl, show (1 : Int32) = iI 1 from rfl, iI_sub, iI_add, iI_n]
            congr 1
            unfold lt1
            rw [iI_ti (by omega) (by omega)]
            omega
          have e2 : lt1 (b (i + j)) ≤ 26 := by unfold lt1; omega
          rw [e1, nI_i64 (by omega), show (27 : Int64) = lN 27 from rfl, vL_mul (by omega) (by omega) (by omega), vL_add (by omega)]
          rfl
        simp (disch := first | assumption | omega) only [Option.bind_some, Option.map_some, xw_gR, xw_gN, xw_al, xw_ck, xw_uI, xw_ur, xup_at, xur_at, if_true, if_false, reduceIte, and_true, true_and, and_false, false_and, not_true_eq_false, not_false_eq_true, Nat.reduceEqDiff, eq_self, Nat.reduceAdd, Nat.reduceMul, kC1, kG1, kP1, kR1_0, kR1_1, kR1_2, kR1_3, kR1_4, kR1_5, kR1_6, kR1_7, kR1_8, kR1_9, kR1_10, kR1_11, kR1_12, kR1_13, kC2, kG2, kP2, kR2_0, kR2_1, kC3, kG3, kP3, kR3_0, kR3_1, kR3_2, kR3_3, kL4, kA4, kS4, kL5, kA5, kS5, kL6, kA6, kS6, kL7, kA7, kS7, kC8, kG8, kP8, kR8_0, kR8_1, kL9, kA9, kS9, kL10, kA10, kS10, kC11, kG11, kP11, kR11_0, kR11_1, kR11_2, kR11_3, kL12, kA12, kS12, kL13, kA13, kS13, kL14, kA14, kS14, kL15, kA15, kS15, kC16, kG16, kP16, kR16_0, kR16_1, kL17, kA17, kS17, kL18, kA18, kS18, kC19, kG19, kP19, kR19_0, kL20, kL141, kL146, kA146, kS146, kL151, kA151, kS151, kL156, kA156, kS156, kC157, kG157, kP157, kR157_0, kR157_1, kL158, kA158, kS158, kL159, kA159, kS159, kC161, kG161, kP161, kR161_0, kR161_1, kL162, kA162, kS162, kL163, kA163, kS163, kC165, kG165, kP165, kR165_0, kR165_1, kR165_2, kR165_3, kL166, kA166, kS166, kL167, kA167, kS167, kL168, kA168, kS168, kL169, kA169, kS169, kC170, kG170, kP170, kR170_0, kR170_1, kR170_2, kL171, kA171, kS171, kL172, kA172, kS172, kL173, kA173, kS173, kC174, kG174, kP174, kR174_0, kR174_1, kR174_2, kR174_3, kR174_4, kL175, kA175, kS175, kL176, kA176, kS176, kL177, kA177, kS177, kL178, kA178, kS178, kL179, kC180, kG180, kP180, kL181, kL182, kA182, kS182, kC183, kG183, kP183, kR183_1, kR183_3, kR183_5, kR183_6, kR183_7, kR183_8, kR183_9, kR183_21, kR183_26, kR183_27, kR183_30, kR183_31, kR183_33, kR183_34, kR183_36, kR183_37, kR183_38, kR183_39, kR183_40, kR183_41, kR183_42, kR183_43, kR183_44, kL184, kA184, kS184, kL185, kA185, kS185, kL186, kA186, kS186, kL187, kA187, kS187, kL188, kA188, kS188, kL189, kL190, kL191, kA191, kS191, kL192, kA192, kS192, kL193, kA193, kS193, kL194, kA194, kS194, kL195, kA195, kS195, kL196, kA196, kS196, kL197, kA197, kS197, kL198, kA198, kS198, kL199, kA199, kS199, kL200, kA200, kS200, kL201, kL202, kA202, kS202, kL203, kA203, kS203, kL204, kA204, kS204, kL205, kL206, kA206, kS206, nn_add, hb, lt12_ok, hlj, one0, q8, h8, ap]
        rw [nI_succ]
    · simp only [f_X12_cutsText_b85]
      have hend : ∃ y, f_X12_byteAt (xw τ J) 183 (nI (i + len)) = some y ∧ isLt y = false := by
        by_cases z : i + len < m
        · have hno : isLt (b (i + len)) = false := by rw [hnx] at z ⊢; exact nxP_out z
          exact ⟨_, byte12_ok hS hX z, by rw [(b255_x (hX.2.2 _ z).2).1]; exact hno⟩
        · exact ⟨0, byte12_end hS hX (by omega) (by omega), by decide⟩
      obtain ⟨y, y1, y2⟩ := hend
      rw [xw_ck, kC183 hS, Option.bind_some, nn_add, y1, Option.bind_some, lt12_ok, Option.bind_some, y2, if_neg (show ¬ (false = true) by decide), if_pos rfl, hgo]
      rfl
  have q8 : (nI len ≤ (8 : Int32)) = (len ≤ 8) := by rw [show (8 : Int32) = nI 8 from rfl, nn_le (by omega) (by omega)]
  have q8' : ((8 : Int32) < nI len) = (8 < len) := by rw [show (8 : Int32) = nI 8 from rfl, nn_lt (by omega) (by omega)]
  rw [← hlen]
  by_cases h8 : len ≤ 8
  · refine ⟨xup (xL τ) 189 n (lN (wdN b i (min len 8))), nI (kfN (wdN b i len) 11), go _ _ ?_, word_rel hall, Lf _⟩
    rw [if_pos (by rw [q8]; exact h8)]
    unfold f_X12_cutsText_j135
    rw [if_neg (by rw [q8']; omega), show min len 8 = len by omega]
    have hwb := wdN_b (b := b) (s := i) len (fun k hk => by have := isLt_b (hall k (by omega)); unfold lt1; omega)
    have hp : 27 ^ len ≤ 27 ^ 8 := Nat.pow_le_pow_right (by decide) (by omega)
    have K : τ.1 190 = (23, 11) := xw_K hS (by decide) (by decide) (by decide)
    have kb : ∀ k, k < 11 → kyW.getD k 0 < 100000000 := by decide
    refine xforE (fun k : Nat => (nI (kfN (wdN b i len) k), nI k)) 11 rfl (fun k hk1 => ?_) ?_
    · have al : xaL (xw τ J) 190 (nI k) = some (lN (kyW.getD k 0)) := by
        rw [← hk k hk1]
        exact xl_aL (σ := τ) (L := xL τ) K hk1 (by decide)
      have q1 : ((11 : Int32) ≤ nI k) = False := by rw [show (11 : Int32) = nI 11 from rfl, nn_le (by omega) (by omega)]; exact eq_false (by omega)
      have q2 : (lg_cmp (lN (kyW.getD k 0)) (lN (wdN b i len)) = 0) = (kyW.getD k 0 = wdN b i len) := by
        have := kb k hk1
        rw [lg_cmp0, vL_eq (by omega) (by omega)]
      simp only [f_X12_cutsText_b146]
      simp (disch := first | assumption | omega) only [Option.bind_some, Option.map_some, xw_gR, xw_gN, xw_al, xw_ck, xw_uI, xw_ur, xup_at, xur_at, if_true, if_false, reduceIte, and_true, true_and, and_false, false_and, not_true_eq_false, not_false_eq_true, Nat.reduceEqDiff, eq_self, Nat.reduceAdd, Nat.reduceMul, kC1, kG1, kP1, kR1_0, kR1_1, kR1_2, kR1_3, kR1_4, kR1_5, kR1_6, kR1_7, kR1_8, kR1_9, kR1_10, kR1_11, kR1_12, kR1_13, kC2, kG2, kP2, kR2_0, kR2_1, kC3, kG3, kP3, kR3_0, kR3_1, kR3_2, kR3_3, kL4, kA4, kS4, kL5, kA5, kS5, kL6, kA6, kS6, kL7, kA7, kS7, kC8, kG8, kP8, kR8_0, kR8_1, kL9, kA9, kS9, kL10, kA10, kS10, kC11, kG11, kP11, kR11_0, kR11_1, kR11_2, kR11_3, kL12, kA12, kS12, kL13, kA13, kS13, kL14, kA14, kS14, kL15, kA15, kS15, kC16, kG16, kP16, kR16_0, kR16_1, kL17, kA17, kS17, kL18, kA18, kS18, kC19, kG19, kP19, kR19_0, kL20, kL141, kL146, kA146, kS146, kL151, kA151, kS151, kL156, kA156, kS156, kC157, kG157, kP157, kR157_0, kR157_1, kL158, kA158, kS158, kL159, kA159, kS159, kC161, kG161, kP161, kR161_0, kR161_1, kL162, kA162, kS162, kL163, kA163, kS163, kC165, kG165, kP165, kR165_0, kR165_1, kR165_2, kR165_3, kL166, kA166, kS166, kL167, kA167, kS167, kL168, kA168, kS168, kL169, kA169, kS169, kC170, kG170, kP170, kR170_0, kR170_1, kR170_2, kL171, kA171, kS171, kL172, kA172, kS172, kL173, kA173, kS173, kC174, kG174, kP174, kR174_0, kR174_1, kR174_2, kR174_3, kR174_4, kL175, kA175, kS175, kL176, kA176, kS176, kL177, kA177, kS177, kL178, kA178, kS178, kL179, kC180, kG180, kP180, kL181, kL182, kA182, kS182, kC183, kG183, kP183, kR183_1, kR183_3, kR183_5, kR183_6, kR183_7, kR183_8, kR183_9, kR183_21, kR183_26, kR183_27, kR183_30, kR183_31, kR183_33, kR183_34, kR183_36, kR183_37, kR183_38, kR183_39, kR183_40, kR183_41, kR183_42, kR183_43, kR183_44, kL184, kA184, kS184, kL185, kA185, kS185, kL186, kA186, kS186, kL187, kA187, kS187, kL188, kA188, kS188, kL189, kL190, kL191, kA191, kS191, kL192, kA192, kS192, kL193, kA193, kS193, kL194, kA194, kS194, kL195, kA195, kS195, kL196, kA196, kS196, kL197, kA197, kS197, kL198, kA198, kS198, kL199, kA199, kS199, kL200, kA200, kS200, kL201, kL202, kA202, kS202, kL203, kA203, kS203, kL204, kA204, kS204, kL205, kL206, kA206, kS206, q1, al, q2]
      rw [← nI_succ]
      show _ = some (Sum.inl (nI (kfN (wdN b i len) (k + 1)), nI (k + 1)))
      rw [kfN]
      by_cases z : kyW.getD k 0 = wdN b i len
      · rw [if_pos z, if_pos z, show (20 : Int32) = nI 20 from rfl, nn_add]
      · rw [if_neg z, if_neg z]
    · simp only [f_X12_cutsText_b146]
      rw [if_pos (by decide), tok]
      rfl
  · refine ⟨xup (xL τ) 189 n (lN (wdN b i (min len 8))), 3, go _ _ ?_, ?_, Lf _⟩
    · rw [if_neg (by rw [q8]; exact h8)]
      unfold f_X12_cutsText_j135
      rw [if_pos (by rw [q8']; omega), tok]
    · rw [word_long (by omega)]
      exact .inl ⟨rfl, .inr rfl⟩
theorem digits12 (hS : Shp τ) (hX : TX J b m) {i n : Nat} (hi : i < m) (hl : isDg (b i) = true) (hn : n < 403) (h10 : J 183 10 = nI n) :
    ∃ (L : Nat → Nat → Int64) (v : Int32), xloop (f_X12_cutsText_b208 (xw τ J) 183 (nI i)) ((0 : Int32), (0 : Int32)) = some (.inl (nI (nxP isDg b m i), xw (xl τ L) (tkI J n (if nxP isDg b m i - i ≤ 4 then 2 else 3) (nI i) v))) ∧ (nxP isDg b m i - i ≤ 4 → v = nI (nuV b i (nxP isDg b m i - i))) ∧ ∀ q, L 190 q = xL τ 190 q := by
  have hm := hX.1
  have hge := nxP_ge (q := isDg) (b := b) (m := m) (p := i)
  have hle := nxP_le (q := isDg) (b := b) (show i ≤ m by omega)
  obtain ⟨len, hlen⟩ : ∃ len, len = nxP isDg b m i - i := ⟨_, rfl⟩
  have hall : ∀ k, k < len → isDg (b (i + k)) = true := fun k hk => nxP_in (q := isDg) (b := b) (m := m) (p := i) (by omega) (by omega)
  have hnx : i + len = nxP isDg b m i := by omega
  have tok : ∀ (k v : Int32), f_X12_cutsText_j261 (xw τ J) 183 (nI i) (nI len) v 183 k = some (.inl (nI (nxP isDg b m i), xw (xl τ (xup (xL τ) 189 n 0)) (tkI J n k (nI i) v))) := fun k v => by
    unfold f_X12_cutsText_j261
    rw [xw_ck, kC183 hS, Option.bind_some, token_ok hS hn h10, Option.bind_some, nn_add, hnx]
  rw [← hlen]
  refine ⟨xup (xL τ) 189 n 0, nI (nuV b i (min len 4)), ?_, fun h4 => by rw [show min len 4 = len by omega], fun q => ?_⟩
  · refine xforE (fun j : Nat => (nI j, nI (nuV b i (min j 4)))) len rfl (fun j hj => ?_) ?_
    · have hb := byte12_ok (τ := τ) hS hX (show i + j < m by omega)
      have hlj := hall j hj
      have hbx := b255_x (hX.2.2 (i + j) (by omega)).2
      have hlb := isDg_b hlj
      have ev : b (i + j) &&& 255 = b (i + j) := hbx.2.2.2.2.2 (by omega)
      rw [ev] at hb
      have q4 : ((4 : Int32) ≤ nI j) = (4 ≤ j) := by rw [show (4 : Int32) = nI 4 from rfl, nn_le (by omega) (by omega)]
      simp only [f_X12_cutsText_b208]
      by_cases h4 : 4 ≤ j
      · simp (disch := first | assumption | omega) only [Option.bind_some, Option.map_some, xw_gR, xw_gN, xw_al, xw_ck, xw_uI, xw_ur, xup_at, xur_at, if_true, if_false, reduceIte, and_true, true_and, and_false, false_and, not_true_eq_false, not_false_eq_true, Nat.reduceEqDiff, eq_self, Nat.reduceAdd, Nat.reduceMul, kC1, kG1, kP1, kR1_0, kR1_1, kR1_2, kR1_3, kR1_4, kR1_5, kR1_6, kR1_7, kR1_8, kR1_9, kR1_10, kR1_11, kR1_12, kR1_13, kC2, kG2, kP2, kR2_0, kR2_1, kC3, kG3, kP3, kR3_0, kR3_1, kR3_2, kR3_3, kL4, kA4, kS4, kL5, kA5, kS5, kL6, kA6, kS6, kL7, kA7, kS7, kC8, kG8, kP8, kR8_0, kR8_1, kL9, kA9, kS9, kL10, kA10, kS10, kC11, kG11, kP11, kR11_0, kR11_1, kR11_2, kR11_3, kL12, kA12, kS12, kL13, kA13, kS13, kL14, kA14, kS14, kL15, kA15, kS15, kC16, kG16, kP16, kR16_0, kR16_1, kL17, kA17, kS17, kL18, kA18, kS18, kC19, kG19, kP19, kR19_0, kL20, kL141, kL146, kA146, kS146, kL151, kA151, kS151, kL156, kA156, kS156, kC157, kG157, kP157, kR157_0, kR157_1, kL158, kA158, kS158, kL159, kA159, kS159, kC161, kG161, kP161, kR161_0, kR161_1, kL162, kA162, kS162, kL163, kA163, kS163, kC165, kG165, kP165, kR165_0, kR165_1, kR165_2, kR165_3, kL166, kA166, kS166, kL167, kA167, kS167, kL168, kA168, kS168, kL169, kA169, kS169, kC170, kG170, kP170, kR170_0, kR170_1, kR170_2, kL171, kA171, kS171, kL172, kA172, kS172, kL173, kA173, kS173, kC174, kG174, kP174, kR174_0, kR174_1, kR174_2, kR174_3, kR174_4, kL175, kA175, kS175, kL176, kA176, kS176, kL177, kA177, kS177, kL178, kA178, kS178, kL179, kC180, kG180, kP180, kL181, kL182, kA182, kS182, kC183, kG183, kP183, kR183_1, kR183_3, kR183_5, kR183_6, kR183_7, kR183_8, kR183_9, kR183_21, kR183_26, kR183_27, kR183_30, kR183_31, kR183_33, kR183_34, kR183_36, kR183_37, kR183_38, kR183_39, kR183_40, kR183_41, kR183_42, kR183_43, kR183_44, kL184, kA184, kS184, kL185, kA185, kS185, kL186, kA186, kS186, kL187, kA187, kS187, kL188, kA188, kS188, kL189, kL190, kL191, kA191, kS191, kL192, kA192, kS192, kL193, kA193, kS193, kL194, kA194, kS194, kL195, kA195, kS195, kL196, kA196, kS196, kL197, kA197, kS197, kL198, kA198, kS198, kL199, kA199, kS199, kL200, kA200, kS200, kL201, kL202, kA202, kS202, kL203, kA203, kS203, kL204, kA204, kS204, kL205, kL206, kA206, kS206, nn_add, hb, dg12_ok, hlj, one0, q4, h4]
        rw [nI_succ, show min (j + 1) 4 = min j 4 by omega]
      · have hnu := nuV_b (b := b) (s := i) j (fun k hk => hall k (by omega))
        have hp : 10 ^ j ≤ 10 ^ 4 := Nat.pow_le_pow_right (by decide) (by omega)
        have ar : (10 : Int32) * nI (nuV b i (min j 4)) + b (i + j) - (48 : Int32) = nI (nuV b i (min (j + 1) 4)) := by
          rw [show min j 4 = j by omega, show min (j + 1) 4 = j + 1 by omega, dg_n hlj, show (10 : Int32) = nI 10 from rfl, nn_mul, nn_add, show (48 : Int32) = nI 48 from rfl, nn_sub (by omega)]
          congr 1
          show _ = 10 * nuV b i j + ((b (i + j)).toInt.toNat - 48)
          omega
        simp (disch := first | assumption | omega) only [Option.bind_some, Option.map_some, xw_gR, xw_gN, xw_al, xw_ck, xw_uI, xw_ur, xup_at, xur_at, if_true, if_false, reduceIte, and_true, true_and, and_false, false_and, not_true_eq_false, not_false_eq_true, Nat.reduceEqDiff, eq_self, Nat.reduceAdd, Nat.reduceMul, kC1, kG1, kP1, kR1_0, kR1_1, kR1_2, kR1_3, kR1_4, kR1_5, kR1_6, kR1_7, kR1_8, kR1_9, kR1_10, kR1_11, kR1_12, kR1_13, kC2, kG2, kP2, kR2_0, kR2_1, kC3, kG3, kP3, kR3_0, kR3_1, kR3_2, kR3_3, kL4, kA4, kS4, kL5, kA5, kS5, kL6, kA6, kS6, kL7, kA7, kS7, kC8, kG8, kP8, kR8_0, kR8_1, kL9, kA9, kS9, kL10, kA10, kS10, kC11, kG11, kP11, kR11_0, kR11_1, kR11_2, kR11_3, kL12, kA12, kS12, kL13, kA13, kS13, kL14, kA14, kS14, kL15, kA15, kS15, kC16, kG16, kP16, kR16_0, kR16_1, kL17, kA17, kS17, kL18, kA18, kS18, kC19, kG19, kP19, kR19_0, kL20, kL141, kL146, kA146, kS146, kL151, kA151, kS151, kL156, kA156, kS156, kC157, kG157, kP157, kR157_0, kR157_1, kL158, kA158, kS158, kL159, kA159, kS159, kC161, kG161, kP161, kR161_0, kR161_1, kL162, kA162, kS162, kL163, kA163, kS163, kC165, kG165, kP165, kR165_0, kR165_1, kR165_2, kR165_3, kL166, kA166, kS166, kL167, kA167, kS167, kL168, kA168, kS168, kL169, kA169, kS169, kC170, kG170, kP170, kR170_0, kR170_1, kR170_2, kL171, kA171, kS171, kL172, kA172, kS172, kL173, kA173, kS173, kC174, kG174, kP174, kR174_0, kR174_1, kR174_2, kR174_3, kR174_4, kL175, kA175, kS175, kL176, kA176, kS176, kL177, kA177, kS177, kL178, kA178, kS178, kL179, kC180, kG180, kP180, kL181, kL182, kA182, kS182, kC183, kG183, kP183, kR183_1, kR183_3, kR183_5, kR183_6, kR183_7, kR183_8, kR183_9, kR183_21, kR183_26, kR183_27, kR183_30, kR183_31, kR183_33, kR183_34, kR183_36, kR183_37, kR183_38, kR183_39, kR183_40, kR183_41, kR183_42, kR183_43, kR183_44, kL184, kA184, kS184, kL185, kA185, kS185, kL186, kA186, kS186, kL187, kA187, kS187, kL188, kA188, kS188, kL189, kL190, kL191, kA191, kS191, kL192, kA192, kS192, kL193, kA193, kS193, kL194, kA194, kS194, kL195, kA195, kS195, kL196, kA196, kS196, kL197, kA197, kS197, kL198, kA198, kS198, kL199, kA199, kS199, kL200, kA200, kS200, kL201, kL202, kA202, kS202, kL203, kA203, kS203, kL204, kA204, kS204, kL205, kL206, kA206, kS206, nn_add, hb, dg12_ok, hlj, one0, q4, h4, ar]
        rw [nI_succ]
    · simp only [f_X12_cutsText_b208]
      have hend : ∃ y, f_X12_byteAt (xw τ J) 183 (nI (i + len)) = some y ∧ isDg y = false := by
        by_cases z : i + len < m
        · have hno : isDg (b (i + len)) = false := by rw [hnx] at z ⊢; exact nxP_out z
          exact ⟨_, byte12_ok hS hX z, by rw [(b255_x (hX.2.2 _ z).2).2.1]; exact hno⟩
        · exact ⟨0, byte12_end hS hX (by omega) (by omega), by decide⟩
      obtain ⟨y, y1, y2⟩ := hend
      have q4 : (nI len ≤ (4 : Int32)) = (len ≤ 4) := by rw [show (4 : Int32) = nI 4 from rfl, nn_le (by omega) (by omega)]
      rw [xw_ck, kC183 hS, Option.bind_some, nn_add, y1, Option.bind_some, dg12_ok, Option.bind_some, y2, if_neg (show ¬ (false = true) by decide), if_pos rfl, tok, tok]
      simp only [q4]
      by_cases h4 : len ≤ 4
      · rw [if_pos h4, if_pos h4]; rfl
      · rw [if_neg h4, if_neg h4]; rfl
  · show (if 190 = 189 ∧ q = n then 0 else xL τ 190 q) = _
    rw [if_neg (by omega)]
end CUT12
end
