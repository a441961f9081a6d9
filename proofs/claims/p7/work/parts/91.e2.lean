/-! pass and hill -/
section PASS
variable {σ : XS} {J : Nat → Nat → Int32} {g : GD} {F : Nat → Int32}
theorem pass12_ok (hS : Shp σ) (hG : GRD J g) (ho : RO g F) (hK : KNK J g F) (h10 : gSt g ≤ 1024) {one other : Nat} (h1 : lwS g F one) (h2 : lwS g F other) :
    ∃ (J' : Nat → Nat → Int32) (h' : Nat → Int), xloop (f_X12_pass_b35 183 (nI one) (nI other)) ((0 : Int32), xw σ J) = some (iI (h' one), xw σ J') ∧ (∀ a k, a ≠ 202 → J' a k = J a k) ∧ HI g F (fun q => q = other) h' ∧ ∀ x y, lwS g F x → aj g F x y → h' x ≤ max (eE g (zR F) x) (h' y) := by
  have hg := hG.1
  have hSt := (gSt_b hg).1
  obtain ⟨h0, hh0⟩ : ∃ h0 : Nat → Int, h0 = fun y => if y = other then eE g (zR F) y else 100000 := ⟨_, rfl⟩
  have hI0 : HI g F (fun q => q = other) h0 := by
    rw [hh0]
    refine ⟨fun x hx1 hn => ?_, fun x hx1 => ?_, fun q hq => ?_⟩
    · show (if x = other then eE g (zR F) x else 100000) = 100000
      rw [if_neg (fun z => by rw [z, h2.2] at hn; cases hn)]
    · show (if x = other then eE g (zR F) x else 100000) = 100000 ∨ ((if x = other then eE g (zR F) x else 100000) ≤ 144 ∧ eE g (zR F) x ≤ (if x = other then eE g (zR F) x else 100000) ∧ ∃ q, q = other ∧ cn (Se g F (if x = other then eE g (zR F) x else 100000)) q x)
      by_cases z : x = other
      · rw [if_pos z]
        have := eE_b hg ho x
        exact .inr ⟨this.2, Int.le_refl _, other, rfl, by rw [z]; exact cn_r _ _⟩
      · rw [if_neg z]; exact .inl rfl
    · have hq' : q = other := hq
      show lwS g F q ∧ (if q = other then eE g (zR F) q else 100000) ≤ _
      rw [hq', if_pos rfl]; exact ⟨h2, Int.le_refl _⟩
  have key := xforI (f := f_X12_pass_b35 183 (nI one) (nI other)) (fun s a => ∃ J' : Nat → Nat → Int32, a = (nI s, xw σ J') ∧ (∀ a k, a ≠ 202 → J' a k = J a k) ∧ ∀ y, y < s → J' 202 y = iI (h0 y)) (gSt g) (Q := fun b => ∃ (J' : Nat → Nat → Int32) (h' : Nat → Int), b = (iI (h' one), xw σ J') ∧ (∀ a k, a ≠ 202 → J' a k = J a k) ∧ HI g F (fun q => q = other) h' ∧ ∀ x y, lwS g F x → aj g F x y → h' x ≤ max (eE g (zR F) x) (h' y)) (a0 := ((0 : Int32), xw σ J)) ⟨J, rfl, fun _ _ _ => rfl, fun y hy => absurd hy (Nat.not_lt_zero _)⟩ ?_ ?_
  · obtain ⟨b, e, J', h', rfl, rest⟩ := key
    exact ⟨J', h', e, rest⟩
  · rintro s a hs ⟨J', rfl, u, v⟩
    have hG' : GRD J' g := GRD_c (fun a k w => u a k (by unfold sGRD at w; omega)) hG
    have s24 : s < 1024 := by omega
    have qs : (nI s = nI other) = (s = other) := nn_eq (by omega) (by have := h2.1; omega)
    have fin : ∀ v0, v0 = iI (h0 s) → ∃ J2 : Nat → Nat → Int32, (nI (s + 1), xw σ (xup J' 202 s v0)) = (nI (s + 1), xw σ J2) ∧ (∀ a k, a ≠ 202 → J2 a k = J a k) ∧ ∀ y, y < s + 1 → J2 202 y = iI (h0 y) := by
      rintro v0 rfl
      refine ⟨_, rfl, fun a k ha => by rw [xup_at, if_neg (by omega)]; exact u a k ha, fun y hy => ?_⟩
      rw [xup_at]
      by_cases z : y = s
      · rw [if_pos ⟨rfl, z⟩, z]
      · rw [if_neg (by omega)]; exact v y (by omega)
    by_cases z : s = other
    · have hk := hK.1 s hs
      rw [z, h2.2, if_pos rfl, ← z] at hk
      have hk' : J' 196 s = iI (eE g (zR F) s) := by rw [u _ _ (by omega)]; exact hk
      refine ⟨_, ?_, fin (iI (eE g (zR F) s)) (by rw [hh0]; show _ = iI (if s = other then _ else _); rw [if_pos z])⟩
      simp only [f_X12_pass_b35]
      have qs1 : (nI s = nI other) = True := qs.trans (eq_true z)
      simp (disch := first | assumption | omega) only [Option.bind_some, Option.map_some, xw_gR, xw_gN, xw_al, xw_ck, xw_uI, xw_ur, xup_at, xur_at, if_true, if_false, reduceIte, and_true, true_and, and_false, false_and, not_true_eq_false, not_false_eq_true, Nat.reduceEqDiff, eq_self, Nat.reduceAdd, Nat.reduceMul, kC1, kG1, kP1, kR1_0, kR1_1, kR1_2, kR1_3, kR1_4, kR1_5, kR1_6, kR1_7, kR1_8, kR1_9, kR1_10, kR1_11, kR1_12, kR1_13, kC2, kG2, kP2, kR2_0, kR2_1, kC3, kG3, kP3, kR3_0, kR3_1, kR3_2, kR3_3, kL4, kA4, kS4, kL5, kA5, kS5, kL6, kA6, kS6, kL7, kA7, kS7, kC8, kG8, kP8, kR8_0, kR8_1, kL9, kA9, kS9, kL10, kA10, kS10, kC11, kG11, kP11, kR11_0, kR11_1, kR11_2, kR11_3, kL12, kA12, kS12, kL13, kA13, kS13, kL14, kA14, kS14, kL15, kA15, kS15, kC16, kG16, kP16, kR16_0, kR16_1, kL17, kA17, kS17, kL18, kA18, kS18, kC19, kG19, kP19, kR19_0, kL20, kL141, kL146, kA146, kS146, kL151, kA151, kS151, kL156, kA156, kS156, kC157, kG157, kP157, kR157_0, kR157_1, kL158, kA158, kS158, kL159, kA159, kS159, kC161, kG161, kP161, kR161_0, kR161_1, kL162, kA162, kS162, kL163, kA163, kS163, kC165, kG165, kP165, kR165_0, kR165_1, kR165_2, kR165_3, kL166, kA166, kS166, kL167, kA167, kS167, kL168, kA168, kS168, kL169, kA169, kS169, kC170, kG170, kP170, kR170_0, kR170_1, kR170_2, kL171, kA171, kS171, kL172, kA172, kS172, kL173, kA173, kS173, kC174, kG174, kP174, kR174_0, kR174_1, kR174_2, kR174_3, kR174_4, kL175, kA175, kS175, kL176, kA176, kS176, kL177, kA177, kS177, kL178, kA178, kS178, kL179, kC180, kG180, kP180, kL181, kL182, kA182, kS182, kC183, kG183, kP183, kR183_1, kR183_3, kR183_5, kR183_6, kR183_7, kR183_8, kR183_9, kR183_21, kR183_26, kR183_27, kR183_30, kR183_31, kR183_33, kR183_34, kR183_36, kR183_37, kR183_38, kR183_39, kR183_40, kR183_41, kR183_42, kR183_43, kR183_44, kL184, kA184, kS184, kL185, kA185, kS185, kL186, kA186, kS186, kL187, kA187, kS187, kL188, kA188, kS188, kL189, kL190, kL191, kA191, kS191, kL192, kA192, kS192, kL193, kA193, kS193, kL194, kA194, kS194, kL195, kA195, kS195, kL196, kA196, kS196, kL197, kA197, kS197, kL198, kA198, kS198, kL199, kA199, kS199, kL200, kA200, kS200, kL201, kL202, kA202, kS202, kL203, kA203, kS203, kL204, kA204, kS204, kL205, kL206, kA206, kS206, states12_ok hS hG', nn_le, show ¬ (gSt g ≤ s) by omega, qs1, hk']
      rw [nI_succ]
    · refine ⟨_, ?_, fin (100000 : Int32) (by rw [hh0]; show _ = iI (if s = other then _ else _); rw [if_neg z]; rfl)⟩
      simp only [f_X12_pass_b35]
      simp (disch := first | assumption | omega) only [Option.bind_some, Option.map_some, xw_gR, xw_gN, xw_al, xw_ck, xw_uI, xw_ur, xup_at, xur_at, if_true, if_false, reduceIte, and_true, true_and, and_false, false_and, not_true_eq_false, not_false_eq_true, Nat.reduceEqDiff, eq_self, Nat.reduceAdd, Nat.reduceMul, kC1, kG1, kP1, kR1_0, kR1_1, kR1_2, kR1_3, kR1_4, kR1_5, kR1_6, kR1_7, kR1_8, kR1_9, kR1_10, kR1_11, kR1_12, kR1_13, kC2, kG2, kP2, kR2_0, kR2_1, kC3, kG3, kP3, kR3_0, kR3_1, kR3_2, kR3_3, kL4, kA4, kS4, kL5, kA5, kS5, kL6, kA6, kS6, kL7, kA7, kS7, kC8, kG8, kP8, kR8_0, kR8_1, kL9, kA9, kS9, kL10, kA10, kS10, kC11, kG11, kP11, kR11_0, kR11_1, kR11_2, kR11_3, kL12, kA12, kS12, kL13, kA13, kS13, kL14, kA14, kS14, kL15, kA15, kS15, kC16, kG16, kP16, kR16_0, kR16_1, kL17, kA17, kS17, kL18, kA18, kS18, kC19, kG19, kP19, kR19_0, kL20, kL141, kL146, kA146, kS146, kL151, kA151, kS151, kL156, kA156, kS156, kC157, kG157, kP157, kR157_0, kR157_1, kL158, kA158, kS158, kL159, kA159, kS159, kC161, kG161, kP161, kR161_0, kR161_1, kL162, kA162, kS162, kL163, kA163, kS163, kC165, kG165, kP165, kR165_0, kR165_1, kR165_2, kR165_3, kL166, kA166, kS166, kL167, kA167, kS167, kL168, kA168, kS168, kL169, kA169, kS169, kC170, kG170, kP170, kR170_0, kR170_1, kR170_2, kL171, kA171, kS171, kL172, kA172, kS172, kL173, kA173, kS173, kC174, kG174, kP174, kR174_0, kR174_1, kR174_2, kR174_3, kR174_4, kL175, kA175, kS175, kL176, kA176, kS176, kL177, kA177, kS177, kL178, kA178, kS178, kL179, kC180, kG180, kP180, kL181, kL182, kA182, kS182, kC183, kG183, kP183, kR183_1, kR183_3, kR183_5, kR183_6, kR183_7, kR183_8, kR183_9, kR183_21, kR183_26, kR183_27, kR183_30, kR183_31, kR183_33, kR183_34, kR183_36, kR183_37, kR183_38, kR183_39, kR183_40, kR183_41, kR183_42, kR183_43, kR183_44, kL184, kA184, kS184, kL185, kA185, kS185, kL186, kA186, kS186, kL187, kA187, kS187, kL188, kA188, kS188, kL189, kL190, kL191, kA191, kS191, kL192, kA192, kS192, kL193, kA193, kS193, kL194, kA194, kS194, kL195, kA195, kS195, kL196, kA196, kS196, kL197, kA197, kS197, kL198, kA198, kS198, kL199, kA199, kS199, kL200, kA200, kS200, kL201, kL202, kA202, kS202, kL203, kA203, kS203, kL204, kA204, kS204, kL205, kL206, kA206, kS206, states12_ok hS hG', nn_le, show ¬ (gSt g ≤ s) by omega, qs, z]
      rw [nI_succ]
  · rintro a ⟨J', rfl, u, v⟩
    have hG' : GRD J' g := GRD_c (fun a k w => u a k (by unfold sGRD at w; omega)) hG
    have hK' : KNK J' g F := KNK_c (I := J) hg (fun a k w => u a k (by omega)) (fun _ _ => rfl) hK
    obtain ⟨J2, h', e, u2, v2, hI', fx⟩ := hills_ok (σ := σ) hS ho h10 ⟨hG', hK', v, hI0⟩
    have o24 : one < 1024 := by have := h1.1; omega
    refine ⟨(iI (h' one), xw σ J2), ?_, J2, h', rfl, fun a k ha => by rw [u2 a k ha]; exact u a k ha, hI', fx⟩
    simp only [f_X12_pass_b35]
    simp (disch := first | assumption | omega) only [Option.bind_some, Option.map_some, xw_gR, xw_gN, xw_al, xw_ck, xw_uI, xw_ur, xup_at, xur_at, if_true, if_false, reduceIte, and_true, true_and, and_false, false_and, not_true_eq_false, not_false_eq_true, Nat.reduceEqDiff, eq_self, Nat.reduceAdd, Nat.reduceMul, kC1, kG1, kP1, kR1_0, kR1_1, kR1_2, kR1_3, kR1_4, kR1_5, kR1_6, kR1_7, kR1_8, kR1_9, kR1_10, kR1_11, kR1_12, kR1_13, kC2, kG2, kP2, kR2_0, kR2_1, kC3, kG3, kP3, kR3_0, kR3_1, kR3_2, kR3_3, kL4, kA4, kS4, kL5, kA5, kS5, kL6, kA6, kS6, kL7, kA7, kS7, kC8, kG8, kP8, kR8_0, kR8_1, kL9, kA9, kS9, kL10, kA10, kS10, kC11, kG11, kP11, kR11_0, kR11_1, kR11_2, kR11_3, kL12, kA12, kS12, kL13, kA13, kS13, kL14, kA14, kS14, kL15, kA15, kS15, kC16, kG16, kP16, kR16_0, kR16_1, kL17, kA17, kS17, kL18, kA18, kS18, kC19, kG19, kP19, kR19_0, kL20, kL141, kL146, kA146, kS146, kL151, kA151, kS151, kL156, kA156, kS156, kC157, kG157, kP157, kR157_0, kR157_1, kL158, kA158, kS158, kL159, kA159, kS159, kC161, kG161, kP161, kR161_0, kR161_1, kL162, kA162, kS162, kL163, kA163, kS163, kC165, kG165, kP165, kR165_0, kR165_1, kR165_2, kR165_3, kL166, kA166, kS166, kL167, kA167, kS167, kL168, kA168, kS168, kL169, kA169, kS169, kC170, kG170, kP170, kR170_0, kR170_1, kR170_2, kL171, kA171, kS171, kL172, kA172, kS172, kL173, kA173, kS173, kC174, kG174, kP174, kR174_0, kR174_1, kR174_2, kR174_3, kR174_4, kL175, kA175, kS175, kL176, kA176, kS176, kL177, kA177, kS177, kL178, kA178, kS178, kL179, kC180, kG180, kP180, kL181, kL182, kA182, kS182, kC183, kG183, kP183, kR183_1, kR183_3, kR183_5, kR183_6, kR183_7, kR183_8, kR183_9, kR183_21, kR183_26, kR183_27, kR183_30, kR183_31, kR183_33, kR183_34, kR183_36, kR183_37, kR183_38, kR183_39, kR183_40, kR183_41, kR183_42, kR183_43, kR183_44, kL184, kA184, kS184, kL185, kA185, kS185, kL186, kA186, kS186, kL187, kA187, kS187, kL188, kA188, kS188, kL189, kL190, kL191, kA191, kS191, kL192, kA192, kS192, kL193, kA193, kS193, kL194, kA194, kS194, kL195, kA195, kS195, kL196, kA196, kS196, kL197, kA197, kS197, kL198, kA198, kS198, kL199, kA199, kS199, kL200, kA200, kS200, kL201, kL202, kA202, kS202, kL203, kA203, kS203, kL204, kA204, kS204, kL205, kL206, kA206, kS206, states12_ok hS hG', nn_le, Nat.le_refl, e, v2 one h1.1]
theorem hill12_ok (hS : Shp σ) (hG : GRD J g) (ho : RO g F) (hK : KNK J g F) (h10 : gSt g ≤ 1024) {one : Nat} {e0 : Int} (h1 : lwS g F one) (he0 : J 198 0 = iI e0) (hb0 : -144 ≤ e0 ∧ e0 ≤ 144) :
    ∃ (J' : Nat → Nat → Int32) (h' : Nat → Int), xloop (f_X12_hill_b27 183 (nI one)) ((0 : Int32), xw σ J) = some (iI (h' one), xw σ J') ∧ (∀ a k, a ≠ 202 → J' a k = J a k) ∧ HI g F (fun q => lwS g F q ∧ eE g (zR F) q = e0) h' ∧ ∀ x y, lwS g F x → aj g F x y → h' x ≤ max (eE g (zR F) x) (h' y) := by
  have hg := hG.1
  have hSt := (gSt_b hg).1
  obtain ⟨h0, hh0⟩ : ∃ h0 : Nat → Int, h0 = fun y => if lW g F y = true ∧ eE g (zR F) y = e0 then e0 else 100000 := ⟨_, rfl⟩
  have hI0 : HI g F (fun q => lwS g F q ∧ eE g (zR F) q = e0) h0 := by
    rw [hh0]
    refine ⟨fun x hx1 hn => ?_, fun x hx1 => ?_, fun q hq => ⟨hq.1, ?_⟩⟩
    · show (if lW g F x = true ∧ eE g (zR F) x = e0 then e0 else 100000) = 100000
      rw [if_neg (fun z => by rw [hn] at z; cases z.1)]
    · show (if lW g F x = true ∧ eE g (zR F) x = e0 then e0 else 100000) = 100000 ∨ ((if lW g F x = true ∧ eE g (zR F) x = e0 then e0 else 100000) ≤ 144 ∧ eE g (zR F) x ≤ (if lW g F x = true ∧ eE g (zR F) x = e0 then e0 else 100000) ∧ ∃ q, (lwS g F q ∧ eE g (zR F) q = e0) ∧ cn (Se g F (if lW g F x = true ∧ eE g (zR F) x = e0 then e0 else 100000)) q x)
      by_cases z : lW g F x = true ∧ eE g (zR F) x = e0
      · rw [if_pos z]
        exact .inr ⟨hb0.2, by omega, x, ⟨⟨hx1, z.1⟩, z.2⟩, cn_r _ _⟩
      · rw [if_neg z]; exact .inl rfl
    · show (if lW g F q = true ∧ eE g (zR F) q = e0 then e0 else 100000) ≤ _
      rw [if_pos ⟨hq.1.2, hq.2⟩]; omega
  have key := xforI (f := f_X12_hill_b27 183 (nI one)) (fun s a => ∃ J' : Nat → Nat → Int32, a = (nI s, xw σ J') ∧ (∀ a k, a ≠ 202 → J' a k = J a k) ∧ ∀ y, y < s → J' 202 y = iI (h0 y)) (gSt g) (Q := fun b => ∃ (J' : Nat → Nat → Int32) (h' : Nat → Int), b = (iI (h' one), xw σ J') ∧ (∀ a k, a ≠ 202 → J' a k = J a k) ∧ HI g F (fun q => lwS g F q ∧ eE g (zR F) q = e0) h' ∧ ∀ x y, lwS g F x → aj g F x y → h' x ≤ max (eE g (zR F) x) (h' y)) (a0 := ((0 : Int32), xw σ J)) ⟨J, rfl, fun _ _ _ => rfl, fun y hy => absurd hy (Nat.not_lt_zero _)⟩ ?_ ?_
  · obtain ⟨b, e, J', h', rfl, rest⟩ := key
    exact ⟨J', h', e, rest⟩
  · rintro s a hs ⟨J', rfl, u, v⟩
    have hG' : GRD J' g := GRD_c (fun a k w => u a k (by unfold sGRD at w; omega)) hG
    have s24 : s < 1024 := by omega
    have z0 : xaI (xw σ J') 20 198 (0 : Int32) = some (iI e0) := by
      have := kA198 (σ := σ) (I := J') hS (i := 0) (by decide)
      rw [u _ _ (by omega), he0] at this
      exact this
    have hk : J' 196 s = if lW g F s then iI (eE g (zR F) s) else nI 100000 := by rw [u _ _ (by omega)]; exact hK.1 s hs
    have hbs := eE_b hg ho s
    have qs : ((if lW g F s then iI (eE g (zR F) s) else nI 100000) = iI e0) = (lW g F s = true ∧ eE g (zR F) s = e0) := by
      cases hl : lW g F s with
      | true =>
        rw [if_pos rfl, iI_eq (by omega) (by omega) (by omega) (by omega)]
        simp
      | false =>
        rw [if_neg (by decide), iI_n, iI_eq (by omega) (by omega) (by omega) (by omega)]
        apply propext
        constructor
        · intro z; omega
        · intro z; cases z.1
    have fin : ∀ v0, v0 = iI (h0 s) → ∃ J2 : Nat → Nat → Int32, (nI (s + 1), xw σ (xup J' 202 s v0)) = (nI (s + 1), xw σ J2) ∧ (∀ a k, a ≠ 202 → J2 a k = J a k) ∧ ∀ y, y < s + 1 → J2 202 y = iI (h0 y) := by
      rintro v0 rfl
      refine ⟨_, rfl, fun a k ha => by rw [xup_at, if_neg (by omega)]; exact u a k ha, fun y hy => ?_⟩
      rw [xup_at]
      by_cases z : y = s
      · rw [if_pos ⟨rfl, z⟩, z]
      · rw [if_neg (by omega)]; exact v y (by omega)
    by_cases z : lW g F s = true ∧ eE g (zR F) s = e0
    · refine ⟨_, ?_, fin (iI e0) (by rw [hh0]; show _ = iI (if lW g F s = true ∧ eE g (zR F) s = e0 then _ else _); rw [if_pos z])⟩
      simp only [f_X12_hill_b27]
      simp (disch := first | assumption | omega) only [Option.bind_some, Option.map_some, xw_gR, xw_gN, xw_al, xw_ck, xw_uI, xw_ur, xup_at, xur_at, if_true, if_false, reduceIte, and_true, true_and, and_false, false_and, not_true_eq_false, not_false_eq_true, Nat.reduceEqDiff, eq_self, Nat.reduceAdd, Nat.reduceMul, kC1, kG1, kP1, kR1_0, kR1_1, kR1_2, kR1_3, kR1_4, kR1_5, kR1_6, kR1_7, kR1_8, kR1_9, kR1_10, kR1_11, kR1_12, kR1_13, kC2, kG2, kP2, kR2_0, kR2_1, kC3, kG3, kP3, kR3_0, kR3_1, kR3_2, kR3_3, kL4, kA4, kS4, kL5, kA5, kS5, kL6, kA6, kS6, kL7, kA7, kS7, kC8, kG8, kP8, kR8_0, kR8_1, kL9, kA9, kS9, kL10, kA10, kS10, kC11, kG11, kP11, kR11_0, kR11_1, kR11_2, kR11_3, kL12, kA12, kS12, kL13, kA13, kS13, kL14, kA14, kS14, kL15, kA15, kS15, kC16, kG16, kP16, kR16_0, kR16_1, kL17, kA17, kS17, kL18, kA18, kS18, kC19, kG19, kP19, kR19_0, kL20, kL141, kL146, kA146, kS146, kL151, kA151, kS151, kL156, kA156, kS156, kC157, kG157, kP157, kR157_0, kR157_1, kL158, kA158, kS158, kL159, kA159, kS159, kC161, kG161, kP161, kR161_0, kR161_1, kL162, kA162, kS162, kL163, kA163, kS163, kC165, kG165, kP165, kR165_0, kR165_1, kR165_2, kR165_3, kL166, kA166, kS166, kL167, kA167, kS167, kL168, kA168, kS168, kL169, kA169, kS169, kC170, kG170, kP170, kR170_0, kR170_1, kR170_2, kL171, kA171, kS171, kL172, kA172, kS172, kL173, kA173, kS173, kC174, kG174, kP174, kR174_0, kR174_1, kR174_2, kR174_3, kR174_4, kL175, kA175, kS175, kL176, kA176, kS176, kL177, kA177, kS177, kL178, kA178, kS178, kL179, kC180, kG180, kP180, kL181, kL182, kA182, kS182, kC183, kG183, kP183, kR183_1, kR183_3, kR183_5, kR183_6, kR183_7, kR183_8, kR183_9, kR183_21, kR183_26, kR183_27, kR183_30, kR183_31, kR183_33, kR183_34, kR183_36, kR183_37, kR183_38, kR183_39, kR183_40, kR183_41, kR183_42, kR183_43, kR183_44, kL184, kA184, kS184, kL185, kA185, kS185, kL186, kA186, kS186, kL187, kA187, kS187, kL188, kA188, kS188, kL189, kL190, kL191, kA191, kS191, kL192, kA192, kS192, kL193, kA193, kS193, kL194, kA194, kS194, kL195, kA195, kS195, kL196, kA196, kS196, kL197, kA197, kS197, kL198, kA198, kS198, kL199, kA199, kS199, kL200, kA200, kS200, kL201, kL202, kA202, kS202, kL203, kA203, kS203, kL204, kA204, kS204, kL205, kL206, kA206, kS206, states12_ok hS hG', nn_le, show ¬ (gSt g ≤ s) by omega, hk, z0]
      rw [if_pos (qs.mpr z)]
      rw [nI_succ]
    · refine ⟨_, ?_, fin (100000 : Int32) (by rw [hh0]; show _ = iI (if lW g F s = true ∧ eE g (zR F) s = e0 then _ else _); rw [if_neg z]; rfl)⟩
      simp only [f_X12_hill_b27]
      simp (disch := first | assumption | omega) only [Option.bind_some, Option.map_some, xw_gR, xw_gN, xw_al, xw_ck, xw_uI, xw_ur, xup_at, xur_at, if_true, if_false, reduceIte, and_true, true_and, and_false, false_and, not_true_eq_false, not_false_eq_true, Nat.reduceEqDiff, eq_self, Nat.reduceAdd, Nat.reduceMul, kC1, kG1, kP1, kR1_0, kR1_1, kR1_2, kR1_3, kR1_4, kR1_5, kR1_6, kR1_7, kR1_8, kR1_9, kR1_10, kR1_11, kR1_12, kR1_13, kC2, kG2, kP2, kR2_0, kR2_1, kC3, kG3, kP3, kR3_0, kR3_1, kR3_2, kR3_3, kL4, kA4, kS4, kL5, kA5, kS5, kL6, kA6, kS6, kL7, kA7, kS7, kC8, kG8, kP8, kR8_0, kR8_1, kL9, kA9, kS9, kL10, kA10, kS10, kC11, kG11, kP11, kR11_0, kR11_1, kR11_2, kR11_3, kL12, kA12, kS12, kL13, kA13, kS13, kL14, kA14, kS14, kL15, kA15, kS15, kC16, kG16, kP16, kR16_0, kR16_1, kL17, kA17, kS17, kL18, kA18, kS18, kC19, kG19, kP19, kR19_0, kL20, kL141, kL146, kA146, kS146, kL151, kA151, kS151, kL156, kA156, kS156, kC157, kG157, kP157, kR157_0, kR157_1, kL158, kA158, kS158, kL159, kA159, kS159, kC161, kG161, kP161, kR161_0, kR161_1, kL162, kA162, kS162, kL163, kA163, kS163, kC165, kG165, kP165, kR165_0, kR165_1, kR165_2, kR165_3, kL166, kA166, kS166, kL167, kA167, kS167, kL168, kA168, kS168, kL169, kA169, kS169, kC170, kG170, kP170, kR170_0, kR170_1, kR170_2, kL171, kA171, kS171, kL172, kA172, kS172, kL173, kA173, kS173, kC174, kG174, kP174, kR174_0, kR174_1, kR174_2, kR174_3, kR174_4, kL175, kA175, kS175, kL176, kA176, kS176, kL177, kA177, kS177, kL178, kA178, kS178, kL179, kC180, kG180, kP180, kL181, kL182, kA182, kS182, kC183, kG183, kP183, kR183_1, kR183_3, kR183_5, kR183_6, kR183_7, kR183_8, kR183_9, kR183_21, kR183_26, kR183_27, kR183_30, kR183_31, kR183_33, kR183_34, kR183_36, kR183_37, kR183_38, kR183_39, kR183_40, kR183_41, kR183_42, kR183_43, kR183_44, kL184, kA184, kS184, kL185, kA185, kS185, kL186, kA186, kS186, kL187, kA187, kS187, kL188, kA188, kS188, kL189, kL190, kL191, kA191, kS191, kL192, kA192, kS192, kL193, kA193, kS193, kL194, kA194, kS194, kL195, kA195, kS195, kL196, kA196, kS196, kL197, kA197, kS197, kL198, kA198, kS198, kL199, kA199, kS199, kL200, kA200, kS200, kL201, kL202, kA202, kS202, kL203, kA203, kS203, kL204, kA204, kS204, kL205, kL206, kA206, kS206, states12_ok hS hG', nn_le, show ¬ (gSt g ≤ s) by omega, hk, z0]
      rw [if_neg (fun w => z (qs.mp w))]
      rw [nI_succ]
  · rintro a ⟨J', rfl, u, v⟩
    have hG' : GRD J' g := GRD_c (fun a k w => u a k (by unfold sGRD at w; omega)) hG
    have hK' : KNK J' g F := KNK_c (I := J) hg (fun a k w => u a k (by omega)) (fun _ _ => rfl) hK
    obtain ⟨J2, h', e, u2, v2, hI', fx⟩ := hills_ok (σ := σ) hS ho h10 ⟨hG', hK', v, hI0⟩
    have o24 : one < 1024 := by have := h1.1; omega
    refine ⟨(iI (h' one), xw σ J2), ?_, J2, h', rfl, fun a k ha => by rw [u2 a k ha]; exact u a k ha, hI', fx⟩
    simp only [f_X12_hill_b27]
    simp (disch := first | assumption | omega) only [Option.bind_some, Option.map_some, xw_gR, xw_gN, xw_al, xw_ck, xw_uI, xw_ur, xup_at, xur_at, if_true, if_false, reduceIte, and_true, true_and, and_false, false_and, not_true_eq_false, not_false_eq_true, Nat.reduceEqDiff, eq_self, Nat.reduceAdd, Nat.reduceMul, kC1, kG1, kP1, kR1_0, kR1_1, kR1_2, kR1_3, kR1_4, kR1_5, kR1_6, kR1_7, kR1_8, kR1_9, kR1_10, kR1_11, kR1_12, kR1_13, kC2, kG2, kP2, kR2_0, kR2_1, kC3, kG3, kP3, kR3_0, kR3_1, kR3_2, kR3_3, kL4, kA4, kS4, kL5, kA5, kS5, kL6, kA6, kS6, kL7, kA7, kS7, kC8, kG8, kP8, kR8_0, kR8_1, kL9, kA9, kS9, kL10, kA10, kS10, kC11, kG11, kP11, kR11_0, kR11_1, kR11_2, kR11_3, kL12, kA12, kS12, kL13, kA13, kS13, kL14, kA14, kS14, kL15, kA15, kS15, kC16, kG16, kP16, kR16_0, kR16_1, kL17, kA17, kS17, kL18, kA18, kS18, kC19, kG19, kP19, kR19_0, kL20, kL141, kL146, kA146, kS146, kL151, kA151, kS151, kL156, kA156, kS156, kC157, kG157, kP157, kR157_0, kR157_1, kL158, kA158, kS158, kL159, kA159, kS159, kC161, kG161, kP161, kR161_0, kR161_1, kL162, kA162, kS162, kL163, kA163, kS163, kC165, kG165, kP165, kR165_0, kR165_1, kR165_2, kR165_3, kL166, kA166, kS166, kL167, kA167, kS167, kL168, kA168, kS168, kL169, kA169, kS169, kC170, kG170, kP170, kR170_0, kR170_1, kR170_2, kL171, kA171, kS171, kL172, kA172, kS172, kL173, kA173, kS173, kC174, kG174, kP174, kR174_0, kR174_1, kR174_2, kR174_3, kR174_4, kL175, kA175, kS175, kL176, kA176, kS176, kL177, kA177, kS177, kL178, kA178, kS178, kL179, kC180, kG180, kP180, kL181, kL182, kA182, kS182, kC183, kG183, kP183, kR183_1, kR183_3, kR183_5, kR183_6, kR183_7, kR183_8, kR183_9, kR183_21, kR183_26, kR183_27, kR183_30, kR183_31, kR183_33, kR183_34, kR183_36, kR183_37, kR183_38, kR183_39, kR183_40, kR183_41, kR183_42, kR183_43, kR183_44, kL184, kA184, kS184, kL185, kA185, kS185, kL186, kA186, kS186, kL187, kA187, kS187, kL188, kA188, kS188, kL189, kL190, kL191, kA191, kS191, kL192, kA192, kS192, kL193, kA193, kS193, kL194, kA194, kS194, kL195, kA195, kS195, kL196, kA196, kS196, kL197, kA197, kS197, kL198, kA198, kS198, kL199, kA199, kS199, kL200, kA200, kS200, kL201, kL202, kA202, kS202, kL203, kA203, kS203, kL204, kA204, kS204, kL205, kL206, kA206, kS206, states12_ok hS hG', nn_le, Nat.le_refl, e, v2 one h1.1]
end PASS
/-- the terrain asked, then the model's notes at hand -/
theorem terr_both {n : Nat} {τ : XS} {g : GD} {gT gP : GH} {st : Nat} {F : Nat → Int32} {J' : Nat → Nat → Int32} (H1 : IV n τ g gT gP st) (r1 : xI τ 191 = F) (u : ∀ a k, ¬ (176 ≤ a ∧ a ≤ 182) → ¬ (a = 174 ∧ k = 9) → J' a k = xI τ a k) : IV n (xw τ J') g gT gP st ∧ GRD J' g ∧ J' 191 = F ∧ ∃ Q, f_X12_knows (xw τ J') 183 = some (xw τ Q) ∧ IV n (xw τ Q) g gT gP st ∧ GRD Q g ∧ KNK Q g F ∧ Q 191 = F := by
  have H3 : IV n (xw τ J') g gT gP st := H1.terr u
  obtain ⟨Q, e4, H4, K4, u4⟩ := knows_ok H3
  have r3 : J' 191 = F := by rw [← r1]; funext k; exact u 191 k (by omega) (by omega)
  have r4 : Q 191 = F := by rw [← r3]; funext k; exact u4 191 k (by omega) (by omega)
  rw [r4] at K4
  exact ⟨H3, H3.grd, r3, Q, e4, H4, H4.grd, K4, r4⟩
theorem IV.hills {n : Nat} {σ : XS} {g : GD} {gT gP : GH} {st : Nat} (H : IV n σ g gT gP st) {J' : Nat → Nat → Int32} (u : ∀ a k, ¬ (202 ≤ a ∧ a ≤ 206) → J' a k = xI σ a k) : IV n (xw σ J') g gT gP st :=
  H.model (fun a k h => by
    by_cases z : 202 ≤ a ∧ a ≤ 206
    · omega
    · exact u a k z) (KNW_c H.grd.1 (fun a k q => u a k (by unfold sKNW at q; omega)) H.knw)
theorem op_pass : Op_pass INV := by
  intro n σ hn ⟨g, gT, gP, st, H⟩ x y
  have hS := H.shp
  have hG := H.grd
  have hg := hG.1
  have hSt := (gSt_b hg).1
  have sm := isSmall_ok (σ := σ) (I := xI σ) hS hG
  have l1 := isLawful11_ok (σ := σ) (I := xI σ) hS hG H.now.1
  have l2 := isLawful12_ok (σ := σ) (I := xI σ) hS hG H.now.2.1
  have s2 := sites_ok (σ := σ) (I := xI σ) hS hG
  have sm2 := small12 hS hG
  by_cases h10 : gSz g ≤ 10 ∧ isB g (xI σ 191) x = true ∧ isB g (xI σ 191) y = true
  · obtain ⟨h10, hb, hb'⟩ := h10
    rw [if_pos h10] at sm
    have l1x := l1 x
    have l1y := l1 y
    rw [hb, if_pos rfl] at l1x
    rw [hb', if_pos rfl] at l1y
    obtain ⟨b, hb1, rfl, hbl⟩ := isB_t hb
    obtain ⟨d, hd1, rfl, hdl⟩ := isB_t hb'
    obtain ⟨τ, c, m, M, o, e1, H1, hT, hO, r1⟩ := terr_ready (by omega) H h10
    obtain ⟨F, hF⟩ : ∃ F, F = xI σ 191 := ⟨_, rfl⟩
    rw [← hF] at hT hO hbl hdl r1
    obtain ⟨i, J', hi, e3, m1, m2, u3⟩ := meetP_ok hT hO (one := b) (other := d) ⟨hb1, hbl⟩ ⟨hd1, hdl⟩
    obtain ⟨H3, hG3, r3, Q, e4, H4, hG4, K4, r4⟩ := terr_both H1 r1 u3
    have hS3 : Shp τ := H1.shp
    have ho := hT.2.2.1
    obtain ⟨J5, h', e5, u5, hI5, fx5⟩ := pass12_ok (σ := τ) (J := Q) hS3 hG4 ho K4 hT.st (one := b) (other := d) ⟨hb1, hbl⟩ ⟨hd1, hdl⟩
    have heq := meet_eq hg ho hO hi hI5 fx5 ⟨hb1, hbl⟩ ⟨hd1, hdl⟩ (fun q _ => Iff.rfl) rfl (fun q hq => by rw [show q = d from hq]; exact Int.le_refl _) m1 m2
    rw [heq] at e5
    have l3 := fun s => isLawful12_ok (σ := τ) (I := J') hS3 hG3 (show RO g (J' 191) from H3.now.2.1) (nI s)
    have l3b := l3 b
    have l3d := l3 d
    rw [r3, isB_n hg hb1, hbl, if_pos rfl] at l3b
    rw [r3, isB_n hg hd1, hdl, if_pos rfl] at l3d
    refine ⟨iI (eE g (zR F) (o i)), xw τ J', xw τ J5, ?_, ?_, INV_i (IV.nop (H4.hills (fun a k h => u5 a k (by omega))))⟩
    · unfold f_X11_pass
      show ((xck σ 1 11).bind fun _ => (f_X11_isSmall (xw σ (xI σ)) 1).bind _) = _
      rw [xck_ok (sT1 hS), Option.bind_some, sm, Option.bind_some, if_neg (by decide), Option.bind_some]
      show ((f_X11_isLawful (xw σ (xI σ)) 1 (nI b)).bind _) = _
      rw [l1x, Option.bind_some, if_neg (by decide), Option.bind_some]
      show ((f_X11_isLawful (xw σ (xI σ)) 1 (nI d)).bind _) = _
      rw [l1y, Option.bind_some, if_neg (by decide), Option.bind_some, e1, Option.bind_some]
      dsimp only
      rw [xnz_ok (by decide), Option.bind_some]
      unfold f_X11_pass_j30
      rw [xck_ok (sT174 hS3), Option.bind_some]
      show ((f_X9_meetingEnergy (xw τ (xI τ)) 174 (nI b) (nI d) 0).bind _) = _
      rw [e3, Option.bind_some]
    · unfold f_X12_pass
      simp (disch := first | assumption | omega) only [Option.bind_some, Option.map_some, xw_gR, xw_gN, xw_al, xw_ck, xw_uI, xw_ur, xup_at, xur_at, if_true, if_false, reduceIte, and_true, true_and, and_false, false_and, not_true_eq_false, not_false_eq_true, Nat.reduceEqDiff, eq_self, Nat.reduceAdd, Nat.reduceMul, kC1, kG1, kP1, kR1_0, kR1_1, kR1_2, kR1_3, kR1_4, kR1_5, kR1_6, kR1_7, kR1_8, kR1_9, kR1_10, kR1_11, kR1_12, kR1_13, kC2, kG2, kP2, kR2_0, kR2_1, kC3, kG3, kP3, kR3_0, kR3_1, kR3_2, kR3_3, kL4, kA4, kS4, kL5, kA5, kS5, kL6, kA6, kS6, kL7, kA7, kS7, kC8, kG8, kP8, kR8_0, kR8_1, kL9, kA9, kS9, kL10, kA10, kS10, kC11, kG11, kP11, kR11_0, kR11_1, kR11_2, kR11_3, kL12, kA12, kS12, kL13, kA13, kS13, kL14, kA14, kS14, kL15, kA15, kS15, kC16, kG16, kP16, kR16_0, kR16_1, kL17, kA17, kS17, kL18, kA18, kS18, kC19, kG19, kP19, kR19_0, kL20, kL141, kL146, kA146, kS146, kL151, kA151, kS151, kL156, kA156, kS156, kC157, kG157, kP157, kR157_0, kR157_1, kL158, kA158, kS158, kL159, kA159, kS159, kC161, kG161, kP161, kR161_0, kR161_1, kL162, kA162, kS162, kL163, kA163, kS163, kC165, kG165, kP165, kR165_0, kR165_1, kR165_2, kR165_3, kL166, kA166, kS166, kL167, kA167, kS167, kL168, kA168, kS168, kL169, kA169, kS169, kC170, kG170, kP170, kR170_0, kR170_1, kR170_2, kL171, kA171, kS171, kL172, kA172, kS172, kL173, kA173, kS173, kC174, kG174, kP174, kR174_0, kR174_1, kR174_2, kR174_3, kR174_4, kL175, kA175, kS175, kL176, kA176, kS176, kL177, kA177, kS177, kL178, kA178, kS178, kL179, kC180, kG180, kP180, kL181, kL182, kA182, kS182, kC183, kG183, kP183, kR183_1, kR183_3, kR183_5, kR183_6, kR183_7, kR183_8, kR183_9, kR183_21, kR183_26, kR183_27, kR183_30, kR183_31, kR183_33, kR183_34, kR183_36, kR183_37, kR183_38, kR183_39, kR183_40, kR183_41, kR183_42, kR183_43, kR183_44, kL184, kA184, kS184, kL185, kA185, kS185, kL186, kA186, kS186, kL187, kA187, kS187, kL188, kA188, kS188, kL189, kL190, kL191, kA191, kS191, kL192, kA192, kS192, kL193, kA193, kS193, kL194, kA194, kS194, kL195, kA195, kS195, kL196, kA196, kS196, kL197, kA197, kS197, kL198, kA198, kS198, kL199, kA199, kS199, kL200, kA200, kS200, kL201, kL202, kA202, kS202, kL203, kA203, kS203, kL204, kA204, kS204, kL205, kL206, kA206, kS206, l3b, l3d, one0, sites_ok hS3 hG3, sm2, h10, e4]
      exact e5
  · have A : f_X11_pass σ 1 x y = some (-100000, σ) := by
      show f_X11_pass (xw σ (xI σ)) 1 x y = _
      unfold f_X11_pass
      simp (disch := first | assumption | omega) only [Option.bind_some, Option.map_some, xw_gR, xw_gN, xw_al, xw_ck, xw_uI, xw_ur, xup_at, xur_at, if_true, if_false, reduceIte, and_true, true_and, and_false, false_and, not_true_eq_false, not_false_eq_true, Nat.reduceEqDiff, eq_self, Nat.reduceAdd, Nat.reduceMul, kC1, kG1, kP1, kR1_0, kR1_1, kR1_2, kR1_3, kR1_4, kR1_5, kR1_6, kR1_7, kR1_8, kR1_9, kR1_10, kR1_11, kR1_12, kR1_13, kC2, kG2, kP2, kR2_0, kR2_1, kC3, kG3, kP3, kR3_0, kR3_1, kR3_2, kR3_3, kL4, kA4, kS4, kL5, kA5, kS5, kL6, kA6, kS6, kL7, kA7, kS7, kC8, kG8, kP8, kR8_0, kR8_1, kL9, kA9, kS9, kL10, kA10, kS10, kC11, kG11, kP11, kR11_0, kR11_1, kR11_2, kR11_3, kL12, kA12, kS12, kL13, kA13, kS13, kL14, kA14, kS14, kL15, kA15, kS15, kC16, kG16, kP16, kR16_0, kR16_1, kL17, kA17, kS17, kL18, kA18, kS18, kC19, kG19, kP19, kR19_0, kL20, kL141, kL146, kA146, kS146, kL151, kA151, kS151, kL156, kA156, kS156, kC157, kG157, kP157, kR157_0, kR157_1, kL158, kA158, kS158, kL159, kA159, kS159, kC161, kG161, kP161, kR161_0, kR161_1, kL162, kA162, kS162, kL163, kA163, kS163, kC165, kG165, kP165, kR165_0, kR165_1, kR165_2, kR165_3, kL166, kA166, kS166, kL167, kA167, kS167, kL168, kA168, kS168, kL169, kA169, kS169, kC170, kG170, kP170, kR170_0, kR170_1, kR170_2, kL171, kA171, kS171, kL172, kA172, kS172, kL173, kA173, kS173, kC174, kG174, kP174, kR174_0, kR174_1, kR174_2, kR174_3, kR174_4, kL175, kA175, kS175, kL176, kA176, kS176, kL177, kA177, kS177, kL178, kA178, kS178, kL179, kC180, kG180, kP180, kL181, kL182, kA182, kS182, kC183, kG183, kP183, kR183_1, kR183_3, kR183_5, kR183_6, kR183_7, kR183_8, kR183_9, kR183_21, kR183_26, kR183_27, kR183_30, kR183_31, kR183_33, kR183_34, kR183_36, kR183_37, kR183_38, kR183_39, kR183_40, kR183_41, kR183_42, kR183_43, kR183_44, kL184, kA184, kS184, kL185, kA185, kS185, kL186, kA186, kS186, kL187, kA187, kS187, kL188, kA188, kS188, kL189, kL190, kL191, kA191, kS191, kL192, kA192, kS192, kL193, kA193, kS193, kL194, kA194, kS194, kL195, kA195, kS195, kL196, kA196, kS196, kL197, kA197, kS197, kL198, kA198, kS198, kL199, kA199, kS199, kL200, kA200, kS200, kL201, kL202, kA202, kS202, kL203, kA203, kS203, kL204, kA204, kS204, kL205, kL206, kA206, kS206, sm, l1]
      by_cases q1 : gSz g ≤ 10
      · by_cases q2 : isB g (xI σ 191) x = true
        · by_cases q3 : isB g (xI σ 191) y = true
          · exact absurd ⟨q1, q2, q3⟩ h10
          · simp only [q1, q2, q3, if_true, if_false, one0, Bool.false_eq_true]; rfl
        · simp only [q1, q2, if_true, if_false, one0, Bool.false_eq_true]; rfl
      · simp only [q1, if_false, if_true]; rfl
    have B : f_X12_pass σ 183 x y = some (-100000, σ) := by
      show f_X12_pass (xw σ (xI σ)) 183 x y = _
      unfold f_X12_pass
      simp (disch := first | assumption | omega) only [Option.bind_some, Option.map_some, xw_gR, xw_gN, xw_al, xw_ck, xw_uI, xw_ur, xup_at, xur_at, if_true, if_false, reduceIte, and_true, true_and, and_false, false_and, not_true_eq_false, not_false_eq_true, Nat.reduceEqDiff, eq_self, Nat.reduceAdd, Nat.reduceMul, kC1, kG1, kP1, kR1_0, kR1_1, kR1_2, kR1_3, kR1_4, kR1_5, kR1_6, kR1_7, kR1_8, kR1_9, kR1_10, kR1_11, kR1_12, kR1_13, kC2, kG2, kP2, kR2_0, kR2_1, kC3, kG3, kP3, kR3_0, kR3_1, kR3_2, kR3_3, kL4, kA4, kS4, kL5, kA5, kS5, kL6, kA6, kS6, kL7, kA7, kS7, kC8, kG8, kP8, kR8_0, kR8_1, kL9, kA9, kS9, kL10, kA10, kS10, kC11, kG11, kP11, kR11_0, kR11_1, kR11_2, kR11_3, kL12, kA12, kS12, kL13, kA13, kS13, kL14, kA14, kS14, kL15, kA15, kS15, kC16, kG16, kP16, kR16_0, kR16_1, kL17, kA17, kS17, kL18, kA18, kS18, kC19, kG19, kP19, kR19_0, kL20, kL141, kL146, kA146, kS146, kL151, kA151, kS151, kL156, kA156, kS156, kC157, kG157, kP157, kR157_0, kR157_1, kL158, kA158, kS158, kL159, kA159, kS159, kC161, kG161, kP161, kR161_0, kR161_1, kL162, kA162, kS162, kL163, kA163, kS163, kC165, kG165, kP165, kR165_0, kR165_1, kR165_2, kR165_3, kL166, kA166, kS166, kL167, kA167, kS167, kL168, kA168, kS168, kL169, kA169, kS169, kC170, kG170, kP170, kR170_0, kR170_1, kR170_2, kL171, kA171, kS171, kL172, kA172, kS172, kL173, kA173, kS173, kC174, kG174, kP174, kR174_0, kR174_1, kR174_2, kR174_3, kR174_4, kL175, kA175, kS175, kL176, kA176, kS176, kL177, kA177, kS177, kL178, kA178, kS178, kL179, kC180, kG180, kP180, kL181, kL182, kA182, kS182, kC183, kG183, kP183, kR183_1, kR183_3, kR183_5, kR183_6, kR183_7, kR183_8, kR183_9, kR183_21, kR183_26, kR183_27, kR183_30, kR183_31, kR183_33, kR183_34, kR183_36, kR183_37, kR183_38, kR183_39, kR183_40, kR183_41, kR183_42, kR183_43, kR183_44, kL184, kA184, kS184, kL185, kA185, kS185, kL186, kA186, kS186, kL187, kA187, kS187, kL188, kA188, kS188, kL189, kL190, kL191, kA191, kS191, kL192, kA192, kS192, kL193, kA193, kS193, kL194, kA194, kS194, kL195, kA195, kS195, kL196, kA196, kS196, kL197, kA197, kS197, kL198, kA198, kS198, kL199, kA199, kS199, kL200, kA200, kS200, kL201, kL202, kA202, kS202, kL203, kA203, kS203, kL204, kA204, kS204, kL205, kL206, kA206, kS206, l2, s2, sm2]
      by_cases q2 : isB g (xI σ 191) x = true
      · by_cases q3 : isB g (xI σ 191) y = true
        · by_cases q1 : gSz g ≤ 10
          · exact absurd ⟨q1, q2, q3⟩ h10
          · simp only [q1, q2, q3, if_true, if_false, one0, Bool.false_eq_true]; rfl
        · simp only [q2, q3, if_true, if_false, one0, Bool.false_eq_true]; rfl
      · simp only [q2, if_true, if_false, one0, Bool.false_eq_true]; rfl
    exact ⟨-100000, σ, σ, A, B, INV_i H.nop⟩
theorem op_hill : Op_hill INV := by
  intro n σ hn ⟨g, gT, gP, st, H⟩ x
  have hS := H.shp
  have hG := H.grd
  have hg := hG.1
  have hSt := (gSt_b hg).1
  have sm := isSmall_ok (σ := σ) (I := xI σ) hS hG
  have l1 := isLawful11_ok (σ := σ) (I := xI σ) hS hG H.now.1
  have l2 := isLawful12_ok (σ := σ) (I := xI σ) hS hG H.now.2.1
  have s2 := sites_ok (σ := σ) (I := xI σ) hS hG
  have sm2 := small12 hS hG
  by_cases h10 : gSz g ≤ 10 ∧ isB g (xI σ 191) x = true
  · obtain ⟨h10, hb⟩ := h10
    rw [if_pos h10] at sm
    have l1x := l1 x
    rw [hb, if_pos rfl] at l1x
    obtain ⟨b, hb1, rfl, hbl⟩ := isB_t hb
    obtain ⟨τ, c, m, M, o, e1, H1, hT, hO, r1⟩ := terr_ready (by omega) H h10
    obtain ⟨F, hF⟩ : ∃ F, F = xI σ 191 := ⟨_, rfl⟩
    rw [← hF] at hT hO hbl r1
    have ho := hT.2.2.1
    have hM0 : 0 < M := by
      obtain ⟨j, hj, -⟩ := hO.2.2.2.2 b hb1 hbl
      omega
    obtain ⟨i, J', hi, e3, m1, m2, u3⟩ := meetH_ok hT hO (one := b) ⟨hb1, hbl⟩ hM0
    obtain ⟨H3, hG3, r3, Q, e4, H4, hG4, K4, r4⟩ := terr_both H1 r1 u3
    have hS3 : Shp τ := H1.shp
    obtain ⟨e, he, hE, hp⟩ := lE_slot hg ho hb1 hbl
    have hlv : 0 < lvN g F := fb_ct_pos.mpr ⟨e, he, hp⟩
    obtain ⟨k, hk, hpk, hki⟩ := lv_first (g := g) (F := F) hlv
    have q0 : Q 198 0 = iI ((k : Int) - 144) := by rw [← hki]; exact K4.2.2.2 k hk hpk
    have eo : eE g (zR F) (o 0) = (k : Int) - 144 := by
      have a1 := ground_le hg ho hki (hO.2.2.1 0 hM0).2.1 (hO.2.2.1 0 hM0).2.2
      have a2 : 0 < lC g F ((k : Int) - 144) := of_decide_eq_true hpk
      obtain ⟨s, s1, s2⟩ := fb_ct_pos.mp a2
      unfold lE at s2
      simp only [Bool.and_eq_true, decide_eq_true_eq] at s2
      obtain ⟨j, j1, j2⟩ := hO.2.2.2.2 s s1 s2.1
      by_cases z : j = 0
      · rw [z] at j2; rw [j2]; exact s2.2
      · have := (hO.2.2.2.1 0 j (by omega) j1).1
        rw [j2] at this
        omega
    obtain ⟨J5, h', e5, u5, hI5, fx5⟩ := hill12_ok (σ := τ) (J := Q) hS3 hG4 ho K4 hT.st (one := b) ⟨hb1, hbl⟩ q0 (by omega)
    have heq := meet_eq (Qc := fun x => eE g (zR F) x = eE g (zR F) (o 0)) hg ho hO hi hI5 fx5 ⟨hb1, hbl⟩ (hO.2.2.1 0 hM0).2 (fun q hq => by
      constructor
      · rintro ⟨z1, z2⟩; show _ = _; omega
      · intro z
        have z' : eE g (zR F) q = eE g (zR F) (o 0) := z
        exact ⟨hq, by omega⟩) rfl (fun q hq => by rw [hq.2]; omega) m1 m2
    rw [heq] at e5
    have l3b := isLawful12_ok (σ := τ) (I := J') hS3 hG3 (show RO g (J' 191) from H3.now.2.1) (nI b)
    rw [r3, isB_n hg hb1, hbl, if_pos rfl] at l3b
    have low : f_X9_lowest τ 174 = some (nI (o 0)) := by
      show f_X9_lowest (xw τ (xI τ)) 174 = _
      unfold f_X9_lowest
      have z0 : xaI (xw τ (xI τ)) 20 175 (0 : Int32) = some (xI τ 175 0) := kA175 hS3 (i := 0) (by decide)
      simp (disch := first | assumption | omega) only [Option.bind_some, Option.map_some, xw_gR, xw_gN, xw_al, xw_ck, xw_uI, xw_ur, xup_at, xur_at, if_true, if_false, reduceIte, and_true, true_and, and_false, false_and, not_true_eq_false, not_false_eq_true, Nat.reduceEqDiff, eq_self, Nat.reduceAdd, Nat.reduceMul, kC1, kG1, kP1, kR1_0, kR1_1, kR1_2, kR1_3, kR1_4, kR1_5, kR1_6, kR1_7, kR1_8, kR1_9, kR1_10, kR1_11, kR1_12, kR1_13, kC2, kG2, kP2, kR2_0, kR2_1, kC3, kG3, kP3, kR3_0, kR3_1, kR3_2, kR3_3, kL4, kA4, kS4, kL5, kA5, kS5, kL6, kA6, kS6, kL7, kA7, kS7, kC8, kG8, kP8, kR8_0, kR8_1, kL9, kA9, kS9, kL10, kA10, kS10, kC11, kG11, kP11, kR11_0, kR11_1, kR11_2, kR11_3, kL12, kA12, kS12, kL13, kA13, kS13, kL14, kA14, kS14, kL15, kA15, kS15, kC16, kG16, kP16, kR16_0, kR16_1, kL17, kA17, kS17, kL18, kA18, kS18, kC19, kG19, kP19, kR19_0, kL20, kL141, kL146, kA146, kS146, kL151, kA151, kS151, kL156, kA156, kS156, kC157, kG157, kP157, kR157_0, kR157_1, kL158, kA158, kS158, kL159, kA159, kS159, kC161, kG161, kP161, kR161_0, kR161_1, kL162, kA162, kS162, kL163, kA163, kS163, kC165, kG165, kP165, kR165_0, kR165_1, kR165_2, kR165_3, kL166, kA166, kS166, kL167, kA167, kS167, kL168, kA168, kS168, kL169, kA169, kS169, kC170, kG170, kP170, kR170_0, kR170_1, kR170_2, kL171, kA171, kS171, kL172, kA172, kS172, kL173, kA173, kS173, kC174, kG174, kP174, kR174_0, kR174_1, kR174_2, kR174_3, kR174_4, kL175, kA175, kS175, kL176, kA176, kS176, kL177, kA177, kS177, kL178, kA178, kS178, kL179, kC180, kG180, kP180, kL181, kL182, kA182, kS182, kC183, kG183, kP183, kR183_1, kR183_3, kR183_5, kR183_6, kR183_7, kR183_8, kR183_9, kR183_21, kR183_26, kR183_27, kR183_30, kR183_31, kR183_33, kR183_34, kR183_36, kR183_37, kR183_38, kR183_39, kR183_40, kR183_41, kR183_42, kR183_43, kR183_44, kL184, kA184, kS184, kL185, kA185, kS185, kL186, kA186, kS186, kL187, kA187, kS187, kL188, kA188, kS188, kL189, kL190, kL191, kA191, kS191, kL192, kA192, kS192, kL193, kA193, kS193, kL194, kA194, kS194, kL195, kA195, kS195, kL196, kA196, kS196, kL197, kA197, kS197, kL198, kA198, kS198, kL199, kA199, kS199, kL200, kA200, kS200, kL201, kL202, kA202, kS202, kL203, kA203, kS203, kL204, kA204, kS204, kL205, kL206, kA206, kS206, z0, (hO.2.2.1 0 hM0).1]
    refine ⟨iI (eE g (zR F) (o i)), xw τ J', xw τ J5, ?_, ?_, INV_i (IV.nop (H4.hills (fun a k h => u5 a k (by omega))))⟩
    · unfold f_X11_hill
      show ((xck σ 1 11).bind fun _ => (f_X11_isSmall (xw σ (xI σ)) 1).bind _) = _
      rw [xck_ok (sT1 hS), Option.bind_some, sm, Option.bind_some, if_neg (by decide), Option.bind_some]
      show ((f_X11_isLawful (xw σ (xI σ)) 1 (nI b)).bind _) = _
      rw [l1x, Option.bind_some, if_neg (by decide), Option.bind_some, e1, Option.bind_some]
      dsimp only
      rw [xnz_ok (by decide), Option.bind_some]
      unfold f_X11_hill_j22
      rw [xck_ok (sT174 hS3), Option.bind_some, low, Option.bind_some, Option.bind_some]
      show ((f_X9_meetingEnergy (xw τ (xI τ)) 174 (nI b) (nI (o 0)) 1).bind _) = _
      rw [e3, Option.bind_some]
    · unfold f_X12_hill
      simp (disch := first | assumption | omega) only [Option.bind_some, Option.map_some, xw_gR, xw_gN, xw_al, xw_ck, xw_uI, xw_ur, xup_at, xur_at, if_true, if_false, reduceIte, and_true, true_and, and_false, false_and, not_true_eq_false, not_false_eq_true, Nat.reduceEqDiff, eq_self, Nat.reduceAdd, Nat.reduceMul, kC1, kG1, kP1, kR1_0, kR1_1, kR1_2, kR1_3, kR1_4, kR1_5, kR1_6, kR1_7, kR1_8, kR1_9, kR1_10, kR1_11, kR1_12, kR1_13, kC2, kG2, kP2, kR2_0, kR2_1, kC3, kG3, kP3, kR3_0, kR3_1, kR3_2, kR3_3, kL4, kA4, kS4, kL5, kA5, kS5, kL6, kA6, kS6, kL7, kA7, kS7, kC8, kG8, kP8, kR8_0, kR8_1, kL9, kA9, kS9, kL10, kA10, kS10, kC11, kG11, kP11, kR11_0, kR11_1, kR11_2, kR11_3, kL12, kA12, kS12, kL13, kA13, kS13, kL14, kA14, kS14, kL15, kA15, kS15, kC16, kG16, kP16, kR16_0, kR16_1, kL17, kA17, kS17, kL18, kA18, kS18, kC19, kG19, kP19, kR19_0, kL20, kL141, kL146, kA146, kS146, kL151, kA151, kS151, kL156, kA156, kS156, kC157, kG157, kP157, kR157_0, kR157_1, kL158, kA158, kS158, kL159, kA159, kS159, kC161, kG161, kP161, kR161_0, kR161_1, kL162, kA162, kS162, kL163, kA163, kS163, kC165, kG165, kP165, kR165_0, kR165_1, kR165_2, kR165_3, kL166, kA166, kS166, kL167, kA167, kS167, kL168, kA168, kS168, kL169, kA169, kS169, kC170, kG170, kP170, kR170_0, kR170_1, kR170_2, kL171, kA171, kS171, kL172, kA172, kS172, kL173, kA173, kS173, kC174, kG174, kP174, kR174_0, kR174_1, kR174_2, kR174_3, kR174_4, kL175, kA175, kS175, kL176, kA176, kS176, kL177, kA177, kS177, kL178, kA178, kS178, kL179, kC180, kG180, kP180, kL181, kL182, kA182, kS182, kC183, kG183, kP183, kR183_1, kR183_3, kR183_5, kR183_6, kR183_7, kR183_8, kR183_9, kR183_21, kR183_26, kR183_27, kR183_30, kR183_31, kR183_33, kR183_34, kR183_36, kR183_37, kR183_38, kR183_39, kR183_40, kR183_41, kR183_42, kR183_43, kR183_44, kL184, kA184, kS184, kL185, kA185, kS185, kL186, kA186, kS186, kL187, kA187, kS187, kL188, kA188, kS188, kL189, kL190, kL191, kA191, kS191, kL192, kA192, kS192, kL193, kA193, kS193, kL194, kA194, kS194, kL195, kA195, kS195, kL196, kA196, kS196, kL197, kA197, kS197, kL198, kA198, kS198, kL199, kA199, kS199, kL200, kA200, kS200, kL201, kL202, kA202, kS202, kL203, kA203, kS203, kL204, kA204, kS204, kL205, kL206, kA206, kS206, l3b, one0, sites_ok hS3 hG3, sm2, h10, e4]
      exact e5
  · have A : f_X11_hill σ 1 x = some (-100000, σ) := by
      show f_X11_hill (xw σ (xI σ)) 1 x = _
      unfold f_X11_hill
      simp (disch := first | assumption | omega) only [Option.bind_some, Option.map_some, xw_gR, xw_gN, xw_al, xw_ck, xw_uI, xw_ur, xup_at, xur_at, if_true, if_false, reduceIte, and_true, true_and, and_false, false_and, not_true_eq_false, not_false_eq_true, Nat.reduceEqDiff, eq_self, Nat.reduceAdd, Nat.reduceMul, kC1, kG1, kP1, kR1_0, kR1_1, kR1_2, kR1_3, kR1_4, kR1_5, kR1_6, kR1_7, kR1_8, kR1_9, kR1_10, kR1_11, kR1_12, kR1_13, kC2, kG2, kP2, kR2_0, kR2_1, kC3, kG3, kP3, kR3_0, kR3_1, kR3_2, kR3_3, kL4, kA4, kS4, kL5, kA5, kS5, kL6, kA6, kS6, kL7, kA7, kS7, kC8, kG8, kP8, kR8_0, kR8_1, kL9, kA9, kS9, kL10, kA10, kS10, kC11, kG11, kP11, kR11_0, kR11_1, kR11_2, kR11_3, kL12, kA12, kS12, kL13, kA13, kS13, kL14, kA14, kS14, kL15, kA15, kS15, kC16, kG16, kP16, kR16_0, kR16_1, kL17, kA17, kS17, kL18, kA18, kS18, kC19, kG19, kP19, kR19_0, kL20, kL141, kL146, kA146, kS146, kL151, kA151, kS151, kL156, kA156, kS156, kC157, kG157, kP157, kR157_0, kR157_1, kL158, kA158, kS158, kL159, kA159, kS159, kC161, kG161, kP161, kR161_0, kR161_1, kL162, kA162, kS162, kL163, kA163, kS163, kC165, kG165, kP165, kR165_0, kR165_1, kR165_2, kR165_3, kL166, kA166, kS166, kL167, kA167, kS167, kL168, kA168, kS168, kL169, kA169, kS169, kC170, kG170, kP170, kR170_0, kR170_1, kR170_2, kL171, kA171, kS171, kL172, kA172, kS172, kL173, kA173, kS173, kC174, kG174, kP174, kR174_0, kR174_1, kR174_2, kR174_3, kR174_4, kL175, kA175, kS175, kL176, kA176, kS176, kL177, kA177, kS177, kL178, kA178, kS178, kL179, kC180, kG180, kP180, kL181, kL182, kA182, kS182, kC183, kG183, kP183, kR183_1, kR183_3, kR183_5, kR183_6, kR183_7, kR183_8, kR183_9, kR183_21, kR183_26, kR183_27, kR183_30, kR183_31, kR183_33, kR183_34, kR183_36, kR183_37, kR183_38, kR183_39, kR183_40, kR183_41, kR183_42, kR183_43, kR183_44, kL184, kA184, kS184, kL185, kA185, kS185, kL186, kA186, kS186, kL187, kA187, kS187, kL188, kA188, kS188, kL189, kL190, kL191, kA191, kS191, kL192, kA192, kS192, kL193, kA193, kS193, kL194, kA194, kS194, kL195, kA195, kS195, kL196, kA196, kS196, kL197, kA197, kS197, kL198, kA198, kS198, kL199, kA199, kS199, kL200, kA200, kS200, kL201, kL202, kA202, kS202, kL203, kA203, kS203, kL204, kA204, kS204, kL205, kL206, kA206, kS206, sm, l1]
      by_cases q1 : gSz g ≤ 10
      · by_cases q2 : isB g (xI σ 191) x = true
        · exact absurd ⟨q1, q2⟩ h10
        · simp only [q1, q2, if_true, if_false, one0, Bool.false_eq_true]; rfl
      · simp only [q1, if_false, if_true]; rfl
    have B : f_X12_hill σ 183 x = some (-100000, σ) := by
      show f_X12_hill (xw σ (xI σ)) 183 x = _
      unfold f_X12_hill
      simp (disch := first | assumption | omega) only [Option.bind_some, Option.map_some, xw_gR, xw_gN, xw_al, xw_ck, xw_uI, xw_ur, xup_at, xur_at, if_true, if_false, reduceIte, and_true, true_and, and_false, false_and, not_true_eq_false, not_false_eq_true, Nat.reduceEqDiff, eq_self, Nat.reduceAdd, Nat.reduceMul, kC1, kG1, kP1, kR1_0, kR1_1, kR1_2, kR1_3, kR1_4, kR1_5, kR1_6, kR1_7, kR1_8, kR1_9, kR1_10, kR1_11, kR1_12, kR1_13, kC2, kG2, kP2, kR2_0, kR2_1, kC3, kG3, kP3, kR3_0, kR3_1, kR3_2, kR3_3, kL4, kA4, kS4, kL5, kA5, kS5, kL6, kA6, kS6, kL7, kA7, kS7, kC8, kG8, kP8, kR8_0, kR8_1, kL9, kA9, kS9, kL10, kA10, kS10, kC11, kG11, kP11, kR11_0, kR11_1, kR11_2, kR11_3, kL12, kA12, kS12, kL13, kA13, kS13, kL14, kA14, kS14, kL15, kA15, kS15, kC16, kG16, kP16, kR16_0, kR16_1, kL17, kA17, kS17, kL18, kA18, kS18, kC19, kG19, kP19, kR19_0, kL20, kL141, kL146, kA146, kS146, kL151, kA151, kS151, kL156, kA156, kS156, kC157, kG157, kP157, kR157_0, kR157_1, kL158, kA158, kS158, kL159, kA159, kS159, kC161, kG161, kP161, kR161_0, kR161_1, kL162, kA162, kS162, kL163, kA163, kS163, kC165, kG165, kP165, kR165_0, kR165_1, kR165_2, kR165_3, kL166, kA166, kS166, kL167, kA167, kS167, kL168, kA168, kS168, kL169, kA169, kS169, kC170, kG170, kP170, kR170_0, kR170_1, kR170_2, kL171, kA171, kS171, kL172, kA172, kS172, kL173, kA173, kS173, kC174, kG174, kP174, kR174_0, kR174_1, kR174_2, kR174_3, kR174_4, kL175, kA175, kS175, kL176, kA176, kS176, kL177, kA177, kS177, kL178, kA178, kS178, kL179, kC180, kG180, kP180, kL181, kL182, kA182, kS182, kC183, kG183, kP183, kR183_1, kR183_3, kR183_5, kR183_6, kR183_7, kR183_8, kR183_9, kR183_21, kR183_26, kR183_27, kR183_30, kR183_31, kR183_33, kR183_34, kR183_36, kR183_37, kR183_38, kR183_39, kR183_40, kR183_41, kR183_42, kR183_43, kR183_44, kL184, kA184, kS184, kL185, kA185, kS185, kL186, kA186, kS186, kL187, kA187, kS187, kL188, kA188, kS188, kL189, kL190, kL191, kA191, kS191, kL192, kA192, kS192, kL193, kA193, kS193, kL194, kA194, kS194, kL195, kA195, kS195, kL196, kA196, kS196, kL197, kA197, kS197, kL198, kA198, kS198, kL199, kA199, kS199, kL200, kA200, kS200, kL201, kL202, kA202, kS202, kL203, kA203, kS203, kL204, kA204, kS204, kL205, kL206, kA206, kS206, l2, s2, sm2]
      by_cases q2 : isB g (xI σ 191) x = true
      · by_cases q1 : gSz g ≤ 10
        · exact absurd ⟨q1, q2⟩ h10
        · simp only [q1, q2, if_true, if_false, one0, Bool.false_eq_true]; rfl
      · simp only [q2, if_true, if_false, one0, Bool.false_eq_true]; rfl
    exact ⟨-100000, σ, σ, A, B, INV_i H.nop⟩
