/-! lakes: the model goes from state to state -/
def alw (g : GD) (F : Nat → Int32) (e : Int) (s : Nat) : Prop := lwS g F s ∧ eE g (zR F) s ≤ e
theorem Se_y {g : GD} {F : Nat → Int32} {e : Int} (a b : Nat) (h : Se g F e a b) : Se g F e b a := ⟨h.2.1, h.1, aj_y h.2.2⟩
/-- what waits in the row -/
def BF (g : GD) (F : Nat → Int32) (e : Int) (w0 w : Nat → Bool) (q : Nat → Nat) (many first : Nat) : Prop := (0 < many ∧ q 0 = first) ∧ (∀ j, j < many → alw g F e (q j) ∧ cn (Se g F e) first (q j) ∧ w0 (q j) = false) ∧ (∀ i j, i < j → j < many → q i ≠ q j) ∧ ∀ s, w s = true ↔ w0 s = true ∨ ∃ j, j < many ∧ q j = s
def LB (J0 J : Nat → Nat → Int32) (g : GD) (w : Nat → Bool) (q : Nat → Nat) (many : Nat) : Prop := (∀ s, s < gSt g → J 203 s = if w s then 1 else 0) ∧ (∀ j, j < many → J 204 j = nI (q j)) ∧ ∀ a k, ¬ (203 ≤ a ∧ a ≤ 204) → J a k = J0 a k
section LAKES
variable {σ : XS} {J0 J : Nat → Nat → Int32} {g : GD} {F : Nat → Int32} {w0 w : Nat → Bool} {q : Nat → Nat} {many first : Nat}
theorem BF_le {e : Int} (h : BF g F e w0 w q many first) : many ≤ gSt g := fb_holes _ _ q (fun i hi => (h.2.1 i hi).1.1.1) h.2.2.1
theorem BF_add {e : Int} (h : BF g F e w0 w q many first) {t k : Nat} (hk : k < many) (ht : alw g F e t) (hj : aj g F (q k) t) (hw : w t = false) : BF g F e w0 (wA w t) (fun j => if j = many then t else q j) (many + 1) first := by
  obtain ⟨⟨h1, h2⟩, h3, h4, h5⟩ := h
  have n0 : w0 t = false := by
    cases z : w0 t with
    | false => rfl
    | true =>
      have := (h5 t).mpr (.inl z)
      rw [hw] at this; cases this
  have nq : ∀ j, j < many → q j ≠ t := fun j hj z => by
    have := (h5 t).mpr (.inr ⟨j, hj, z⟩)
    rw [hw] at this; cases this
  refine ⟨⟨by omega, ?_⟩, fun j hj1 => ?_, fun i j hij hj1 => ?_, fun s => ?_⟩
  · show (if 0 = many then t else q 0) = first
    rw [if_neg (by omega)]; exact h2
  · show alw g F e (if j = many then t else q j) ∧ cn (Se g F e) first (if j = many then t else q j) ∧ w0 (if j = many then t else q j) = false
    by_cases z : j = many
    · rw [if_pos z]
      exact ⟨ht, cn_s (h3 k hk).2.1 ⟨(h3 k hk).1, ht, hj⟩, n0⟩
    · rw [if_neg z]; exact h3 j (by omega)
  · show (if i = many then t else q i) ≠ (if j = many then t else q j)
    rw [if_neg (show ¬ i = many by omega)]
    by_cases z : j = many
    · rw [if_pos z]; exact nq i (by omega)
    · rw [if_neg z]; exact h4 i j hij (by omega)
  · rw [wA_iff, h5 s]
    constructor
    · rintro ((z | ⟨j, j1, j2⟩) | z)
      · exact .inl z
      · refine .inr ⟨j, by omega, ?_⟩
        show (if j = many then t else q j) = s
        rw [if_neg (by omega)]; exact j2
      · refine .inr ⟨many, by omega, ?_⟩
        show (if many = many then t else q many) = s
        rw [if_pos rfl]; exact z
    · rintro (z | ⟨j, j1, j2⟩)
      · exact .inl (.inl z)
      · have j2' : (if j = many then t else q j) = s := j2
        by_cases z : j = many
        · rw [if_pos z] at j2'; exact .inr j2'
        · rw [if_neg z] at j2'; exact .inl (.inr ⟨j, by omega, j2'⟩)
theorem bfs_row (hS : Shp σ) (hG : GRD J0 g) (ho : RO g F) (hK : KNK J0 g F) (h10 : gSt g ≤ 1024) (x n f : Int32) (hB : BF g F x.toInt w0 w q many first) (hL : LB J0 J g w q many) {k : Nat} (hk : k < many) :
    ∃ r, xloop (f_X12_lakes_b119 183 x n f (nI k)) (nI many, (0 : Int32), xw σ J) = some r ∧ ∃ (J' : Nat → Nat → Int32) (w' : Nat → Bool) (q' : Nat → Nat) (many' : Nat), r = .inl (nI many', nI (k + 1), xw σ J') ∧ BF g F x.toInt w0 w' q' many' first ∧ LB J0 J' g w' q' many' ∧ many ≤ many' ∧ (∀ j, j < many → q' j = q j) ∧ (∀ s, w s = true → w' s = true) ∧ ∀ i, i < gSz g → alw g F x.toInt (q k ^^^ 2 ^ i) → w' (q k ^^^ 2 ^ i) = true := by
  have hg := hG.1
  have h16 := (gAll_b g hg).2.2.1
  refine xforI (fun i a => ∃ (J' : Nat → Nat → Int32) (w' : Nat → Bool) (q' : Nat → Nat) (many' : Nat), a = (nI many', nI i, xw σ J') ∧ BF g F x.toInt w0 w' q' many' first ∧ LB J0 J' g w' q' many' ∧ many ≤ many' ∧ (∀ j, j < many → q' j = q j) ∧ (∀ s, w s = true → w' s = true) ∧ ∀ i', i' < i → alw g F x.toInt (q k ^^^ 2 ^ i') → w' (q k ^^^ 2 ^ i') = true) (gSz g) ⟨J, w, q, many, rfl, hB, hL, Nat.le_refl _, fun _ _ => rfl, fun _ h => h, fun i hi => absurd hi (Nat.not_lt_zero _)⟩ ?_ ?_
  · rintro i a hi ⟨J', w', q', many', rfl, hB', hL', hle, hq, hm, hd⟩
    obtain ⟨v3, v4, u⟩ := id hL'
    have hG' : GRD J' g := GRD_c (fun a k z => u a k (by unfold sGRD at z; omega)) hG
    have hlk : lwS g F (q k) := (hB.2.1 k hk).1.1
    have hto := gSt_flip hlk.1 hi
    have t24 : q k ^^^ 2 ^ i < 1024 := by omega
    have k24 : k < 1024 := by have := BF_le hB; omega
    have m24 := BF_le hB'
    have vk : J' 204 k = nI (q k) := by rw [v4 k (by omega), hq k hk]
    have vw := v3 _ hto
    have ve : J' 196 (q k ^^^ 2 ^ i) = if lW g F (q k ^^^ 2 ^ i) then iI (eE g (zR F) (q k ^^^ 2 ^ i)) else nI 100000 := by rw [u _ _ (by omega)]; exact hK.1 _ hto
    have hbt := eE_b hg ho (q k ^^^ 2 ^ i)
    have skip : (alw g F x.toInt (q k ^^^ 2 ^ i) → w' (q k ^^^ 2 ^ i) = true) → f_X12_lakes_b119 183 x n f (nI k) (nI many', nI i, xw σ J') = some (.inl (nI many', nI (i + 1), xw σ J')) → ∃ a', f_X12_lakes_b119 183 x n f (nI k) (nI many', nI i, xw σ J') = some (.inl a') ∧ ∃ (J' : Nat → Nat → Int32) (w' : Nat → Bool) (q' : Nat → Nat) (many' : Nat), a' = (nI many', nI (i + 1), xw σ J') ∧ BF g F x.toInt w0 w' q' many' first ∧ LB J0 J' g w' q' many' ∧ many ≤ many' ∧ (∀ j, j < many → q' j = q j) ∧ (∀ s, w s = true → w' s = true) ∧ ∀ i', i' < i + 1 → alw g F x.toInt (q k ^^^ 2 ^ i') → w' (q k ^^^ 2 ^ i') = true := by
      intro h1 h2
      refine ⟨_, h2, J', w', q', many', rfl, hB', hL', hle, hq, hm, fun i' hi' ha => ?_⟩
      by_cases z : i' = i
      · rw [z] at ha ⊢; exact h1 ha
      · exact hd i' (by omega) ha
    cases hw : w' (q k ^^^ 2 ^ i) with
    | true =>
      rw [hw, if_pos rfl] at vw
      refine skip (fun _ => hw) ?_
      simp only [f_X12_lakes_b119]
      simp (disch := first | assumption | omega) only [Option.bind_some, Option.map_some, xw_gR, xw_gN, xw_al, xw_ck, xw_uI, xw_ur, xup_at, xur_at, if_true, if_false, reduceIte, and_true, true_and, and_false, false_and, not_true_eq_false, not_false_eq_true, Nat.reduceEqDiff, eq_self, Nat.reduceAdd, Nat.reduceMul, kC1, kG1, kP1, kR1_0, kR1_1, kR1_2, kR1_3, kR1_4, kR1_5, kR1_6, kR1_7, kR1_8, kR1_9, kR1_10, kR1_11, kR1_12, kR1_13, kC2, kG2, kP2, kR2_0, kR2_1, kC3, kG3, kP3, kR3_0, kR3_1, kR3_2, kR3_3, kL4, kA4, kS4, kL5, kA5, kS5, kL6, kA6, kS6, kL7, kA7, kS7, kC8, kG8, kP8, kR8_0, kR8_1, kL9, kA9, kS9, kL10, kA10, kS10, kC11, kG11, kP11, kR11_0, kR11_1, kR11_2, kR11_3, kL12, kA12, kS12, kL13, kA13, kS13, kL14, kA14, kS14, kL15, kA15, kS15, kC16, kG16, kP16, kR16_0, kR16_1, kL17, kA17, kS17, kL18, kA18, kS18, kC19, kG19, kP19, kR19_0, kL20, kL141, kL146, kA146, kS146, kL151, kA151, kS151, kL156, kA156, kS156, kC157, kG157, kP157, kR157_0, kR157_1, kL158, kA158, kS158, kL159, kA159, kS159, kC161, kG161, kP161, kR161_0, kR161_1, kL162, kA162, kS162, kL163, kA163, kS163, kC165, kG165, kP165, kR165_0, kR165_1, kR165_2, kR165_3, kL166, kA166, kS166, kL167, kA167, kS167, kL168, kA168, kS168, kL169, kA169, kS169, kC170, kG170, kP170, kR170_0, kR170_1, kR170_2, kL171, kA171, kS171, kL172, kA172, kS172, kL173, kA173, kS173, kC174, kG174, kP174, kR174_0, kR174_1, kR174_2, kR174_3, kR174_4, kL175, kA175, kS175, kL176, kA176, kS176, kL177, kA177, kS177, kL178, kA178, kS178, kL179, kC180, kG180, kP180, kL181, kL182, kA182, kS182, kC183, kG183, kP183, kR183_1, kR183_3, kR183_5, kR183_6, kR183_7, kR183_8, kR183_9, kR183_21, kR183_26, kR183_27, kR183_30, kR183_31, kR183_33, kR183_34, kR183_36, kR183_37, kR183_38, kR183_39, kR183_40, kR183_41, kR183_42, kR183_43, kR183_44, kL184, kA184, kS184, kL185, kA185, kS185, kL186, kA186, kS186, kL187, kA187, kS187, kL188, kA188, kS188, kL189, kL190, kL191, kA191, kS191, kL192, kA192, kS192, kL193, kA193, kS193, kL194, kA194, kS194, kL195, kA195, kS195, kL196, kA196, kS196, kL197, kA197, kS197, kL198, kA198, kS198, kL199, kA199, kS199, kL200, kA200, kS200, kL201, kL202, kA202, kS202, kL203, kA203, kS203, kL204, kA204, kS204, kL205, kL206, kA206, kS206, sites_ok hS hG', nn_le, show ¬ (gSz g ≤ i) by omega, vk, nn_one, nn_xor, vw, one0]
      rw [nI_succ]
    | false =>
      rw [hw, if_neg (by decide)] at vw
      cases hl : lW g F (q k ^^^ 2 ^ i) with
      | false =>
        rw [hl, if_neg (by decide)] at ve
        refine skip (fun z => by rw [z.1.2] at hl; cases hl) ?_
        simp only [f_X12_lakes_b119]
        simp (disch := first | assumption | omega) only [Option.bind_some, Option.map_some, xw_gR, xw_gN, xw_al, xw_ck, xw_uI, xw_ur, xup_at, xur_at, if_true, if_false, reduceIte, and_true, true_and, and_false, false_and, not_true_eq_false, not_false_eq_true, Nat.reduceEqDiff, eq_self, Nat.reduceAdd, Nat.reduceMul, kC1, kG1, kP1, kR1_0, kR1_1, kR1_2, kR1_3, kR1_4, kR1_5, kR1_6, kR1_7, kR1_8, kR1_9, kR1_10, kR1_11, kR1_12, kR1_13, kC2, kG2, kP2, kR2_0, kR2_1, kC3, kG3, kP3, kR3_0, kR3_1, kR3_2, kR3_3, kL4, kA4, kS4, kL5, kA5, kS5, kL6, kA6, kS6, kL7, kA7, kS7, kC8, kG8, kP8, kR8_0, kR8_1, kL9, kA9, kS9, kL10, kA10, kS10, kC11, kG11, kP11, kR11_0, kR11_1, kR11_2, kR11_3, kL12, kA12, kS12, kL13, kA13, kS13, kL14, kA14, kS14, kL15, kA15, kS15, kC16, kG16, kP16, kR16_0, kR16_1, kL17, kA17, kS17, kL18, kA18, kS18, kC19, kG19, kP19, kR19_0, kL20, kL141, kL146, kA146, kS146, kL151, kA151, kS151, kL156, kA156, kS156, kC157, kG157, kP157, kR157_0, kR157_1, kL158, kA158, kS158, kL159, kA159, kS159, kC161, kG161, kP161, kR161_0, kR161_1, kL162, kA162, kS162, kL163, kA163, kS163, kC165, kG165, kP165, kR165_0, kR165_1, kR165_2, kR165_3, kL166, kA166, kS166, kL167, kA167, kS167, kL168, kA168, kS168, kL169, kA169, kS169, kC170, kG170, kP170, kR170_0, kR170_1, kR170_2, kL171, kA171, kS171, kL172, kA172, kS172, kL173, kA173, kS173, kC174, kG174, kP174, kR174_0, kR174_1, kR174_2, kR174_3, kR174_4, kL175, kA175, kS175, kL176, kA176, kS176, kL177, kA177, kS177, kL178, kA178, kS178, kL179, kC180, kG180, kP180, kL181, kL182, kA182, kS182, kC183, kG183, kP183, kR183_1, kR183_3, kR183_5, kR183_6, kR183_7, kR183_8, kR183_9, kR183_21, kR183_26, kR183_27, kR183_30, kR183_31, kR183_33, kR183_34, kR183_36, kR183_37, kR183_38, kR183_39, kR183_40, kR183_41, kR183_42, kR183_43, kR183_44, kL184, kA184, kS184, kL185, kA185, kS185, kL186, kA186, kS186, kL187, kA187, kS187, kL188, kA188, kS188, kL189, kL190, kL191, kA191, kS191, kL192, kA192, kS192, kL193, kA193, kS193, kL194, kA194, kS194, kL195, kA195, kS195, kL196, kA196, kS196, kL197, kA197, kS197, kL198, kA198, kS198, kL199, kA199, kS199, kL200, kA200, kS200, kL201, kL202, kA202, kS202, kL203, kA203, kS203, kL204, kA204, kS204, kL205, kL206, kA206, kS206, sites_ok hS hG', nn_le, show ¬ (gSz g ≤ i) by omega, vk, nn_one, nn_xor, vw, ve, show (nI 100000 = (100000 : Int32)) = True from eq_true rfl]
        rw [nI_succ]
      | true =>
        rw [hl, if_pos rfl] at ve
        have q1 : (iI (eE g (zR F) (q k ^^^ 2 ^ i)) = (100000 : Int32)) = False := by
          rw [show (100000 : Int32) = iI 100000 from rfl, iI_eq (by omega) (by omega) (by omega) (by omega)]; exact eq_false (by omega)
        have q2 : (iI (eE g (zR F) (q k ^^^ 2 ^ i)) ≤ x) = (eE g (zR F) (q k ^^^ 2 ^ i) ≤ x.toInt) := by rw [fa_le, iI_ti (by omega) (by omega)]
        by_cases he : eE g (zR F) (q k ^^^ 2 ^ i) ≤ x.toInt
        · have hp : F (48 + i) = 0 := by
            rw [lW_flip hi hlk.2] at hl
            exact of_decide_eq_true hl
          have hB2 := BF_add hB' (show k < many' by omega) (t := q k ^^^ 2 ^ i) ⟨⟨hto, hl⟩, he⟩ (by rw [hq k hk]; exact ⟨i, hi, hp, rfl⟩) hw
          have m2 := BF_le hB2
          have m3 : many' < 1024 := by omega
          refine ⟨(nI (many' + 1), nI (i + 1), xw σ (xup (xup J' 203 (q k ^^^ 2 ^ i) 1) 204 many' (nI (q k ^^^ 2 ^ i)))), ?_, _, _, _, _, rfl, hB2, ⟨fun s hs => ?_, fun j hj => ?_, fun a b hab => ?_⟩, by omega, fun j hj => ?_, fun s hs => wA_o (hm s hs), fun i' hi' ha => ?_⟩
          · simp only [f_X12_lakes_b119]
            simp (disch := first | assumption | omega) only [Option.bind_some, Option.map_some, xw_gR, xw_gN, xw_al, xw_ck, xw_uI, xw_ur, xup_at, xur_at, if_true, if_false, reduceIte, and_true, true_and, and_false, false_and, not_true_eq_false, not_false_eq_true, Nat.reduceEqDiff, eq_self, Nat.reduceAdd, Nat.reduceMul, kC1, kG1, kP1, kR1_0, kR1_1, kR1_2, kR1_3, kR1_4, kR1_5, kR1_6, kR1_7, kR1_8, kR1_9, kR1_10, kR1_11, kR1_12, kR1_13, kC2, kG2, kP2, kR2_0, kR2_1, kC3, kG3, kP3, kR3_0, kR3_1, kR3_2, kR3_3, kL4, kA4, kS4, kL5, kA5, kS5, kL6, kA6, kS6, kL7, kA7, kS7, kC8, kG8, kP8, kR8_0, kR8_1, kL9, kA9, kS9, kL10, kA10, kS10, kC11, kG11, kP11, kR11_0, kR11_1, kR11_2, kR11_3, kL12, kA12, kS12, kL13, kA13, kS13, kL14, kA14, kS14, kL15, kA15, kS15, kC16, kG16, kP16, kR16_0, kR16_1, kL17, kA17, kS17, kL18, kA18, kS18, kC19, kG19, kP19, kR19_0, kL20, kL141, kL146, kA146, kS146, kL151, kA151, kS151, kL156, kA156, kS156, kC157, kG157, kP157, kR157_0, kR157_1, kL158, kA158, kS158, kL159, kA159, kS159, kC161, kG161, kP161, kR161_0, kR161_1, kL162, kA162, kS162, kL163, kA163, kS163, kC165, kG165, kP165, kR165_0, kR165_1, kR165_2, kR165_3, kL166, kA166, kS166, kL167, kA167, kS167, kL168, kA168, kS168, kL169, kA169, kS169, kC170, kG170, kP170, kR170_0, kR170_1, kR170_2, kL171, kA171, kS171, kL172, kA172, kS172, kL173, kA173, kS173, kC174, kG174, kP174, kR174_0, kR174_1, kR174_2, kR174_3, kR174_4, kL175, kA175, kS175, kL176, kA176, kS176, kL177, kA177, kS177, kL178, kA178, kS178, kL179, kC180, kG180, kP180, kL181, kL182, kA182, kS182, kC183, kG183, kP183, kR183_1, kR183_3, kR183_5, kR183_6, kR183_7, kR183_8, kR183_9, kR183_21, kR183_26, kR183_27, kR183_30, kR183_31, kR183_33, kR183_34, kR183_36, kR183_37, kR183_38, kR183_39, kR183_40, kR183_41, kR183_42, kR183_43, kR183_44, kL184, kA184, kS184, kL185, kA185, kS185, kL186, kA186, kS186, kL187, kA187, kS187, kL188, kA188, kS188, kL189, kL190, kL191, kA191, kS191, kL192, kA192, kS192, kL193, kA193, kS193, kL194, kA194, kS194, kL195, kA195, kS195, kL196, kA196, kS196, kL197, kA197, kS197, kL198, kA198, kS198, kL199, kA199, kS199, kL200, kA200, kS200, kL201, kL202, kA202, kS202, kL203, kA203, kS203, kL204, kA204, kS204, kL205, kL206, kA206, kS206, sites_ok hS hG', nn_le, show ¬ (gSz g ≤ i) by omega, vk, nn_one, nn_xor, vw, ve, q1, q2, he]
            rw [nI_succ, nI_succ]
          · rw [xup_at, if_neg (by omega), xup_at]
            by_cases z : s = q k ^^^ 2 ^ i
            · rw [if_pos ⟨rfl, z⟩, z, wA_b, if_pos rfl]
            · rw [if_neg (by omega), v3 s hs]
              have : wA w' (q k ^^^ 2 ^ i) s = w' s := by
                unfold wA
                rw [decide_eq_false (fun y => z y.symm), Bool.or_false]
              rw [this]
          · rw [xup_at]
            show _ = nI (if j = many' then q k ^^^ 2 ^ i else q' j)
            by_cases z : j = many'
            · rw [if_pos ⟨rfl, z⟩, if_pos z]
            · rw [if_neg (by omega), xup_at, if_neg (by omega), if_neg z]; exact v4 j (by omega)
          · rw [xup_at, if_neg (by omega), xup_at, if_neg (by omega)]; exact u a b hab
          · show (if j = many' then _ else q' j) = q j
            rw [if_neg (by omega)]; exact hq j hj
          · by_cases z : i' = i
            · rw [z]; exact wA_b _ _
            · exact wA_o (hd i' (by omega) ha)
        · refine skip (fun z => absurd z.2 he) ?_
          simp only [f_X12_lakes_b119]
          simp (disch := first | assumption | omega) only [Option.bind_some, Option.map_some, xw_gR, xw_gN, xw_al, xw_ck, xw_uI, xw_ur, xup_at, xur_at, if_true, if_false, reduceIte, and_true, true_and, and_false, false_and, not_true_eq_false, not_false_eq_true, Nat.reduceEqDiff, eq_self, Nat.reduceAdd, Nat.reduceMul, kC1, kG1, kP1, kR1_0, kR1_1, kR1_2, kR1_3, kR1_4, kR1_5, kR1_6, kR1_7, kR1_8, kR1_9, kR1_10, kR1_11, kR1_12, kR1_13, kC2, kG2, kP2, kR2_0, kR2_1, kC3, kG3, kP3, kR3_0, kR3_1, kR3_2, kR3_3, kL4, kA4, kS4, kL5, kA5, kS5, kL6, kA6, kS6, kL7, kA7, kS7, kC8, kG8, kP8, kR8_0, kR8_1, kL9, kA9, kS9, kL10, kA10, kS10, kC11, kG11, kP11, kR11_0, kR11_1, kR11_2, kR11_3, kL12, kA12, kS12, kL13, kA13, kS13, kL14, kA14, kS14, kL15, kA15, kS15, kC16, kG16, kP16, kR16_0, kR16_1, kL17, kA17, kS17, kL18, kA18, kS18, kC19, kG19, kP19, kR19_0, kL20, kL141, kL146, kA146, kS146, kL151, kA151, kS151, kL156, kA156, kS156, kC157, kG157, kP157, kR157_0, kR157_1, kL158, kA158, kS158, kL159, kA159, kS159, kC161, kG161, kP161, kR161_0, kR161_1, kL162, kA162, kS162, kL163, kA163, kS163, kC165, kG165, kP165, kR165_0, kR165_1, kR165_2, kR165_3, kL166, kA166, kS166, kL167, kA167, kS167, kL168, kA168, kS168, kL169, kA169, kS169, kC170, kG170, kP170, kR170_0, kR170_1, kR170_2, kL171, kA171, kS171, kL172, kA172, kS172, kL173, kA173, kS173, kC174, kG174, kP174, kR174_0, kR174_1, kR174_2, kR174_3, kR174_4, kL175, kA175, kS175, kL176, kA176, kS176, kL177, kA177, kS177, kL178, kA178, kS178, kL179, kC180, kG180, kP180, kL181, kL182, kA182, kS182, kC183, kG183, kP183, kR183_1, kR183_3, kR183_5, kR183_6, kR183_7, kR183_8, kR183_9, kR183_21, kR183_26, kR183_27, kR183_30, kR183_31, kR183_33, kR183_34, kR183_36, kR183_37, kR183_38, kR183_39, kR183_40, kR183_41, kR183_42, kR183_43, kR183_44, kL184, kA184, kS184, kL185, kA185, kS185, kL186, kA186, kS186, kL187, kA187, kS187, kL188, kA188, kS188, kL189, kL190, kL191, kA191, kS191, kL192, kA192, kS192, kL193, kA193, kS193, kL194, kA194, kS194, kL195, kA195, kS195, kL196, kA196, kS196, kL197, kA197, kS197, kL198, kA198, kS198, kL199, kA199, kS199, kL200, kA200, kS200, kL201, kL202, kA202, kS202, kL203, kA203, kS203, kL204, kA204, kS204, kL205, kL206, kA206, kS206, sites_ok hS hG', nn_le, show ¬ (gSz g ≤ i) by omega, vk, nn_one, nn_xor, vw, ve, q1, q2, he]
          rw [nI_succ]
  · rintro a ⟨J', w', q', many', rfl, hB', hL', hle, hq, hm, hd⟩
    have hG' : GRD J' g := GRD_c (fun a k z => hL'.2.2 a k (by unfold sGRD at z; omega)) hG
    refine ⟨.inl (nI many', nI (k + 1), xw σ J'), ?_, J', w', q', many', rfl, hB', hL', hle, hq, hm, hd⟩
    simp only [f_X12_lakes_b119]
    simp (disch := first | assumption | omega) only [Option.bind_some, Option.map_some, xw_gR, xw_gN, xw_al, xw_ck, xw_uI, xw_ur, xup_at, xur_at, if_true, if_false, reduceIte, and_true, true_and, and_false, false_and, not_true_eq_false, not_false_eq_true, Nat.reduceEqDiff, eq_self, Nat.reduceAdd, Nat.reduceMul, kC1, kG1, kP1, kR1_0, kR1_1, kR1_2, kR1_3, kR1_4, kR1_5, kR1_6, kR1_7, kR1_8, kR1_9, kR1_10, kR1_11, kR1_12, kR1_13, kC2, kG2, kP2, kR2_0, kR2_1, kC3, kG3, kP3, kR3_0, kR3_1, kR3_2, kR3_3, kL4, kA4, kS4, kL5, kA5, kS5, kL6, kA6, kS6, kL7, kA7, kS7, kC8, kG8, kP8, kR8_0, kR8_1, kL9, kA9, kS9, kL10, kA10, kS10, kC11, kG11, kP11, kR11_0, kR11_1, kR11_2, kR11_3, kL12, kA12, kS12, kL13, kA13, kS13, kL14, kA14, kS14, kL15, kA15, kS15, kC16, kG16, kP16, kR16_0, kR16_1, kL17, kA17, kS17, kL18, kA18, kS18, kC19, kG19, kP19, kR19_0, kL20, kL141, kL146, kA146, kS146, kL151, kA151, kS151, kL156, kA156, kS156, kC157, kG157, kP157, kR157_0, kR157_1, kL158, kA158, kS158, kL159, kA159, kS159, kC161, kG161, kP161, kR161_0, kR161_1, kL162, kA162, kS162, kL163, kA163, kS163, kC165, kG165, kP165, kR165_0, kR165_1, kR165_2, kR165_3, kL166, kA166, kS166, kL167, kA167, kS167, kL168, kA168, kS168, kL169, kA169, kS169, kC170, kG170, kP170, kR170_0, kR170_1, kR170_2, kL171, kA171, kS171, kL172, kA172, kS172, kL173, kA173, kS173, kC174, kG174, kP174, kR174_0, kR174_1, kR174_2, kR174_3, kR174_4, kL175, kA175, kS175, kL176, kA176, kS176, kL177, kA177, kS177, kL178, kA178, kS178, kL179, kC180, kG180, kP180, kL181, kL182, kA182, kS182, kC183, kG183, kP183, kR183_1, kR183_3, kR183_5, kR183_6, kR183_7, kR183_8, kR183_9, kR183_21, kR183_26, kR183_27, kR183_30, kR183_31, kR183_33, kR183_34, kR183_36, kR183_37, kR183_38, kR183_39, kR183_40, kR183_41, kR183_42, kR183_43, kR183_44, kL184, kA184, kS184, kL185, kA185, kS185, kL186, kA186, kS186, kL187, kA187, kS187, kL188, kA188, kS188, kL189, kL190, kL191, kA191, kS191, kL192, kA192, kS192, kL193, kA193, kS193, kL194, kA194, kS194, kL195, kA195, kS195, kL196, kA196, kS196, kL197, kA197, kS197, kL198, kA198, kS198, kL199, kA199, kS199, kL200, kA200, kS200, kL201, kL202, kA202, kS202, kL203, kA203, kS203, kL204, kA204, kS204, kL205, kL206, kA206, kS206, sites_ok hS hG', nn_le, Nat.le_refl]
    rw [nI_succ]
theorem bfs_ok (hS : Shp σ) (hG : GRD J0 g) (ho : RO g F) (hK : KNK J0 g F) (h10 : gSt g ≤ 1024) (x n : Int32) {f : Nat} (hB : BF g F x.toInt w0 w q many first) (hL : LB J0 J g w q many) (h1 : many = 1)
    (hcl : ∀ a b, alw g F x.toInt a → alw g F x.toInt b → aj g F a b → w0 a = true → w0 b = true) :
    ∃ (J' : Nat → Nat → Int32) (w' : Nat → Bool) (q' : Nat → Nat), xloop (f_X12_lakes_b109 183 x n (nI f)) ((1 : Int32), (0 : Int32), xw σ J) = some (.inl (n, nI (f + 1), xw σ J')) ∧ (∃ m', LB J0 J' g w' q' m') ∧ ∀ s, w' s = true ↔ w0 s = true ∨ (alw g F x.toInt s ∧ cn (Se g F x.toInt) first s) := by
  have key := xloop_run (f := f_X12_lakes_b109 183 x n (nI f)) (fun m a => ∃ (k : Nat) (J' : Nat → Nat → Int32) (w' : Nat → Bool) (q' : Nat → Nat) (many' : Nat), a = (nI many', nI k, xw σ J') ∧ m = gSt g - k ∧ k ≤ many' ∧ BF g F x.toInt w0 w' q' many' first ∧ LB J0 J' g w' q' many' ∧ ∀ j, j < k → ∀ i, i < gSz g → alw g F x.toInt (q' j ^^^ 2 ^ i) → w' (q' j ^^^ 2 ^ i) = true) (fun b => ∃ (J' : Nat → Nat → Int32) (w' : Nat → Bool) (q' : Nat → Nat), b = .inl (n, nI (f + 1), xw σ J') ∧ (∃ m', LB J0 J' g w' q' m') ∧ ∀ s, w' s = true ↔ w0 s = true ∨ (alw g F x.toInt s ∧ cn (Se g F x.toInt) first s)) ?_ (gSt g - 0) ((1 : Int32), (0 : Int32), xw σ J) ⟨0, J, w, q, 1, rfl, rfl, Nat.zero_le _, by rw [← h1]; exact hB, by rw [← h1]; exact hL, fun j hj => absurd hj (Nat.not_lt_zero _)⟩
  · obtain ⟨b, e, J', w', q', rfl, rest⟩ := key
    exact ⟨J', w', q', e, rest⟩
  · rintro m a ⟨k, J', w', q', many', rfl, rfl, hkm, hB', hL', hd⟩
    have m24 := BF_le hB'
    have qk : (nI many' ≤ nI k) = (many' ≤ k) := nn_le (by omega) (by omega)
    by_cases hk : k = many'
    · left
      refine ⟨_, ?_, J', w', q', rfl, ⟨many', hL'⟩, fun s => ?_⟩
      · simp only [f_X12_lakes_b109]
        rw [if_pos (by rw [qk]; omega), nI_succ]
        rfl
      · obtain ⟨⟨b1, b2⟩, b3, b4, b5⟩ := id hB'
        rw [b5 s]
        constructor
        · rintro (z | ⟨j, j1, rfl⟩)
          · exact .inl z
          · exact .inr ⟨(b3 j j1).1, (b3 j j1).2.1⟩
        · rintro (z | ⟨z1, z2⟩)
          · exact .inl z
          · right
            refine z2 (fun t => ∃ j, j < many' ∧ q' j = t) ⟨0, b1, b2⟩ ?_
            rintro a b ⟨j, j1, rfl⟩ ⟨s1, s2, i, i1, i2, rfl⟩
            have hw := hd j (by omega) i i1 s2
            rcases (b5 _).mp hw with v | v
            · have := hcl _ _ s2 s1 (aj_y ⟨i, i1, i2, rfl⟩) v
              rw [(b3 j j1).2.2] at this; cases this
            · exact v
    · right
      obtain ⟨r, e, J2, w2, q2, many2, rfl, hB2, hL2, hle, hq, hm, hd2⟩ := bfs_row (σ := σ) hS hG ho hK h10 x n (nI f) hB' hL' (show k < many' by omega)
      refine ⟨gSt g - (k + 1), (nI many2, nI (k + 1), xw σ J2), by omega, ?_, k + 1, J2, w2, q2, many2, rfl, rfl, by omega, hB2, hL2, fun j hj i hi ha => ?_⟩
      · simp only [f_X12_lakes_b109]
        rw [if_neg (by rw [qk]; omega), e]
      · rw [hq j (by omega)] at ha ⊢
        by_cases z : j = k
        · rw [z] at ha ⊢; exact hd2 i hi ha
        · exact hm _ (hd j (by omega) i hi ha)
end LAKES
