/-! clusters counted -/
def cd (g : GD) (b T : Nat) : Prop := ∀ t, t < 32 → ∀ e, gTo g t = some e → b.testBit (gFr t) = b.testBit e → T.testBit (gFr t) = T.testBit e
theorem cd_iff {g : GD} {b T : Nat} : (∀ t, t < 32 → clS g b t T = T) ↔ cd g b T := by
  constructor
  · intro h t ht e he hb
    have h1 := h t ht
    unfold clS at h1
    rw [he] at h1
    dsimp only at h1
    cases qa : T.testBit (gFr t) with
    | false =>
      cases qe : T.testBit e with
      | false => rfl
      | true =>
        rw [if_pos ⟨hb, .inr qe⟩] at h1
        have := congrArg (fun x => Nat.testBit x (gFr t)) h1
        simp [Nat.testBit_or, Nat.testBit_two_pow, qa] at this
    | true =>
      cases qe : T.testBit e with
      | true => rfl
      | false =>
        rw [if_pos ⟨hb, .inl qa⟩] at h1
        have := congrArg (fun x => Nat.testBit x e) h1
        simp [Nat.testBit_or, Nat.testBit_two_pow, qe] at this
  · intro h t ht
    unfold clS
    cases he : gTo g t with
    | none => rfl
    | some e =>
      dsimp only
      split
      · next hc =>
        have hq := h t ht e he hc.1
        have ha : T.testBit (gFr t) = true := by
          rcases hc.2 with z | z
          · exact z
          · rw [hq]; exact z
        have hE : T.testBit e = true := by rw [← hq]; exact ha
        apply Nat.eq_of_testBit_eq
        intro i
        rw [Nat.testBit_or, Nat.testBit_or, Nat.testBit_two_pow, Nat.testBit_two_pow]
        by_cases z1 : gFr t = i
        · rw [← z1, ha]; rfl
        · by_cases z2 : e = i
          · rw [← z2, hE]; rfl
          · simp [z1, z2]
      · rfl
theorem clR_props {g : GD} (hg : g ∈ gAll) {b i : Nat} (hi : i < gSz g) : cd g b (clR g b i) ∧ (clR g b i).testBit i = true ∧ (∀ T, T.testBit i = true → cd g b T → sub (clR g b i) T) ∧ clR g b i < 65536 := by
  have h16 := (gAll_b g hg).2.2.1
  have h2i : 2 ^ i < 65536 := Nat.pow_lt_pow_right (n := 16) (by decide) (by omega)
  have h20 : 2 ^ i ≠ 0 := Nat.pos_iff_ne_zero.mp (Nat.two_pow_pos i)
  have hf : ∀ j, j < 2 * gSz g → tk j < 32 := fun j hj => by unfold tk; omega
  obtain ⟨K, k1, k2, k3⟩ := clI_end (b := b) (f := tk) (N := 2 * gSz g) hg hf h2i h20
  have e2 : clI g b tk (2 * gSz g) (2 ^ i) K = clR g b i := by
    unfold clR
    have := clI_stay k2 (16 - K)
    rw [show K + (16 - K) = 16 by omega] at this
    exact this.symm
  have fix : ∀ j, j < 2 * gSz g → clS g b (tk j) (clR g b i) = clR g b i := by
    rw [← e2]
    exact clP_fix _ k2
  refine ⟨cd_iff.mp ((cl_both hg).mpr fix), ?_, fun T hT hc => ?_, ?_⟩
  · exact clI_up 16 i (by rw [Nat.testBit_two_pow]; simp)
  · refine clI_in (fun j hj => ?_) ((cl_both hg).mp (cd_iff.mpr hc)) 16
    rw [Nat.testBit_two_pow, decide_eq_true_eq] at hj
    rw [← hj]; exact hT
  · exact clI_b hg hf h2i 16
theorem cl_sym {g : GD} (hg : g ∈ gAll) {b i j : Nat} (hi : i < gSz g) (hj : j < gSz g) (h : (clR g b i).testBit j = true) : clR g b j = clR g b i := by
  have h16 := (gAll_b g hg).2.2.1
  obtain ⟨a1, a2, a3, a4⟩ := clR_props (b := b) hg hi
  obtain ⟨c1, c2, c3, c4⟩ := clR_props (b := b) hg hj
  have h1 : sub (clR g b j) (clR g b i) := c3 _ h a1
  have hij : (clR g b j).testBit i = true := by
    cases q : (clR g b j).testBit i with
    | true => rfl
    | false =>
      exfalso
      have hcd : cd g b (clR g b i &&& (clR g b j ^^^ 4294967295)) := by
        intro t ht e he hb
        have hb2 := gTo_b g hg t ht e he
        rw [andn_bit _ _ _ (by omega), andn_bit _ _ _ (by omega), a1 t ht e he hb, c1 t ht e he hb]
      have := a3 _ (by rw [andn_bit _ _ _ (by omega), a2, q]; rfl) hcd j h
      rw [andn_bit _ _ _ (by omega), c2] at this
      simp at this
  exact sub_anti h1 (a3 _ hij c1)
def lst (g : GD) (b i : Nat) : Bool := decide (clR g b i &&& (2 ^ i - 1) = 0)
theorem lst_iff {g : GD} {b i : Nat} : lst g b i = true ↔ ∀ j, j < i → (clR g b i).testBit j = false := by
  unfold lst
  rw [decide_eq_true_eq]
  constructor
  · intro h j hj
    have := congrArg (fun x => Nat.testBit x j) h
    simp [Nat.testBit_and, Nat.testBit_two_pow_sub_one, hj] at this
    exact this
  · intro h
    apply Nat.eq_of_testBit_eq
    intro j
    rw [Nat.testBit_and, Nat.testBit_two_pow_sub_one, Nat.zero_testBit]
    by_cases hj : j < i
    · rw [h j hj]; rfl
    · simp [hj]
section CLCOUNT
variable {σ : XS} {I : Nat → Nat → Int32} {g : GD}
theorem clusters11_ok (hS : Shp σ) (hG : GRD I g) {b : Nat} (hb : b < 65536) : f_X3_countClusters (xw σ I) 11 (nI b) = some (nI (fb_ct (lst g b) (gSz g))) := by
  have hg := hG.1
  have h16 := (gAll_b g hg).2.2.1
  unfold f_X3_countClusters
  have key : ∃ r, xloop (f_X3_countClusters_b7 (xw σ I) 11 (nI b)) (nI 0, nI 0, nI 0) = some r ∧ r = nI (fb_ct (lst g b) (gSz g)) := by
    refine xforI (fun i x => ∃ S, x = (nI S, nI (fb_ct (lst g b) i), nI i) ∧ S < 65536 ∧ ∀ t, S.testBit t = true ↔ ∃ j, j < i ∧ (clR g b j).testBit t = true) (gSz g) ⟨0, rfl, by decide, fun t => by rw [Nat.zero_testBit]; constructor; intro h; cases h; rintro ⟨j, hj, _⟩; omega⟩ ?_ ?_
    · rintro i x hi ⟨S, rfl, hS1, hS2⟩
      obtain ⟨a1, a2, a3, a4⟩ := clR_props (b := b) hg hi
      simp only [f_X3_countClusters_b7]
      simp (disch := first | assumption | omega) only [Option.bind_some, Option.map_some, xw_gR, xw_gN, xw_al, xw_ck, xw_uI, xw_ur, xup_at, xur_at, if_true, if_false, reduceIte, and_true, true_and, and_false, false_and, not_true_eq_false, not_false_eq_true, Nat.reduceEqDiff, eq_self, Nat.reduceAdd, Nat.reduceMul, kC1, kG1, kP1, kR1_0, kR1_1, kR1_2, kR1_3, kR1_4, kR1_5, kR1_6, kR1_7, kR1_8, kR1_9, kR1_10, kR1_11, kR1_12, kR1_13, kC2, kG2, kP2, kR2_0, kR2_1, kC3, kG3, kP3, kR3_0, kR3_1, kR3_2, kR3_3, kL4, kA4, kS4, kL5, kA5, kS5, kL6, kA6, kS6, kL7, kA7, kS7, kC8, kG8, kP8, kR8_0, kR8_1, kL9, kA9, kS9, kL10, kA10, kS10, kC11, kG11, kP11, kR11_0, kR11_1, kR11_2, kR11_3, kL12, kA12, kS12, kL13, kA13, kS13, kL14, kA14, kS14, kL15, kA15, kS15, kC16, kG16, kP16, kR16_0, kR16_1, kL17, kA17, kS17, kL18, kA18, kS18, kC19, kG19, kP19, kR19_0, kL20, kL141, kL146, kA146, kS146, kL151, kA151, kS151, kL156, kA156, kS156, kC157, kG157, kP157, kR157_0, kR157_1, kL158, kA158, kS158, kL159, kA159, kS159, kC161, kG161, kP161, kR161_0, kR161_1, kL162, kA162, kS162, kL163, kA163, kS163, kC165, kG165, kP165, kR165_0, kR165_1, kR165_2, kR165_3, kL166, kA166, kS166, kL167, kA167, kS167, kL168, kA168, kS168, kL169, kA169, kS169, kC170, kG170, kP170, kR170_0, kR170_1, kR170_2, kL171, kA171, kS171, kL172, kA172, kS172, kL173, kA173, kS173, kC174, kG174, kP174, kR174_0, kR174_1, kR174_2, kR174_3, kR174_4, kL175, kA175, kS175, kL176, kA176, kS176, kL177, kA177, kS177, kL178, kA178, kS178, kL179, kC180, kG180, kP180, kL181, kL182, kA182, kS182, kC183, kG183, kP183, kR183_1, kR183_3, kR183_5, kR183_6, kR183_7, kR183_8, kR183_9, kR183_21, kR183_26, kR183_27, kR183_30, kR183_31, kR183_33, kR183_34, kR183_36, kR183_37, kR183_38, kR183_39, kR183_40, kR183_41, kR183_42, kR183_43, kR183_44, kL184, kA184, kS184, kL185, kA185, kS185, kL186, kA186, kS186, kL187, kA187, kS187, kL188, kA188, kS188, kL189, kL190, kL191, kA191, kS191, kL192, kA192, kS192, kL193, kA193, kS193, kL194, kA194, kS194, kL195, kA195, kS195, kL196, kA196, kS196, kL197, kA197, kS197, kL198, kA198, kS198, kL199, kA199, kS199, kL200, kA200, kS200, kL201, kL202, kA202, kS202, kL203, kA203, kS203, kL204, kA204, kS204, kL205, kL206, kA206, kS206, hG.2.2.2.2.1, nn_le, show ¬ (gSz g ≤ i) by omega, bitOf_ok (show S < 2147483648 by omega) (show i < 32 by omega), bI_0, (cluster_two hS hG hb hi).1, fa_or]
      rw [← nI_succ, ← nI_succ]
      cases hq : S.testBit i with
      | false =>
        have hno : ∀ j, j < i → (clR g b i).testBit j = false := by
          intro j hj
          cases q : (clR g b i).testBit j with
          | false => rfl
          | true =>
            have e := cl_sym hg hi (show j < gSz g by omega) q
            have := (hS2 i).mpr ⟨j, hj, by rw [e]; exact a2⟩
            rw [hq] at this; cases this
        have hl : lst g b i = true := lst_iff.mpr hno
        rw [if_pos rfl]
        refine ⟨_, rfl, S ||| clR g b i, by rw [fb_ct_succ, hl]; rfl, Nat.or_lt_two_pow (n := 16) hS1 a4, fun t => ?_⟩
        rw [Nat.testBit_or, Bool.or_eq_true, hS2]
        constructor
        · rintro (⟨j, h1, h2⟩ | h)
          · exact ⟨j, by omega, h2⟩
          · exact ⟨i, by omega, h⟩
        · rintro ⟨j, h1, h2⟩
          by_cases z : j = i
          · right; rw [← z]; exact h2
          · left; exact ⟨j, by omega, h2⟩
      | true =>
        obtain ⟨j, hj, hj2⟩ := (hS2 i).mp hq
        have e := cl_sym hg (show j < gSz g by omega) hi hj2
        have hl : lst g b i = false := by
          cases q : lst g b i with
          | false => rfl
          | true =>
            have := lst_iff.mp q j hj
            rw [e, (clR_props (b := b) hg (show j < gSz g by omega)).2.1] at this
            cases this
        rw [if_neg (by decide)]
        refine ⟨_, rfl, S, by rw [fb_ct_succ, hl]; rfl, hS1, fun t => ?_⟩
        rw [hS2]
        constructor
        · rintro ⟨k, h1, h2⟩; exact ⟨k, by omega, h2⟩
        · rintro ⟨k, h1, h2⟩
          by_cases z : k = i
          · rw [z, e] at h2; exact ⟨j, hj, h2⟩
          · exact ⟨k, by omega, h2⟩
    · rintro x ⟨S, rfl, hS1, hS2⟩
      refine ⟨_, ?_, rfl⟩
      simp only [f_X3_countClusters_b7]
      simp (disch := first | assumption | omega) only [Option.bind_some, Option.map_some, xw_gR, xw_gN, xw_al, xw_ck, xw_uI, xw_ur, xup_at, xur_at, if_true, if_false, reduceIte, and_true, true_and, and_false, false_and, not_true_eq_false, not_false_eq_true, Nat.reduceEqDiff, eq_self, Nat.reduceAdd, Nat.reduceMul, kC1, kG1, kP1, kR1_0, kR1_1, kR1_2, kR1_3, kR1_4, kR1_5, kR1_6, kR1_7, kR1_8, kR1_9, kR1_10, kR1_11, kR1_12, kR1_13, kC2, kG2, kP2, kR2_0, kR2_1, kC3, kG3, kP3, kR3_0, kR3_1, kR3_2, kR3_3, kL4, kA4, kS4, kL5, kA5, kS5, kL6, kA6, kS6, kL7, kA7, kS7, kC8, kG8, kP8, kR8_0, kR8_1, kL9, kA9, kS9, kL10, kA10, kS10, kC11, kG11, kP11, kR11_0, kR11_1, kR11_2, kR11_3, kL12, kA12, kS12, kL13, kA13, kS13, kL14, kA14, kS14, kL15, kA15, kS15, kC16, kG16, kP16, kR16_0, kR16_1, kL17, kA17, kS17, kL18, kA18, kS18, kC19, kG19, kP19, kR19_0, kL20, kL141, kL146, kA146, kS146, kL151, kA151, kS151, kL156, kA156, kS156, kC157, kG157, kP157, kR157_0, kR157_1, kL158, kA158, kS158, kL159, kA159, kS159, kC161, kG161, kP161, kR161_0, kR161_1, kL162, kA162, kS162, kL163, kA163, kS163, kC165, kG165, kP165, kR165_0, kR165_1, kR165_2, kR165_3, kL166, kA166, kS166, kL167, kA167, kS167, kL168, kA168, kS168, kL169, kA169, kS169, kC170, kG170, kP170, kR170_0, kR170_1, kR170_2, kL171, kA171, kS171, kL172, kA172, kS172, kL173, kA173, kS173, kC174, kG174, kP174, kR174_0, kR174_1, kR174_2, kR174_3, kR174_4, kL175, kA175, kS175, kL176, kA176, kS176, kL177, kA177, kS177, kL178, kA178, kS178, kL179, kC180, kG180, kP180, kL181, kL182, kA182, kS182, kC183, kG183, kP183, kR183_1, kR183_3, kR183_5, kR183_6, kR183_7, kR183_8, kR183_9, kR183_21, kR183_26, kR183_27, kR183_30, kR183_31, kR183_33, kR183_34, kR183_36, kR183_37, kR183_38, kR183_39, kR183_40, kR183_41, kR183_42, kR183_43, kR183_44, kL184, kA184, kS184, kL185, kA185, kS185, kL186, kA186, kS186, kL187, kA187, kS187, kL188, kA188, kS188, kL189, kL190, kL191, kA191, kS191, kL192, kA192, kS192, kL193, kA193, kS193, kL194, kA194, kS194, kL195, kA195, kS195, kL196, kA196, kS196, kL197, kA197, kS197, kL198, kA198, kS198, kL199, kA199, kS199, kL200, kA200, kS200, kL201, kL202, kA202, kS202, kL203, kA203, kS203, kL204, kA204, kS204, kL205, kL206, kA206, kS206, hG.2.2.2.2.1, nn_le, Nat.le_refl]
  obtain ⟨r, h1, h2⟩ := key
  rw [← h2]
  exact h1
theorem clusters12_ok (hS : Shp σ) (hG : GRD I g) {b : Nat} (h64 : I 191 64 = nI b) (hb : b < 65536) : f_X12_clusters (xw σ I) 183 = some (nI (fb_ct (lst g b) (gSz g))) := by
  have hg := hG.1
  have h16 := (gAll_b g hg).2.2.1
  unfold f_X12_clusters
  refine xforE (fun i : Nat => (nI (fb_ct (lst g b) i), nI i)) (gSz g) rfl (fun i hi => ?_) ?_
  · simp only [f_X12_clusters_b4]
    obtain ⟨c1, c2, c3⟩ := cluster_two (σ := σ) (I := I) hS hG hb hi
    have e1 : nI (2 ^ i) - (1 : Int32) = nI (2 ^ i - 1) := by rw [show (1 : Int32) = nI 1 from rfl, nn_sub (Nat.two_pow_pos i)]
    have hlt : clR g b i &&& (2 ^ i - 1) < 65536 := Nat.lt_of_le_of_lt Nat.and_le_left c3
    have e2 : (nI (clR g b i &&& (2 ^ i - 1)) = 0) = (clR g b i &&& (2 ^ i - 1) = 0) := nn_eq (b := 0) (by omega) (by decide)
    simp (disch := first | assumption | omega) only [Option.bind_some, Option.map_some, xw_gR, xw_gN, xw_al, xw_ck, xw_uI, xw_ur, xup_at, xur_at, if_true, if_false, reduceIte, and_true, true_and, and_false, false_and, not_true_eq_false, not_false_eq_true, Nat.reduceEqDiff, eq_self, Nat.reduceAdd, Nat.reduceMul, kC1, kG1, kP1, kR1_0, kR1_1, kR1_2, kR1_3, kR1_4, kR1_5, kR1_6, kR1_7, kR1_8, kR1_9, kR1_10, kR1_11, kR1_12, kR1_13, kC2, kG2, kP2, kR2_0, kR2_1, kC3, kG3, kP3, kR3_0, kR3_1, kR3_2, kR3_3, kL4, kA4, kS4, kL5, kA5, kS5, kL6, kA6, kS6, kL7, kA7, kS7, kC8, kG8, kP8, kR8_0, kR8_1, kL9, kA9, kS9, kL10, kA10, kS10, kC11, kG11, kP11, kR11_0, kR11_1, kR11_2, kR11_3, kL12, kA12, kS12, kL13, kA13, kS13, kL14, kA14, kS14, kL15, kA15, kS15, kC16, kG16, kP16, kR16_0, kR16_1, kL17, kA17, kS17, kL18, kA18, kS18, kC19, kG19, kP19, kR19_0, kL20, kL141, kL146, kA146, kS146, kL151, kA151, kS151, kL156, kA156, kS156, kC157, kG157, kP157, kR157_0, kR157_1, kL158, kA158, kS158, kL159, kA159, kS159, kC161, kG161, kP161, kR161_0, kR161_1, kL162, kA162, kS162, kL163, kA163, kS163, kC165, kG165, kP165, kR165_0, kR165_1, kR165_2, kR165_3, kL166, kA166, kS166, kL167, kA167, kS167, kL168, kA168, kS168, kL169, kA169, kS169, kC170, kG170, kP170, kR170_0, kR170_1, kR170_2, kL171, kA171, kS171, kL172, kA172, kS172, kL173, kA173, kS173, kC174, kG174, kP174, kR174_0, kR174_1, kR174_2, kR174_3, kR174_4, kL175, kA175, kS175, kL176, kA176, kS176, kL177, kA177, kS177, kL178, kA178, kS178, kL179, kC180, kG180, kP180, kL181, kL182, kA182, kS182, kC183, kG183, kP183, kR183_1, kR183_3, kR183_5, kR183_6, kR183_7, kR183_8, kR183_9, kR183_21, kR183_26, kR183_27, kR183_30, kR183_31, kR183_33, kR183_34, kR183_36, kR183_37, kR183_38, kR183_39, kR183_40, kR183_41, kR183_42, kR183_43, kR183_44, kL184, kA184, kS184, kL185, kA185, kS185, kL186, kA186, kS186, kL187, kA187, kS187, kL188, kA188, kS188, kL189, kL190, kL191, kA191, kS191, kL192, kA192, kS192, kL193, kA193, kS193, kL194, kA194, kS194, kL195, kA195, kS195, kL196, kA196, kS196, kL197, kA197, kS197, kL198, kA198, kS198, kL199, kA199, kS199, kL200, kA200, kS200, kL201, kL202, kA202, kS202, kL203, kA203, kS203, kL204, kA204, kS204, kL205, kL206, kA206, kS206, sites_ok hS hG, nn_le, show ¬ (gSz g ≤ i) by omega, c2 h64, nn_one, e1, fa_and, e2]
    rw [fb_ct_succ, ← nI_succ, ← nI_succ]
    have hl : lst g b i = decide (clR g b i &&& (2 ^ i - 1) = 0) := rfl
    rw [hl]
    by_cases z : clR g b i &&& (2 ^ i - 1) = 0
    · rw [if_pos z, decide_eq_true z]; rfl
    · rw [if_neg z, decide_eq_false z]; rfl
  · simp only [f_X12_clusters_b4]
    simp (disch := first | assumption | omega) only [Option.bind_some, Option.map_some, xw_gR, xw_gN, xw_al, xw_ck, xw_uI, xw_ur, xup_at, xur_at, if_true, if_false, reduceIte, and_true, true_and, and_false, false_and, not_true_eq_false, not_false_eq_true, Nat.reduceEqDiff, eq_self, Nat.reduceAdd, Nat.reduceMul, kC1, kG1, kP1, kR1_0, kR1_1, kR1_2, kR1_3, kR1_4, kR1_5, kR1_6, kR1_7, kR1_8, kR1_9, kR1_10, kR1_11, kR1_12, kR1_13, kC2, kG2, kP2, kR2_0, kR2_1, kC3, kG3, kP3, kR3_0, kR3_1, kR3_2, kR3_3, kL4, kA4, kS4, kL5, kA5, kS5, kL6, kA6, kS6, kL7, kA7, kS7, kC8, kG8, kP8, kR8_0, kR8_1, kL9, kA9, kS9, kL10, kA10, kS10, kC11, kG11, kP11, kR11_0, kR11_1, kR11_2, kR11_3, kL12, kA12, kS12, kL13, kA13, kS13, kL14, kA14, kS14, kL15, kA15, kS15, kC16, kG16, kP16, kR16_0, kR16_1, kL17, kA17, kS17, kL18, kA18, kS18, kC19, kG19, kP19, kR19_0, kL20, kL141, kL146, kA146, kS146, kL151, kA151, kS151, kL156, kA156, kS156, kC157, kG157, kP157, kR157_0, kR157_1, kL158, kA158, kS158, kL159, kA159, kS159, kC161, kG161, kP161, kR161_0, kR161_1, kL162, kA162, kS162, kL163, kA163, kS163, kC165, kG165, kP165, kR165_0, kR165_1, kR165_2, kR165_3, kL166, kA166, kS166, kL167, kA167, kS167, kL168, kA168, kS168, kL169, kA169, kS169, kC170, kG170, kP170, kR170_0, kR170_1, kR170_2, kL171, kA171, kS171, kL172, kA172, kS172, kL173, kA173, kS173, kC174, kG174, kP174, kR174_0, kR174_1, kR174_2, kR174_3, kR174_4, kL175, kA175, kS175, kL176, kA176, kS176, kL177, kA177, kS177, kL178, kA178, kS178, kL179, kC180, kG180, kP180, kL181, kL182, kA182, kS182, kC183, kG183, kP183, kR183_1, kR183_3, kR183_5, kR183_6, kR183_7, kR183_8, kR183_9, kR183_21, kR183_26, kR183_27, kR183_30, kR183_31, kR183_33, kR183_34, kR183_36, kR183_37, kR183_38, kR183_39, kR183_40, kR183_41, kR183_42, kR183_43, kR183_44, kL184, kA184, kS184, kL185, kA185, kS185, kL186, kA186, kS186, kL187, kA187, kS187, kL188, kA188, kS188, kL189, kL190, kL191, kA191, kS191, kL192, kA192, kS192, kL193, kA193, kS193, kL194, kA194, kS194, kL195, kA195, kS195, kL196, kA196, kS196, kL197, kA197, kS197, kL198, kA198, kS198, kL199, kA199, kS199, kL200, kA200, kS200, kL201, kL202, kA202, kS202, kL203, kA203, kS203, kL204, kA204, kS204, kL205, kL206, kA206, kS206, sites_ok hS hG, nn_le, Nat.le_refl]
def mxC (g : GD) (b : Nat) : Nat → Nat
  | 0 => 0
  | i + 1 => max (mxC g b i) (pC (clR g b i))
theorem mxC_b (g : GD) (b : Nat) : ∀ i, mxC g b i ≤ 16
  | 0 => Nat.zero_le _
  | i + 1 => by
    have := mxC_b g b i
    have := pC_16 (clR g b i)
    rw [mxC]; omega
theorem xmax_n {a b : Nat} (ha : a < 2147483648) (hb : b < 2147483648) : xmax (nI a) (nI b) = nI (max a b) := by
  unfold xmax
  simp only [nn_lt ha hb]
  by_cases h : a < b
  · rw [if_pos h, Nat.max_eq_right (by omega)]
  · rw [if_neg h, Nat.max_eq_left (by omega)]
theorem greatest11_ok (hS : Shp σ) (hG : GRD I g) {b : Nat} (hb : b < 65536) : f_X3_greatestCluster (xw σ I) 11 (nI b) = some (nI (mxC g b (gSz g))) := by
  have hg := hG.1
  have h16 := (gAll_b g hg).2.2.1
  unfold f_X3_greatestCluster
  refine xforE (fun i : Nat => (nI (mxC g b i), nI i)) (gSz g) rfl (fun i hi => ?_) ?_
  · simp only [f_X3_greatestCluster_b4]
    obtain ⟨c1, c2, c3⟩ := cluster_two (σ := σ) (I := I) hS hG hb hi
    have m1 := mxC_b g b i
    have p1 := pC_16 (clR g b i)
    obtain ⟨r, hr⟩ : ∃ r, r = pC (clR g b i) := ⟨_, rfl⟩
    obtain ⟨m0, hm0⟩ : ∃ m0, m0 = mxC g b i := ⟨_, rfl⟩
    have bc := bitCount_ok c3
    have e1 : mxC g b (i + 1) = max m0 r := by rw [mxC, ← hr, ← hm0]
    rw [← hr] at bc p1
    rw [← hm0] at m1
    rw [e1, ← hm0]
    obtain ⟨C, hC⟩ : ∃ C, C = clR g b i := ⟨_, rfl⟩
    rw [← hC] at bc c1
    rw [xw_gI (sT11 hS), Option.bind_some, hG.2.2.2.2.1, if_neg (by rw [nn_le (by omega) (by omega)]; omega), xw_ck, xck_ok (sT11 hS), Option.bind_some, c1, Option.bind_some, bc, Option.bind_some, xmax_n (by omega) (by omega), ← nI_succ]
  · simp only [f_X3_greatestCluster_b4]
    simp (disch := first | assumption | omega) only [Option.bind_some, Option.map_some, xw_gR, xw_gN, xw_al, xw_ck, xw_uI, xw_ur, xup_at, xur_at, if_true, if_false, reduceIte, and_true, true_and, and_false, false_and, not_true_eq_false, not_false_eq_true, Nat.reduceEqDiff, eq_self, Nat.reduceAdd, Nat.reduceMul, kC1, kG1, kP1, kR1_0, kR1_1, kR1_2, kR1_3, kR1_4, kR1_5, kR1_6, kR1_7, kR1_8, kR1_9, kR1_10, kR1_11, kR1_12, kR1_13, kC2, kG2, kP2, kR2_0, kR2_1, kC3, kG3, kP3, kR3_0, kR3_1, kR3_2, kR3_3, kL4, kA4, kS4, kL5, kA5, kS5, kL6, kA6, kS6, kL7, kA7, kS7, kC8, kG8, kP8, kR8_0, kR8_1, kL9, kA9, kS9, kL10, kA10, kS10, kC11, kG11, kP11, kR11_0, kR11_1, kR11_2, kR11_3, kL12, kA12, kS12, kL13, kA13, kS13, kL14, kA14, kS14, kL15, kA15, kS15, kC16, kG16, kP16, kR16_0, kR16_1, kL17, kA17, kS17, kL18, kA18, kS18, kC19, kG19, kP19, kR19_0, kL20, kL141, kL146, kA146, kS146, kL151, kA151, kS151, kL156, kA156, kS156, kC157, kG157, kP157, kR157_0, kR157_1, kL158, kA158, kS158, kL159, kA159, kS159, kC161, kG161, kP161, kR161_0, kR161_1, kL162, kA162, kS162, kL163, kA163, kS163, kC165, kG165, kP165, kR165_0, kR165_1, kR165_2, kR165_3, kL166, kA166, kS166, kL167, kA167, kS167, kL168, kA168, kS168, kL169, kA169, kS169, kC170, kG170, kP170, kR170_0, kR170_1, kR170_2, kL171, kA171, kS171, kL172, kA172, kS172, kL173, kA173, kS173, kC174, kG174, kP174, kR174_0, kR174_1, kR174_2, kR174_3, kR174_4, kL175, kA175, kS175, kL176, kA176, kS176, kL177, kA177, kS177, kL178, kA178, kS178, kL179, kC180, kG180, kP180, kL181, kL182, kA182, kS182, kC183, kG183, kP183, kR183_1, kR183_3, kR183_5, kR183_6, kR183_7, kR183_8, kR183_9, kR183_21, kR183_26, kR183_27, kR183_30, kR183_31, kR183_33, kR183_34, kR183_36, kR183_37, kR183_38, kR183_39, kR183_40, kR183_41, kR183_42, kR183_43, kR183_44, kL184, kA184, kS184, kL185, kA185, kS185, kL186, kA186, kS186, kL187, kA187, kS187, kL188, kA188, kS188, kL189, kL190, kL191, kA191, kS191, kL192, kA192, kS192, kL193, kA193, kS193, kL194, kA194, kS194, kL195, kA195, kS195, kL196, kA196, kS196, kL197, kA197, kS197, kL198, kA198, kS198, kL199, kA199, kS199, kL200, kA200, kS200, kL201, kL202, kA202, kS202, kL203, kA203, kS203, kL204, kA204, kS204, kL205, kL206, kA206, kS206, hG.2.2.2.2.1, nn_le, Nat.le_refl]
theorem greatest12_ok (hS : Shp σ) (hG : GRD I g) {b : Nat} (h64 : I 191 64 = nI b) (hb : b < 65536) : f_X12_greatest (xw σ I) 183 = some (nI (mxC g b (gSz g))) := by
  have hg := hG.1
  have h16 := (gAll_b g hg).2.2.1
  unfold f_X12_greatest
  refine xforE (fun i : Nat => (nI (mxC g b i), nI i)) (gSz g) rfl (fun i hi => ?_) ?_
  · simp only [f_X12_greatest_b4]
    obtain ⟨c1, c2, c3⟩ := cluster_two (σ := σ) (I := I) hS hG hb hi
    have m1 := mxC_b g b i
    have p1 := pC_16 (clR g b i)
    have hle : (nI (pC (clR g b i)) ≤ nI (mxC g b i)) = (pC (clR g b i) ≤ mxC g b i) := nn_le (by omega) (by omega)
    simp (disch := first | assumption | omega) only [Option.bind_some, Option.map_some, xw_gR, xw_gN, xw_al, xw_ck, xw_uI, xw_ur, xup_at, xur_at, if_true, if_false, reduceIte, and_true, true_and, and_false, false_and, not_true_eq_false, not_false_eq_true, Nat.reduceEqDiff, eq_self, Nat.reduceAdd, Nat.reduceMul, kC1, kG1, kP1, kR1_0, kR1_1, kR1_2, kR1_3, kR1_4, kR1_5, kR1_6, kR1_7, kR1_8, kR1_9, kR1_10, kR1_11, kR1_12, kR1_13, kC2, kG2, kP2, kR2_0, kR2_1, kC3, kG3, kP3, kR3_0, kR3_1, kR3_2, kR3_3, kL4, kA4, kS4, kL5, kA5, kS5, kL6, kA6, kS6, kL7, kA7, kS7, kC8, kG8, kP8, kR8_0, kR8_1, kL9, kA9, kS9, kL10, kA10, kS10, kC11, kG11, kP11, kR11_0, kR11_1, kR11_2, kR11_3, kL12, kA12, kS12, kL13, kA13, kS13, kL14, kA14, kS14, kL15, kA15, kS15, kC16, kG16, kP16, kR16_0, kR16_1, kL17, kA17, kS17, kL18, kA18, kS18, kC19, kG19, kP19, kR19_0, kL20, kL141, kL146, kA146, kS146, kL151, kA151, kS151, kL156, kA156, kS156, kC157, kG157, kP157, kR157_0, kR157_1, kL158, kA158, kS158, kL159, kA159, kS159, kC161, kG161, kP161, kR161_0, kR161_1, kL162, kA162, kS162, kL163, kA163, kS163, kC165, kG165, kP165, kR165_0, kR165_1, kR165_2, kR165_3, kL166, kA166, kS166, kL167, kA167, kS167, kL168, kA168, kS168, kL169, kA169, kS169, kC170, kG170, kP170, kR170_0, kR170_1, kR170_2, kL171, kA171, kS171, kL172, kA172, kS172, kL173, kA173, kS173, kC174, kG174, kP174, kR174_0, kR174_1, kR174_2, kR174_3, kR174_4, kL175, kA175, kS175, kL176, kA176, kS176, kL177, kA177, kS177, kL178, kA178, kS178, kL179, kC180, kG180, kP180, kL181, kL182, kA182, kS182, kC183, kG183, kP183, kR183_1, kR183_3, kR183_5, kR183_6, kR183_7, kR183_8, kR183_9, kR183_21, kR183_26, kR183_27, kR183_30, kR183_31, kR183_33, kR183_34, kR183_36, kR183_37, kR183_38, kR183_39, kR183_40, kR183_41, kR183_42, kR183_43, kR183_44, kL184, kA184, kS184, kL185, kA185, kS185, kL186, kA186, kS186, kL187, kA187, kS187, kL188, kA188, kS188, kL189, kL190, kL191, kA191, kS191, kL192, kA192, kS192, kL193, kA193, kS193, kL194, kA194, kS194, kL195, kA195, kS195, kL196, kA196, kS196, kL197, kA197, kS197, kL198, kA198, kS198, kL199, kA199, kS199, kL200, kA200, kS200, kL201, kL202, kA202, kS202, kL203, kA203, kS203, kL204, kA204, kS204, kL205, kL206, kA206, kS206, sites_ok hS hG, nn_le, show ¬ (gSz g ≤ i) by omega, c2 h64, bitsOf_ok c3]
    rw [← nI_succ, mxC]
    by_cases z : pC (clR g b i) ≤ mxC g b i
    · rw [if_pos z, show max (mxC g b i) (pC (clR g b i)) = mxC g b i by omega]
    · rw [if_neg z, show max (mxC g b i) (pC (clR g b i)) = pC (clR g b i) by omega]
  · simp only [f_X12_greatest_b4]
    simp (disch := first | assumption | omega) only [Option.bind_some, Option.map_some, xw_gR, xw_gN, xw_al, xw_ck, xw_uI, xw_ur, xup_at, xur_at, if_true, if_false, reduceIte, and_true, true_and, and_false, false_and, not_true_eq_false, not_false_eq_true, Nat.reduceEqDiff, eq_self, Nat.reduceAdd, Nat.reduceMul, kC1, kG1, kP1, kR1_0, kR1_1, kR1_2, kR1_3, kR1_4, kR1_5, kR1_6, kR1_7, kR1_8, kR1_9, kR1_10, kR1_11, kR1_12, kR1_13, kC2, kG2, kP2, kR2_0, kR2_1, kC3, kG3, kP3, kR3_0, kR3_1, kR3_2, kR3_3, kL4, kA4, kS4, kL5, kA5, kS5, kL6, kA6, kS6, kL7, kA7, kS7, kC8, kG8, kP8, kR8_0, kR8_1, kL9, kA9, kS9, kL10, kA10, kS10, kC11, kG11, kP11, kR11_0, kR11_1, kR11_2, kR11_3, kL12, kA12, kS12, kL13, kA13, kS13, kL14, kA14, kS14, kL15, kA15, kS15, kC16, kG16, kP16, kR16_0, kR16_1, kL17, kA17, kS17, kL18, kA18, kS18, kC19, kG19, kP19, kR19_0, kL20, kL141, kL146, kA146, kS146, kL151, kA151, kS151, kL156, kA156, kS156, kC157, kG157, kP157, kR157_0, kR157_1, kL158, kA158, kS158, kL159, kA159, kS159, kC161, kG161, kP161, kR161_0, kR161_1, kL162, kA162, kS162, kL163, kA163, kS163, kC165, kG165, kP165, kR165_0, kR165_1, kR165_2, kR165_3, kL166, kA166, kS166, kL167, kA167, kS167, kL168, kA168, kS168, kL169, kA169, kS169, kC170, kG170, kP170, kR170_0, kR170_1, kR170_2, kL171, kA171, kS171, kL172, kA172, kS172, kL173, kA173, kS173, kC174, kG174, kP174, kR174_0, kR174_1, kR174_2, kR174_3, kR174_4, kL175, kA175, kS175, kL176, kA176, kS176, kL177, kA177, kS177, kL178, kA178, kS178, kL179, kC180, kG180, kP180, kL181, kL182, kA182, kS182, kC183, kG183, kP183, kR183_1, kR183_3, kR183_5, kR183_6, kR183_7, kR183_8, kR183_9, kR183_21, kR183_26, kR183_27, kR183_30, kR183_31, kR183_33, kR183_34, kR183_36, kR183_37, kR183_38, kR183_39, kR183_40, kR183_41, kR183_42, kR183_43, kR183_44, kL184, kA184, kS184, kL185, kA185, kS185, kL186, kA186, kS186, kL187, kA187, kS187, kL188, kA188, kS188, kL189, kL190, kL191, kA191, kS191, kL192, kA192, kS192, kL193, kA193, kS193, kL194, kA194, kS194, kL195, kA195, kS195, kL196, kA196, kS196, kL197, kA197, kS197, kL198, kA198, kS198, kL199, kA199, kS199, kL200, kA200, kS200, kL201, kL202, kA202, kS202, kL203, kA203, kS203, kL204, kA204, kS204, kL205, kL206, kA206, kS206, sites_ok hS hG, nn_le, Nat.le_refl]
end CLCOUNT
