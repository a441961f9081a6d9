section
/-! overlap -/
/-- the j-th place with p below N -/
def kth (p : Nat → Bool) (N j : Nat) : Nat := fa_first (fun s => p s && decide (fb_ct p s = j)) N
theorem kth_of {p : Nat → Bool} {N s : Nat} (hs : s < N) (hp : p s = true) : kth p N (fb_ct p s) = s := by
  unfold kth
  have h1 : fa_first (fun t => p t && decide (fb_ct p t = fb_ct p s)) N < N := by
    rcases Nat.lt_or_ge (fa_first (fun t => p t && decide (fb_ct p t = fb_ct p s)) N) N with h | h
    · exact h
    · have := fa_first_no (fun t => p t && decide (fb_ct p t = fb_ct p s)) N s (by omega)
      simp [hp] at this
  have h2 := fa_first_yes (fun t => p t && decide (fb_ct p t = fb_ct p s)) N h1
  simp only [Bool.and_eq_true, decide_eq_true_eq] at h2
  exact fb_ct_kth_one h2.1 hp h2.2
theorem kth_b {p : Nat → Bool} {N j : Nat} (h : j < fb_ct p N) : kth p N j < N ∧ p (kth p N j) = true ∧ fb_ct p (kth p N j) = j := by
  obtain ⟨s, h1, h2, h3⟩ := fb_ct_kth h
  have := kth_of h1 h2
  rw [h3] at this
  rw [this]
  exact ⟨h1, h2, h3⟩
/-- pairs of the first a ground states that are alike in so much -/
def ovP (G : Nat → Nat) (x : Int32) (a b : Nat) : Bool := decide (nI (pC (G a ^^^ G b)) = x)
def ovC (G : Nat → Nat) (x : Int32) (a : Nat) : Nat := fb_sm (fun a => fb_ct (ovP G x a) a) a
theorem op_overlap : Op_overlap INV := by
  intro n σ hn ⟨g, gT, gP, st, H⟩ x
  obtain ⟨τ, I', e1, e2, H1, H2, hS, hG1, hG2, ho, hSR, hE, hL, hK, r1, r2, u1, u2⟩ := both_ready (by omega) H
  have hg := hG1.1
  have h16 := (gAll_b g hg).2.2.1
  have hSt := (gSt_b hg).1
  obtain ⟨F, hF⟩ : ∃ F, F = xI σ 191 := ⟨_, rfl⟩
  rw [← hF] at ho hSR hE hL hK
  have hlb := lvN_b g F
  obtain ⟨c, a, hEn, ha, hcn⟩ := H1.en157
  have hEb := hEn.b
  have A : f_X11_overlap σ 1 x = f_X11_overlap_j4 (xw τ (xI τ)) 1 x 165 := by
    unfold f_X11_overlap
    rw [xck_ok (sT1 H.shp), Option.bind_some, e1, Option.bind_some]
    dsimp only
    rw [xnz_ok (by decide), Option.bind_some]
    rfl
  have x16 : ∀ s t, s < 65536 → t < 65536 → s ^^^ t < 65536 := fun s t h1 h2 => Nat.xor_lt_two_pow (n := 16) h1 h2
  by_cases h0 : lvN g F = 0
  · refine ⟨0, τ, xw τ I', ?_, ?_, INV_i H2.nop⟩
    · rw [A]
      unfold f_X11_overlap_j4
      simp (disch := first | assumption | omega) only [Option.bind_some, Option.map_some, xw_gR, xw_gN, xw_al, xw_ck, xw_uI, xw_ur, xup_at, xur_at, if_true, if_false, reduceIte, and_true, true_and, and_false, false_and, not_true_eq_false, not_false_eq_true, Nat.reduceEqDiff, eq_self, Nat.reduceAdd, Nat.reduceMul, kC1, kG1, kP1, kR1_0, kR1_1, kR1_2, kR1_3, kR1_4, kR1_5, kR1_6, kR1_7, kR1_8, kR1_9, kR1_10, kR1_11, kR1_12, kR1_13, kC2, kG2, kP2, kR2_0, kR2_1, kC3, kG3, kP3, kR3_0, kR3_1, kR3_2, kR3_3, kL4, kA4, kS4, kL5, kA5, kS5, kL6, kA6, kS6, kL7, kA7, kS7, kC8, kG8, kP8, kR8_0, kR8_1, kL9, kA9, kS9, kL10, kA10, kS10, kC11, kG11, kP11, kR11_0, kR11_1, kR11_2, kR11_3, kL12, kA12, kS12, kL13, kA13, kS13, kL14, kA14, kS14, kL15, kA15, kS15, kC16, kG16, kP16, kR16_0, kR16_1, kL17, kA17, kS17, kL18, kA18, kS18, kC19, kG19, kP19, kR19_0, kL20, kL141, kL146, kA146, kS146, kL151, kA151, kS151, kL156, kA156, kS156, kC157, kG157, kP157, kR157_0, kR157_1, kL158, kA158, kS158, kL159, kA159, kS159, kC161, kG161, kP161, kR161_0, kR161_1, kL162, kA162, kS162, kL163, kA163, kS163, kC165, kG165, kP165, kR165_0, kR165_1, kR165_2, kR165_3, kL166, kA166, kS166, kL167, kA167, kS167, kL168, kA168, kS168, kL169, kA169, kS169, kC170, kG170, kP170, kR170_0, kR170_1, kR170_2, kL171, kA171, kS171, kL172, kA172, kS172, kL173, kA173, kS173, kC174, kG174, kP174, kR174_0, kR174_1, kR174_2, kR174_3, kR174_4, kL175, kA175, kS175, kL176, kA176, kS176, kL177, kA177, kS177, kL178, kA178, kS178, kL179, kC180, kG180, kP180, kL181, kL182, kA182, kS182, kC183, kG183, kP183, kR183_1, kR183_3, kR183_5, kR183_6, kR183_7, kR183_8, kR183_9, kR183_21, kR183_26, kR183_27, kR183_30, kR183_31, kR183_33, kR183_34, kR183_36, kR183_37, kR183_38, kR183_39, kR183_40, kR183_41, kR183_42, kR183_43, kR183_44, kL184, kA184, kS184, kL185, kA185, kS185, kL186, kA186, kS186, kL187, kA187, kS187, kL188, kA188, kS188, kL189, kL190, kL191, kA191, kS191, kL192, kA192, kS192, kL193, kA193, kS193, kL194, kA194, kS194, kL195, kA195, kS195, kL196, kA196, kS196, kL197, kA197, kS197, kL198, kA198, kS198, kL199, kA199, kS199, kL200, kA200, kS200, kL201, kL202, kA202, kS202, kL203, kA203, kS203, kL204, kA204, kS204, kL205, kL206, kA206, kS206, hL.2.2.2.1, h0, n00]
      rfl
    · unfold f_X12_overlap
      rw [xck_ok (sT183 hS), Option.bind_some, e2, Option.bind_some]
      simp (disch := first | assumption | omega) only [Option.bind_some, Option.map_some, xw_gR, xw_gN, xw_al, xw_ck, xw_uI, xw_ur, xup_at, xur_at, if_true, if_false, reduceIte, and_true, true_and, and_false, false_and, not_true_eq_false, not_false_eq_true, Nat.reduceEqDiff, eq_self, Nat.reduceAdd, Nat.reduceMul, kC1, kG1, kP1, kR1_0, kR1_1, kR1_2, kR1_3, kR1_4, kR1_5, kR1_6, kR1_7, kR1_8, kR1_9, kR1_10, kR1_11, kR1_12, kR1_13, kC2, kG2, kP2, kR2_0, kR2_1, kC3, kG3, kP3, kR3_0, kR3_1, kR3_2, kR3_3, kL4, kA4, kS4, kL5, kA5, kS5, kL6, kA6, kS6, kL7, kA7, kS7, kC8, kG8, kP8, kR8_0, kR8_1, kL9, kA9, kS9, kL10, kA10, kS10, kC11, kG11, kP11, kR11_0, kR11_1, kR11_2, kR11_3, kL12, kA12, kS12, kL13, kA13, kS13, kL14, kA14, kS14, kL15, kA15, kS15, kC16, kG16, kP16, kR16_0, kR16_1, kL17, kA17, kS17, kL18, kA18, kS18, kC19, kG19, kP19, kR19_0, kL20, kL141, kL146, kA146, kS146, kL151, kA151, kS151, kL156, kA156, kS156, kC157, kG157, kP157, kR157_0, kR157_1, kL158, kA158, kS158, kL159, kA159, kS159, kC161, kG161, kP161, kR161_0, kR161_1, kL162, kA162, kS162, kL163, kA163, kS163, kC165, kG165, kP165, kR165_0, kR165_1, kR165_2, kR165_3, kL166, kA166, kS166, kL167, kA167, kS167, kL168, kA168, kS168, kL169, kA169, kS169, kC170, kG170, kP170, kR170_0, kR170_1, kR170_2, kL171, kA171, kS171, kL172, kA172, kS172, kL173, kA173, kS173, kC174, kG174, kP174, kR174_0, kR174_1, kR174_2, kR174_3, kR174_4, kL175, kA175, kS175, kL176, kA176, kS176, kL177, kA177, kS177, kL178, kA178, kS178, kL179, kC180, kG180, kP180, kL181, kL182, kA182, kS182, kC183, kG183, kP183, kR183_1, kR183_3, kR183_5, kR183_6, kR183_7, kR183_8, kR183_9, kR183_21, kR183_26, kR183_27, kR183_30, kR183_31, kR183_33, kR183_34, kR183_36, kR183_37, kR183_38, kR183_39, kR183_40, kR183_41, kR183_42, kR183_43, kR183_44, kL184, kA184, kS184, kL185, kA185, kS185, kL186, kA186, kS186, kL187, kA187, kS187, kL188, kA188, kS188, kL189, kL190, kL191, kA191, kS191, kL192, kA192, kS192, kL193, kA193, kS193, kL194, kA194, kS194, kL195, kA195, kS195, kL196, kA196, kS196, kL197, kA197, kS197, kL198, kA198, kS198, kL199, kA199, kS199, kL200, kA200, kS200, kL201, kL202, kA202, kS202, kL203, kA203, kS203, kL204, kA204, kS204, kL205, kL206, kA206, kS206, hK.2.2.1, h0, n00]
  have hn0 : (nI (lvN g F) = 0) = False := eq_false (nI_ne0 (by omega) (by omega))
  obtain ⟨k, hk, hp, hki⟩ := lv_first (g := g) (F := F) (by omega)
  have q0 : I' 198 0 = iI ((k : Int) - 144) := by rw [← hki]; exact hK.2.2.2 k hk hp
  have hen := energyOf_ok (σ := τ) (J := xI τ) hS hL hk hp
  rw [hki, show nI 0 = (0 : Int32) from rfl] at hen
  have z0 : ∀ J, xaI (xw τ J) 20 198 (0 : Int32) = some (J 198 0) := fun J => kA198 hS (i := 0) (by decide)
  obtain ⟨p, hpd⟩ : ∃ p, p = lE g F ((k : Int) - 144) := ⟨_, rfl⟩
  have hCd : lC g F ((k : Int) - 144) = fb_ct p (gSt g) := by rw [hpd]; rfl
  have hCb := lC_b hg F ((k : Int) - 144)
  by_cases hbig : fb_ct p (gSt g) ≤ 256
  · obtain ⟨G, hGd⟩ : ∃ G, G = kth p (gSt g) := ⟨_, rfl⟩
    have Gof : ∀ s, s < gSt g → p s = true → G (fb_ct p s) = s := fun s h1 h2 => by rw [hGd]; exact kth_of h1 h2
    have Gb : ∀ j, j < fb_ct p (gSt g) → G j < gSt g := fun j h => by rw [hGd]; exact (kth_b h).1
    have hle : ∀ s, s ≤ gSt g → fb_ct p s ≤ fb_ct p (gSt g) := fun s h => fb_ct_mono p h
    have hle256 : (nI (fb_ct p (gSt g)) ≤ (256 : Int32)) = True := by
      rw [show (256 : Int32) = nI 256 from rfl, nn_le (by omega) (by omega)]; exact eq_true hbig
    -- the class's list
    have list : ∃ Q, f_X11_listGround (xw τ (xI τ)) 1 (iI ((k : Int) - 144)) = some (nI (fb_ct p (gSt g)), xw τ Q) ∧ (∀ j, j < fb_ct p (gSt g) → Q 182 j = nI (G j)) ∧ ∀ a j, a ≠ 182 → Q a j = xI τ a j := by
      unfold f_X11_listGround
      simp (disch := first | assumption | omega) only [Option.bind_some, Option.map_some, xw_gR, xw_gN, xw_al, xw_ck, xw_uI, xw_ur, xup_at, xur_at, if_true, if_false, reduceIte, and_true, true_and, and_false, false_and, not_true_eq_false, not_false_eq_true, Nat.reduceEqDiff, eq_self, Nat.reduceAdd, Nat.reduceMul, kC1, kG1, kP1, kR1_0, kR1_1, kR1_2, kR1_3, kR1_4, kR1_5, kR1_6, kR1_7, kR1_8, kR1_9, kR1_10, kR1_11, kR1_12, kR1_13, kC2, kG2, kP2, kR2_0, kR2_1, kC3, kG3, kP3, kR3_0, kR3_1, kR3_2, kR3_3, kL4, kA4, kS4, kL5, kA5, kS5, kL6, kA6, kS6, kL7, kA7, kS7, kC8, kG8, kP8, kR8_0, kR8_1, kL9, kA9, kS9, kL10, kA10, kS10, kC11, kG11, kP11, kR11_0, kR11_1, kR11_2, kR11_3, kL12, kA12, kS12, kL13, kA13, kS13, kL14, kA14, kS14, kL15, kA15, kS15, kC16, kG16, kP16, kR16_0, kR16_1, kL17, kA17, kS17, kL18, kA18, kS18, kC19, kG19, kP19, kR19_0, kL20, kL141, kL146, kA146, kS146, kL151, kA151, kS151, kL156, kA156, kS156, kC157, kG157, kP157, kR157_0, kR157_1, kL158, kA158, kS158, kL159, kA159, kS159, kC161, kG161, kP161, kR161_0, kR161_1, kL162, kA162, kS162, kL163, kA163, kS163, kC165, kG165, kP165, kR165_0, kR165_1, kR165_2, kR165_3, kL166, kA166, kS166, kL167, kA167, kS167, kL168, kA168, kS168, kL169, kA169, kS169, kC170, kG170, kP170, kR170_0, kR170_1, kR170_2, kL171, kA171, kS171, kL172, kA172, kS172, kL173, kA173, kS173, kC174, kG174, kP174, kR174_0, kR174_1, kR174_2, kR174_3, kR174_4, kL175, kA175, kS175, kL176, kA176, kS176, kL177, kA177, kS177, kL178, kA178, kS178, kL179, kC180, kG180, kP180, kL181, kL182, kA182, kS182, kC183, kG183, kP183, kR183_1, kR183_3, kR183_5, kR183_6, kR183_7, kR183_8, kR183_9, kR183_21, kR183_26, kR183_27, kR183_30, kR183_31, kR183_33, kR183_34, kR183_36, kR183_37, kR183_38, kR183_39, kR183_40, kR183_41, kR183_42, kR183_43, kR183_44, kL184, kA184, kS184, kL185, kA185, kS185, kL186, kA186, kS186, kL187, kA187, kS187, kL188, kA188, kS188, kL189, kL190, kL191, kA191, kS191, kL192, kA192, kS192, kL193, kA193, kS193, kL194, kA194, kS194, kL195, kA195, kS195, kL196, kA196, kS196, kL197, kA197, kS197, kL198, kA198, kS198, kL199, kA199, kS199, kL200, kA200, kS200, kL201, kL202, kA202, kS202, kL203, kA203, kS203, kL204, kA204, kS204, kL205, kL206, kA206, kS206, states11_ok hS hG1]
      have key : ∃ y, xloop (f_X11_listGround_b13 1 (iI ((k : Int) - 144)) (nI (gSt g))) (nI 0, nI 0, xw τ (xI τ)) = some y ∧ ∃ Q, y = (nI (fb_ct p (gSt g)), xw τ Q) ∧ (∀ j, j < fb_ct p (gSt g) → Q 182 j = nI (G j)) ∧ ∀ a j, a ≠ 182 → Q a j = xI τ a j := by
        have fin : ∀ s Q, s ≤ gSt g → (∀ t, s ≤ t → t < gSt g → p t = false) → (∀ j, j < fb_ct p s → Q 182 j = nI (G j)) → (nI (fb_ct p s), xw τ Q) = (nI (fb_ct p (gSt g)), xw τ Q) ∧ (∀ j, j < fb_ct p (gSt g) → Q 182 j = nI (G j)) := by
          intro s Q hs hno hq
          have : fb_ct p (gSt g) = fb_ct p s := by
            have h1 := fb_ct_split p s (gSt g - s)
            rw [show s + (gSt g - s) = gSt g by omega] at h1
            rw [h1, fb_ct_zero.mpr (fun j hj => hno (s + j) (by omega) (by omega))]; rfl
          rw [this]
          exact ⟨rfl, hq⟩
        have gen : ∀ m s Q, s + m = gSt g → (∀ j, j < fb_ct p s → Q 182 j = nI (G j)) → (∀ a j, a ≠ 182 → Q a j = xI τ a j) → ∃ y, xloop (f_X11_listGround_b13 1 (iI ((k : Int) - 144)) (nI (gSt g))) (nI (fb_ct p s), nI s, xw τ Q) = some y ∧ ∃ Q, y = (nI (fb_ct p (gSt g)), xw τ Q) ∧ (∀ j, j < fb_ct p (gSt g) → Q 182 j = nI (G j)) ∧ ∀ a j, a ≠ 182 → Q a j = xI τ a j := by
          intro m
          induction m with
          | zero =>
            intro s Q hs hq1 hq2
            have : s = gSt g := by omega
            subst this
            refine ⟨_, xloop_end ?_, Q, rfl, hq1, hq2⟩
            simp only [f_X11_listGround_b13]
            rw [if_pos (by rw [nn_le (by omega) (by omega)]; exact Nat.le_refl _)]
            rfl
          | succ m ih =>
            intro s Q hs hq1 hq2
            have hsN : s < gSt g := by omega
            have hb := eE_b hg ho s
            have hq : (iI (eE g (zR F) s) = iI ((k : Int) - 144)) = (eE g (zR F) s = (k : Int) - 144) := iI_eq (by omega) (by omega) (by omega) (by omega)
            have hSQ : SR g Q 16 F := SR_m hg (fun k _ _ => hq2 _ k (by omega)) (fun k _ => hq2 _ k (by omega)) (fun k _ => hq2 _ k (by omega)) (fun k _ => rfl) hSR
            have hEQ : ENK Q (xR τ) (xlen τ) 157 g F := ENK_c (fun k => hq2 _ k (by rw [hEn.2.1]; omega)) hE
            have hcs := fb_ct_le p s
            have hcs2 := hle s (by omega)
            have hps : p s = (lW g F s && decide (eE g (zR F) s = (k : Int) - 144)) := by rw [hpd]; rfl
            by_cases hps1 : p s = true
            · have hlt : fb_ct p s < 256 := by
                have := hle (s + 1) (by omega)
                rw [fb_ct_succ, hps1] at this
                simp at this
                omega
              rw [hps, Bool.and_eq_true, decide_eq_true_eq] at hps1
              have hps2 : p s = true := by rw [hps, hps1.1]; simp [hps1.2]
              have stp : f_X11_listGround_b13 1 (iI ((k : Int) - 144)) (nI (gSt g)) (nI (fb_ct p s), nI s, xw τ Q) = some (.inl (nI (fb_ct p (s + 1)), nI (s + 1), xw τ (xup Q 182 (fb_ct p s) (nI s)))) := by
                simp only [f_X11_listGround_b13]
                rw [if_neg (by rw [nn_le (by omega) (by omega)]; omega)]
                simp (disch := first | assumption | omega) only [Option.bind_some, Option.map_some, xw_gR, xw_gN, xw_al, xw_ck, xw_uI, xw_ur, xup_at, xur_at, if_true, if_false, reduceIte, and_true, true_and, and_false, false_and, not_true_eq_false, not_false_eq_true, Nat.reduceEqDiff, eq_self, Nat.reduceAdd, Nat.reduceMul, kC1, kG1, kP1, kR1_0, kR1_1, kR1_2, kR1_3, kR1_4, kR1_5, kR1_6, kR1_7, kR1_8, kR1_9, kR1_10, kR1_11, kR1_12, kR1_13, kC2, kG2, kP2, kR2_0, kR2_1, kC3, kG3, kP3, kR3_0, kR3_1, kR3_2, kR3_3, kL4, kA4, kS4, kL5, kA5, kS5, kL6, kA6, kS6, kL7, kA7, kS7, kC8, kG8, kP8, kR8_0, kR8_1, kL9, kA9, kS9, kL10, kA10, kS10, kC11, kG11, kP11, kR11_0, kR11_1, kR11_2, kR11_3, kL12, kA12, kS12, kL13, kA13, kS13, kL14, kA14, kS14, kL15, kA15, kS15, kC16, kG16, kP16, kR16_0, kR16_1, kL17, kA17, kS17, kL18, kA18, kS18, kC19, kG19, kP19, kR19_0, kL20, kL141, kL146, kA146, kS146, kL151, kA151, kS151, kL156, kA156, kS156, kC157, kG157, kP157, kR157_0, kR157_1, kL158, kA158, kS158, kL159, kA159, kS159, kC161, kG161, kP161, kR161_0, kR161_1, kL162, kA162, kS162, kL163, kA163, kS163, kC165, kG165, kP165, kR165_0, kR165_1, kR165_2, kR165_3, kL166, kA166, kS166, kL167, kA167, kS167, kL168, kA168, kS168, kL169, kA169, kS169, kC170, kG170, kP170, kR170_0, kR170_1, kR170_2, kL171, kA171, kS171, kL172, kA172, kS172, kL173, kA173, kS173, kC174, kG174, kP174, kR174_0, kR174_1, kR174_2, kR174_3, kR174_4, kL175, kA175, kS175, kL176, kA176, kS176, kL177, kA177, kS177, kL178, kA178, kS178, kL179, kC180, kG180, kP180, kL181, kL182, kA182, kS182, kC183, kG183, kP183, kR183_1, kR183_3, kR183_5, kR183_6, kR183_7, kR183_8, kR183_9, kR183_21, kR183_26, kR183_27, kR183_30, kR183_31, kR183_33, kR183_34, kR183_36, kR183_37, kR183_38, kR183_39, kR183_40, kR183_41, kR183_42, kR183_43, kR183_44, kL184, kA184, kS184, kL185, kA185, kS185, kL186, kA186, kS186, kL187, kA187, kS187, kL188, kA188, kS188, kL189, kL190, kL191, kA191, kS191, kL192, kA192, kS192, kL193, kA193, kS193, kL194, kA194, kS194, kL195, kA195, kS195, kL196, kA196, kS196, kL197, kA197, kS197, kL198, kA198, kS198, kL199, kA199, kS199, kL200, kA200, kS200, kL201, kL202, kA202, kS202, kL203, kA203, kS203, kL204, kA204, kS204, kL205, kL206, kA206, kS206, nn_le, show ¬ (256 ≤ fb_ct p s) by omega, allows_ok hS hg suA_16 hSQ, of_ok hS hEn hEQ (gSt_pos hsN).2, hq, hps1.1, hps1.2, one0]
                rw [fb_ct_succ, hps2, ← nI_succ, ← nI_succ]
                rfl
              rw [xloop_step stp]
              refine ih (s + 1) _ (by omega) (fun j hj => ?_) (fun a j h => by rw [xup_at, if_neg (by omega)]; exact hq2 a j h)
              rw [fb_ct_succ, hps2] at hj
              simp at hj
              rw [xup_at]
              by_cases z : j = fb_ct p s
              · rw [if_pos ⟨rfl, z⟩, z, Gof s hsN hps2]
              · rw [if_neg (by omega)]; exact hq1 j (by omega)
            · have hps2 : p s = false := Bool.not_eq_true _ ▸ hps1
              have hct : fb_ct p (s + 1) = fb_ct p s := by rw [fb_ct_succ, hps2]; rfl
              by_cases hfull : 256 ≤ fb_ct p s
              · -- the row is full: nothing more may come
                refine ⟨_, xloop_end (b := (nI (fb_ct p s), xw τ Q)) ?_, Q, ?_⟩
                · simp only [f_X11_listGround_b13]
                  rw [if_neg (by rw [nn_le (by omega) (by omega)]; omega)]
                  simp (disch := first | assumption | omega) only [Option.bind_some, Option.map_some, xw_gR, xw_gN, xw_al, xw_ck, xw_uI, xw_ur, xup_at, xur_at, if_true, if_false, reduceIte, and_true, true_and, and_false, false_and, not_true_eq_false, not_false_eq_true, Nat.reduceEqDiff, eq_self, Nat.reduceAdd, Nat.reduceMul, kC1, kG1, kP1, kR1_0, kR1_1, kR1_2, kR1_3, kR1_4, kR1_5, kR1_6, kR1_7, kR1_8, kR1_9, kR1_10, kR1_11, kR1_12, kR1_13, kC2, kG2, kP2, kR2_0, kR2_1, kC3, kG3, kP3, kR3_0, kR3_1, kR3_2, kR3_3, kL4, kA4, kS4, kL5, kA5, kS5, kL6, kA6, kS6, kL7, kA7, kS7, kC8, kG8, kP8, kR8_0, kR8_1, kL9, kA9, kS9, kL10, kA10, kS10, kC11, kG11, kP11, kR11_0, kR11_1, kR11_2, kR11_3, kL12, kA12, kS12, kL13, kA13, kS13, kL14, kA14, kS14, kL15, kA15, kS15, kC16, kG16, kP16, kR16_0, kR16_1, kL17, kA17, kS17, kL18, kA18, kS18, kC19, kG19, kP19, kR19_0, kL20, kL141, kL146, kA146, kS146, kL151, kA151, kS151, kL156, kA156, kS156, kC157, kG157, kP157, kR157_0, kR157_1, kL158, kA158, kS158, kL159, kA159, kS159, kC161, kG161, kP161, kR161_0, kR161_1, kL162, kA162, kS162, kL163, kA163, kS163, kC165, kG165, kP165, kR165_0, kR165_1, kR165_2, kR165_3, kL166, kA166, kS166, kL167, kA167, kS167, kL168, kA168, kS168, kL169, kA169, kS169, kC170, kG170, kP170, kR170_0, kR170_1, kR170_2, kL171, kA171, kS171, kL172, kA172, kS172, kL173, kA173, kS173, kC174, kG174, kP174, kR174_0, kR174_1, kR174_2, kR174_3, kR174_4, kL175, kA175, kS175, kL176, kA176, kS176, kL177, kA177, kS177, kL178, kA178, kS178, kL179, kC180, kG180, kP180, kL181, kL182, kA182, kS182, kC183, kG183, kP183, kR183_1, kR183_3, kR183_5, kR183_6, kR183_7, kR183_8, kR183_9, kR183_21, kR183_26, kR183_27, kR183_30, kR183_31, kR183_33, kR183_34, kR183_36, kR183_37, kR183_38, kR183_39, kR183_40, kR183_41, kR183_42, kR183_43, kR183_44, kL184, kA184, kS184, kL185, kA185, kS185, kL186, kA186, kS186, kL187, kA187, kS187, kL188, kA188, kS188, kL189, kL190, kL191, kA191, kS191, kL192, kA192, kS192, kL193, kA193, kS193, kL194, kA194, kS194, kL195, kA195, kS195, kL196, kA196, kS196, kL197, kA197, kS197, kL198, kA198, kS198, kL199, kA199, kS199, kL200, kA200, kS200, kL201, kL202, kA202, kS202, kL203, kA203, kS203, kL204, kA204, kS204, kL205, kL206, kA206, kS206, nn_le, hfull]
                · have hno : ∀ t, s ≤ t → t < gSt g → p t = false := by
                    intro t h1 h2
                    cases hpt : p t with
                    | false => rfl
                    | true =>
                      have h3 := hle (t + 1) (by omega)
                      rw [fb_ct_succ, hpt] at h3
                      have h4 := fb_ct_mono p h1
                      simp at h3
                      omega
                  have := fin s Q (by omega) hno hq1
                  exact ⟨this.1, this.2, hq2⟩
              · have stp : f_X11_listGround_b13 1 (iI ((k : Int) - 144)) (nI (gSt g)) (nI (fb_ct p s), nI s, xw τ Q) = some (.inl (nI (fb_ct p (s + 1)), nI (s + 1), xw τ Q)) := by
                  simp only [f_X11_listGround_b13]
                  rw [if_neg (by rw [nn_le (by omega) (by omega)]; omega)]
                  simp (disch := first | assumption | omega) only [Option.bind_some, Option.map_some, xw_gR, xw_gN, xw_al, xw_ck, xw_uI, xw_ur, xup_at, xur_at, if_true, if_false, reduceIte, and_true, true_and, and_false, false_and, not_true_eq_false, not_false_eq_true, Nat.reduceEqDiff, eq_self, Nat.reduceAdd, Nat.reduceMul, kC1, kG1, kP1, kR1_0, kR1_1, kR1_2, kR1_3, kR1_4, kR1_5, kR1_6, kR1_7, kR1_8, kR1_9, kR1_10, kR1_11, kR1_12, kR1_13, kC2, kG2, kP2, kR2_0, kR2_1, kC3, kG3, kP3, kR3_0, kR3_1, kR3_2, kR3_3, kL4, kA4, kS4, kL5, kA5, kS5, kL6, kA6, kS6, kL7, kA7, kS7, kC8, kG8, kP8, kR8_0, kR8_1, kL9, kA9, kS9, kL10, kA10, kS10, kC11, kG11, kP11, kR11_0, kR11_1, kR11_2, kR11_3, kL12, kA12, kS12, kL13, kA13, kS13, kL14, kA14, kS14, kL15, kA15, kS15, kC16, kG16, kP16, kR16_0, kR16_1, kL17, kA17, kS17, kL18, kA18, kS18, kC19, kG19, kP19, kR19_0, kL20, kL141, kL146, kA146, kS146, kL151, kA151, kS151, kL156, kA156, kS156, kC157, kG157, kP157, kR157_0, kR157_1, kL158, kA158, kS158, kL159, kA159, kS159, kC161, kG161, kP161, kR161_0, kR161_1, kL162, kA162, kS162, kL163, kA163, kS163, kC165, kG165, kP165, kR165_0, kR165_1, kR165_2, kR165_3, kL166, kA166, kS166, kL167, kA167, kS167, kL168, kA168, kS168, kL169, kA169, kS169, kC170, kG170, kP170, kR170_0, kR170_1, kR170_2, kL171, kA171, kS171, kL172, kA172, kS172, kL173, kA173, kS173, kC174, kG174, kP174, kR174_0, kR174_1, kR174_2, kR174_3, kR174_4, kL175, kA175, kS175, kL176, kA176, kS176, kL177, kA177, kS177, kL178, kA178, kS178, kL179, kC180, kG180, kP180, kL181, kL182, kA182, kS182, kC183, kG183, kP183, kR183_1, kR183_3, kR183_5, kR183_6, kR183_7, kR183_8, kR183_9, kR183_21, kR183_26, kR183_27, kR183_30, kR183_31, kR183_33, kR183_34, kR183_36, kR183_37, kR183_38, kR183_39, kR183_40, kR183_41, kR183_42, kR183_43, kR183_44, kL184, kA184, kS184, kL185, kA185, kS185, kL186, kA186, kS186, kL187, kA187, kS187, kL188, kA188, kS188, kL189, kL190, kL191, kA191, kS191, kL192, kA192, kS192, kL193, kA193, kS193, kL194, kA194, kS194, kL195, kA195, kS195, kL196, kA196, kS196, kL197, kA197, kS197, kL198, kA198, kS198, kL199, kA199, kS199, kL200, kA200, kS200, kL201, kL202, kA202, kS202, kL203, kA203, kS203, kL204, kA204, kS204, kL205, kL206, kA206, kS206, nn_le, hfull, allows_ok hS hg suA_16 hSQ, of_ok hS hEn hEQ (gSt_pos hsN).2, hq]
                  rw [hct, ← nI_succ]
                  rw [hps] at hps2
                  cases hw : lW g F s with
                  | false => simp
                  | true =>
                    rw [hw] at hps2
                    have : ¬ eE g (zR F) s = (k : Int) - 144 := by simpa using hps2
                    simp [this]
                rw [xloop_step stp]
                exact ih (s + 1) Q (by omega) (fun j hj => hq1 j (by rw [← hct]; exact hj)) hq2
        exact gen (gSt g) 0 (xI τ) (by omega) (fun j hj => by have : fb_ct p 0 = 0 := rfl; omega) (fun _ _ _ => rfl)
      obtain ⟨y, k1, Q, rfl, k2⟩ := key
      exact ⟨Q, k1, k2⟩
    obtain ⟨Q, l1, l2, l3⟩ := list
    have HQ : IV n (xw τ Q) g gT gP st := H1.walk (fun a j h => l3 a j (by omega))
    obtain ⟨J, e3, H3, K3, u3⟩ := knows_ok HQ
    have rJ : J 191 = F := by rw [hF, ← r1]; funext j; exact (u3 191 j (by omega) (by omega)).trans (l3 191 j (by omega))
    rw [rJ] at K3
    have hG3 : GRD J g := H3.grd
    have q3 : J 198 0 = iI ((k : Int) - 144) := by rw [← hki]; exact K3.2.2.2 k hk hp
    -- the model's run
    have run : ∃ R, xloop (f_X12_overlap_b44 183 x) ((0 : Int32), (0 : Int32), (0 : Int32), xw τ J) = some (nI (ovC G x (fb_ct p (gSt g))), xw τ R) ∧ ∀ a j, a ≠ 206 → R a j = J a j := by
      have key : ∃ y, xloop (f_X12_overlap_b44 183 x) (nI 0, nI 0, nI 0, xw τ J) = some y ∧ ∃ R, y = (nI (ovC G x (fb_ct p (gSt g))), xw τ R) ∧ ∀ a j, a ≠ 206 → R a j = J a j := by
        refine xforI (fun s y => ∃ R, y = (nI (fb_ct p s), nI (ovC G x (fb_ct p s)), nI s, xw τ R) ∧ (∀ j, j < fb_ct p s → R 206 j = nI (G j)) ∧ ∀ a j, a ≠ 206 → R a j = J a j) (gSt g) ⟨J, rfl, fun j hj => by have : fb_ct p 0 = 0 := rfl; omega, fun _ _ _ => rfl⟩ ?_ ?_
        · rintro s y hs ⟨R, rfl, h1, h2⟩
          have hGR : GRD R g := GRD_c (fun a j z => h2 a j (by unfold sGRD at z; omega)) hG3
          have hv : R 196 s = if lW g F s then iI (eE g (zR F) s) else nI 100000 := (h2 196 s (by omega)).trans (K3.1 s hs)
          have hq := knE hg ho (e := (k : Int) - 144) (by omega) (by omega) s
          rw [← hpd] at hq
          have hz : R 198 0 = iI ((k : Int) - 144) := (h2 198 0 (by omega)).trans q3
          have hcs := fb_ct_le p s
          simp only [f_X12_overlap_b44]
          simp (disch := first | assumption | omega) only [Option.bind_some, Option.map_some, xw_gR, xw_gN, xw_al, xw_ck, xw_uI, xw_ur, xup_at, xur_at, if_true, if_false, reduceIte, and_true, true_and, and_false, false_and, not_true_eq_false, not_false_eq_true, Nat.reduceEqDiff, eq_self, Nat.reduceAdd, Nat.reduceMul, kC1, kG1, kP1, kR1_0, kR1_1, kR1_2, kR1_3, kR1_4, kR1_5, kR1_6, kR1_7, kR1_8, kR1_9, kR1_10, kR1_11, kR1_12, kR1_13, kC2, kG2, kP2, kR2_0, kR2_1, kC3, kG3, kP3, kR3_0, kR3_1, kR3_2, kR3_3, kL4, kA4, kS4, kL5, kA5, kS5, kL6, kA6, kS6, kL7, kA7, kS7, kC8, kG8, kP8, kR8_0, kR8_1, kL9, kA9, kS9, kL10, kA10, kS10, kC11, kG11, kP11, kR11_0, kR11_1, kR11_2, kR11_3, kL12, kA12, kS12, kL13, kA13, kS13, kL14, kA14, kS14, kL15, kA15, kS15, kC16, kG16, kP16, kR16_0, kR16_1, kL17, kA17, kS17, kL18, kA18, kS18, kC19, kG19, kP19, kR19_0, kL20, kL141, kL146, kA146, kS146, kL151, kA151, kS151, kL156, kA156, kS156, kC157, kG157, kP157, kR157_0, kR157_1, kL158, kA158, kS158, kL159, kA159, kS159, kC161, kG161, kP161, kR161_0, kR161_1, kL162, kA162, kS162, kL163, kA163, kS163, kC165, kG165, kP165, kR165_0, kR165_1, kR165_2, kR165_3, kL166, kA166, kS166, kL167, kA167, kS167, kL168, kA168, kS168, kL169, kA169, kS169, kC170, kG170, kP170, kR170_0, kR170_1, kR170_2, kL171, kA171, kS171, kL172, kA172, kS172, kL173, kA173, kS173, kC174, kG174, kP174, kR174_0, kR174_1, kR174_2, kR174_3, kR174_4, kL175, kA175, kS175, kL176, kA176, kS176, kL177, kA177, kS177, kL178, kA178, kS178, kL179, kC180, kG180, kP180, kL181, kL182, kA182, kS182, kC183, kG183, kP183, kR183_1, kR183_3, kR183_5, kR183_6, kR183_7, kR183_8, kR183_9, kR183_21, kR183_26, kR183_27, kR183_30, kR183_31, kR183_33, kR183_34, kR183_36, kR183_37, kR183_38, kR183_39, kR183_40, kR183_41, kR183_42, kR183_43, kR183_44, kL184, kA184, kS184, kL185, kA185, kS185, kL186, kA186, kS186, kL187, kA187, kS187, kL188, kA188, kS188, kL189, kL190, kL191, kA191, kS191, kL192, kA192, kS192, kL193, kA193, kS193, kL194, kA194, kS194, kL195, kA195, kS195, kL196, kA196, kS196, kL197, kA197, kS197, kL198, kA198, kS198, kL199, kA199, kS199, kL200, kA200, kS200, kL201, kL202, kA202, kS202, kL203, kA203, kS203, kL204, kA204, kS204, kL205, kL206, kA206, kS206, states12_ok hS hGR, nn_le, show ¬ (gSt g ≤ s) by omega, hv, z0 R, hz, hq]
          by_cases hps : p s = true
          · rw [if_pos hps]
            have hlt : fb_ct p s < fb_ct p (gSt g) := by
              have := hle (s + 1) (by omega)
              rw [fb_ct_succ, hps] at this
              simp at this
              omega
            have hin : xloop (f_X12_overlap_b75 (xw τ R) 183 x (nI (fb_ct p s)) (nI s)) (nI (ovC G x (fb_ct p s)), (0 : Int32)) = some (.inl (nI (fb_ct p s + 1), nI (ovC G x (fb_ct p s + 1)), nI (s + 1), xw τ (xup R 206 (fb_ct p s) (nI s)))) := by
              refine xforE (fun b : Nat => (nI (ovC G x (fb_ct p s) + fb_ct (ovP G x (fb_ct p s)) b), nI b)) (fb_ct p s) rfl (fun b hb => ?_) ?_
              · simp only [f_X12_overlap_b75]
                have hGb := Gb b (by omega)
                rw [if_neg (by rw [nn_le (by omega) (by omega)]; omega)]
                simp (disch := first | assumption | omega) only [Option.bind_some, Option.map_some, xw_gR, xw_gN, xw_al, xw_ck, xw_uI, xw_ur, xup_at, xur_at, if_true, if_false, reduceIte, and_true, true_and, and_false, false_and, not_true_eq_false, not_false_eq_true, Nat.reduceEqDiff, eq_self, Nat.reduceAdd, Nat.reduceMul, kC1, kG1, kP1, kR1_0, kR1_1, kR1_2, kR1_3, kR1_4, kR1_5, kR1_6, kR1_7, kR1_8, kR1_9, kR1_10, kR1_11, kR1_12, kR1_13, kC2, kG2, kP2, kR2_0, kR2_1, kC3, kG3, kP3, kR3_0, kR3_1, kR3_2, kR3_3, kL4, kA4, kS4, kL5, kA5, kS5, kL6, kA6, kS6, kL7, kA7, kS7, kC8, kG8, kP8, kR8_0, kR8_1, kL9, kA9, kS9, kL10, kA10, kS10, kC11, kG11, kP11, kR11_0, kR11_1, kR11_2, kR11_3, kL12, kA12, kS12, kL13, kA13, kS13, kL14, kA14, kS14, kL15, kA15, kS15, kC16, kG16, kP16, kR16_0, kR16_1, kL17, kA17, kS17, kL18, kA18, kS18, kC19, kG19, kP19, kR19_0, kL20, kL141, kL146, kA146, kS146, kL151, kA151, kS151, kL156, kA156, kS156, kC157, kG157, kP157, kR157_0, kR157_1, kL158, kA158, kS158, kL159, kA159, kS159, kC161, kG161, kP161, kR161_0, kR161_1, kL162, kA162, kS162, kL163, kA163, kS163, kC165, kG165, kP165, kR165_0, kR165_1, kR165_2, kR165_3, kL166, kA166, kS166, kL167, kA167, kS167, kL168, kA168, kS168, kL169, kA169, kS169, kC170, kG170, kP170, kR170_0, kR170_1, kR170_2, kL171, kA171, kS171, kL172, kA172, kS172, kL173, kA173, kS173, kC174, kG174, kP174, kR174_0, kR174_1, kR174_2, kR174_3, kR174_4, kL175, kA175, kS175, kL176, kA176, kS176, kL177, kA177, kS177, kL178, kA178, kS178, kL179, kC180, kG180, kP180, kL181, kL182, kA182, kS182, kC183, kG183, kP183, kR183_1, kR183_3, kR183_5, kR183_6, kR183_7, kR183_8, kR183_9, kR183_21, kR183_26, kR183_27, kR183_30, kR183_31, kR183_33, kR183_34, kR183_36, kR183_37, kR183_38, kR183_39, kR183_40, kR183_41, kR183_42, kR183_43, kR183_44, kL184, kA184, kS184, kL185, kA185, kS185, kL186, kA186, kS186, kL187, kA187, kS187, kL188, kA188, kS188, kL189, kL190, kL191, kA191, kS191, kL192, kA192, kS192, kL193, kA193, kS193, kL194, kA194, kS194, kL195, kA195, kS195, kL196, kA196, kS196, kL197, kA197, kS197, kL198, kA198, kS198, kL199, kA199, kS199, kL200, kA200, kS200, kL201, kL202, kA202, kS202, kL203, kA203, kS203, kL204, kA204, kS204, kL205, kL206, kA206, kS206, h1 b hb, nn_xor, bitsOf_ok (x16 s (G b) (by omega) (by omega))]
                rw [fb_ct_succ, ← nI_succ, ← nI_succ]
                unfold ovP
                rw [Gof s hs hps]
                by_cases hc : nI (pC (s ^^^ G b)) = x
                · rw [if_pos hc]; simp [hc]; rfl
                · rw [if_neg hc]; simp [hc]
              · simp only [f_X12_overlap_b75]
                rw [if_pos (by rw [nn_le (by omega) (by omega)]; exact Nat.le_refl _)]
                simp (disch := first | assumption | omega) only [Option.bind_some, Option.map_some, xw_gR, xw_gN, xw_al, xw_ck, xw_uI, xw_ur, xup_at, xur_at, if_true, if_false, reduceIte, and_true, true_and, and_false, false_and, not_true_eq_false, not_false_eq_true, Nat.reduceEqDiff, eq_self, Nat.reduceAdd, Nat.reduceMul, kC1, kG1, kP1, kR1_0, kR1_1, kR1_2, kR1_3, kR1_4, kR1_5, kR1_6, kR1_7, kR1_8, kR1_9, kR1_10, kR1_11, kR1_12, kR1_13, kC2, kG2, kP2, kR2_0, kR2_1, kC3, kG3, kP3, kR3_0, kR3_1, kR3_2, kR3_3, kL4, kA4, kS4, kL5, kA5, kS5, kL6, kA6, kS6, kL7, kA7, kS7, kC8, kG8, kP8, kR8_0, kR8_1, kL9, kA9, kS9, kL10, kA10, kS10, kC11, kG11, kP11, kR11_0, kR11_1, kR11_2, kR11_3, kL12, kA12, kS12, kL13, kA13, kS13, kL14, kA14, kS14, kL15, kA15, kS15, kC16, kG16, kP16, kR16_0, kR16_1, kL17, kA17, kS17, kL18, kA18, kS18, kC19, kG19, kP19, kR19_0, kL20, kL141, kL146, kA146, kS146, kL151, kA151, kS151, kL156, kA156, kS156, kC157, kG157, kP157, kR157_0, kR157_1, kL158, kA158, kS158, kL159, kA159, kS159, kC161, kG161, kP161, kR161_0, kR161_1, kL162, kA162, kS162, kL163, kA163, kS163, kC165, kG165, kP165, kR165_0, kR165_1, kR165_2, kR165_3, kL166, kA166, kS166, kL167, kA167, kS167, kL168, kA168, kS168, kL169, kA169, kS169, kC170, kG170, kP170, kR170_0, kR170_1, kR170_2, kL171, kA171, kS171, kL172, kA172, kS172, kL173, kA173, kS173, kC174, kG174, kP174, kR174_0, kR174_1, kR174_2, kR174_3, kR174_4, kL175, kA175, kS175, kL176, kA176, kS176, kL177, kA177, kS177, kL178, kA178, kS178, kL179, kC180, kG180, kP180, kL181, kL182, kA182, kS182, kC183, kG183, kP183, kR183_1, kR183_3, kR183_5, kR183_6, kR183_7, kR183_8, kR183_9, kR183_21, kR183_26, kR183_27, kR183_30, kR183_31, kR183_33, kR183_34, kR183_36, kR183_37, kR183_38, kR183_39, kR183_40, kR183_41, kR183_42, kR183_43, kR183_44, kL184, kA184, kS184, kL185, kA185, kS185, kL186, kA186, kS186, kL187, kA187, kS187, kL188, kA188, kS188, kL189, kL190, kL191, kA191, kS191, kL192, kA192, kS192, kL193, kA193, kS193, kL194, kA194, kS194, kL195, kA195, kS195, kL196, kA196, kS196, kL197, kA197, kS197, kL198, kA198, kS198, kL199, kA199, kS199, kL200, kA200, kS200, kL201, kL202, kA202, kS202, kL203, kA203, kS203, kL204, kA204, kS204, kL205, kL206, kA206, kS206, ← nI_succ]
                rfl
            rw [hin]
            have hct : fb_ct p (s + 1) = fb_ct p s + 1 := by rw [fb_ct_succ, hps]; rfl
            refine ⟨_, rfl, _, by rw [hct], fun j hj => ?_, fun a j h => by rw [xup_at, if_neg (by omega)]; exact h2 a j h⟩
            rw [hct] at hj
            rw [xup_at]
            by_cases z : j = fb_ct p s
            · rw [if_pos ⟨rfl, z⟩, z, Gof s hs hps]
            · rw [if_neg (by omega)]; exact h1 j (by omega)
          · rw [if_neg hps]
            have hps2 : p s = false := Bool.not_eq_true _ ▸ hps
            have hct : fb_ct p (s + 1) = fb_ct p s := by rw [fb_ct_succ, hps2]; rfl
            exact ⟨_, rfl, R, by rw [hct, nI_succ], fun j hj => h1 j (by rw [← hct]; exact hj), h2⟩
        · rintro y ⟨R, rfl, h1, h2⟩
          have hGR : GRD R g := GRD_c (fun a j z => h2 a j (by unfold sGRD at z; omega)) hG3
          refine ⟨_, ?_, R, rfl, h2⟩
          simp only [f_X12_overlap_b44]
          simp (disch := first | assumption | omega) only [Option.bind_some, Option.map_some, xw_gR, xw_gN, xw_al, xw_ck, xw_uI, xw_ur, xup_at, xur_at, if_true, if_false, reduceIte, and_true, true_and, and_false, false_and, not_true_eq_false, not_false_eq_true, Nat.reduceEqDiff, eq_self, Nat.reduceAdd, Nat.reduceMul, kC1, kG1, kP1, kR1_0, kR1_1, kR1_2, kR1_3, kR1_4, kR1_5, kR1_6, kR1_7, kR1_8, kR1_9, kR1_10, kR1_11, kR1_12, kR1_13, kC2, kG2, kP2, kR2_0, kR2_1, kC3, kG3, kP3, kR3_0, kR3_1, kR3_2, kR3_3, kL4, kA4, kS4, kL5, kA5, kS5, kL6, kA6, kS6, kL7, kA7, kS7, kC8, kG8, kP8, kR8_0, kR8_1, kL9, kA9, kS9, kL10, kA10, kS10, kC11, kG11, kP11, kR11_0, kR11_1, kR11_2, kR11_3, kL12, kA12, kS12, kL13, kA13, kS13, kL14, kA14, kS14, kL15, kA15, kS15, kC16, kG16, kP16, kR16_0, kR16_1, kL17, kA17, kS17, kL18, kA18, kS18, kC19, kG19, kP19, kR19_0, kL20, kL141, kL146, kA146, kS146, kL151, kA151, kS151, kL156, kA156, kS156, kC157, kG157, kP157, kR157_0, kR157_1, kL158, kA158, kS158, kL159, kA159, kS159, kC161, kG161, kP161, kR161_0, kR161_1, kL162, kA162, kS162, kL163, kA163, kS163, kC165, kG165, kP165, kR165_0, kR165_1, kR165_2, kR165_3, kL166, kA166, kS166, kL167, kA167, kS167, kL168, kA168, kS168, kL169, kA169, kS169, kC170, kG170, kP170, kR170_0, kR170_1, kR170_2, kL171, kA171, kS171, kL172, kA172, kS172, kL173, kA173, kS173, kC174, kG174, kP174, kR174_0, kR174_1, kR174_2, kR174_3, kR174_4, kL175, kA175, kS175, kL176, kA176, kS176, kL177, kA177, kS177, kL178, kA178, kS178, kL179, kC180, kG180, kP180, kL181, kL182, kA182, kS182, kC183, kG183, kP183, kR183_1, kR183_3, kR183_5, kR183_6, kR183_7, kR183_8, kR183_9, kR183_21, kR183_26, kR183_27, kR183_30, kR183_31, kR183_33, kR183_34, kR183_36, kR183_37, kR183_38, kR183_39, kR183_40, kR183_41, kR183_42, kR183_43, kR183_44, kL184, kA184, kS184, kL185, kA185, kS185, kL186, kA186, kS186, kL187, kA187, kS187, kL188, kA188, kS188, kL189, kL190, kL191, kA191, kS191, kL192, kA192, kS192, kL193, kA193, kS193, kL194, kA194, kS194, kL195, kA195, kS195, kL196, kA196, kS196, kL197, kA197, kS197, kL198, kA198, kS198, kL199, kA199, kS199, kL200, kA200, kS200, kL201, kL202, kA202, kS202, kL203, kA203, kS203, kL204, kA204, kS204, kL205, kL206, kA206, kS206, states12_ok hS hGR, nn_le, Nat.le_refl]
      obtain ⟨y, k1, R, rfl, k2⟩ := key
      exact ⟨R, k1, k2⟩
    obtain ⟨R, t1, t2⟩ := run
    have H4 : IV n (xw τ R) g gT gP st := by
      refine H3.model (fun a j h => t2 a j (by omega)) (KNW_c hg (fun a j q => t2 a j (by unfold sKNW at q; omega)) H3.knw)
    refine ⟨nI (ovC G x (fb_ct p (gSt g))), xw τ Q, xw τ R, ?_, ?_, INV_i H4.nop⟩
    · rw [A]
      unfold f_X11_overlap_j4
      simp (disch := first | assumption | omega) only [Option.bind_some, Option.map_some, xw_gR, xw_gN, xw_al, xw_ck, xw_uI, xw_ur, xup_at, xur_at, if_true, if_false, reduceIte, and_true, true_and, and_false, false_and, not_true_eq_false, not_false_eq_true, Nat.reduceEqDiff, eq_self, Nat.reduceAdd, Nat.reduceMul, kC1, kG1, kP1, kR1_0, kR1_1, kR1_2, kR1_3, kR1_4, kR1_5, kR1_6, kR1_7, kR1_8, kR1_9, kR1_10, kR1_11, kR1_12, kR1_13, kC2, kG2, kP2, kR2_0, kR2_1, kC3, kG3, kP3, kR3_0, kR3_1, kR3_2, kR3_3, kL4, kA4, kS4, kL5, kA5, kS5, kL6, kA6, kS6, kL7, kA7, kS7, kC8, kG8, kP8, kR8_0, kR8_1, kL9, kA9, kS9, kL10, kA10, kS10, kC11, kG11, kP11, kR11_0, kR11_1, kR11_2, kR11_3, kL12, kA12, kS12, kL13, kA13, kS13, kL14, kA14, kS14, kL15, kA15, kS15, kC16, kG16, kP16, kR16_0, kR16_1, kL17, kA17, kS17, kL18, kA18, kS18, kC19, kG19, kP19, kR19_0, kL20, kL141, kL146, kA146, kS146, kL151, kA151, kS151, kL156, kA156, kS156, kC157, kG157, kP157, kR157_0, kR157_1, kL158, kA158, kS158, kL159, kA159, kS159, kC161, kG161, kP161, kR161_0, kR161_1, kL162, kA162, kS162, kL163, kA163, kS163, kC165, kG165, kP165, kR165_0, kR165_1, kR165_2, kR165_3, kL166, kA166, kS166, kL167, kA167, kS167, kL168, kA168, kS168, kL169, kA169, kS169, kC170, kG170, kP170, kR170_0, kR170_1, kR170_2, kL171, kA171, kS171, kL172, kA172, kS172, kL173, kA173, kS173, kC174, kG174, kP174, kR174_0, kR174_1, kR174_2, kR174_3, kR174_4, kL175, kA175, kS175, kL176, kA176, kS176, kL177, kA177, kS177, kL178, kA178, kS178, kL179, kC180, kG180, kP180, kL181, kL182, kA182, kS182, kC183, kG183, kP183, kR183_1, kR183_3, kR183_5, kR183_6, kR183_7, kR183_8, kR183_9, kR183_21, kR183_26, kR183_27, kR183_30, kR183_31, kR183_33, kR183_34, kR183_36, kR183_37, kR183_38, kR183_39, kR183_40, kR183_41, kR183_42, kR183_43, kR183_44, kL184, kA184, kS184, kL185, kA185, kS185, kL186, kA186, kS186, kL187, kA187, kS187, kL188, kA188, kS188, kL189, kL190, kL191, kA191, kS191, kL192, kA192, kS192, kL193, kA193, kS193, kL194, kA194, kS194, kL195, kA195, kS195, kL196, kA196, kS196, kL197, kA197, kS197, kL198, kA198, kS198, kL199, kA199, kS199, kL200, kA200, kS200, kL201, kL202, kA202, kS202, kL203, kA203, kS203, kL204, kA204, kS204, kL205, kL206, kA206, kS206, hL.2.2.2.1, hn0, hen, waysOf_ok hS hL hk, hCd, hle256, l1]
      refine xforE (fun a : Nat => (nI (ovC G x a), nI a)) (fb_ct p (gSt g)) rfl (fun a ha => ?_) ?_
      · simp only [f_X11_overlap_b48]
        rw [if_neg (by rw [nn_le (by omega) (by omega)]; omega)]
        simp (disch := first | assumption | omega) only [Option.bind_some, Option.map_some, xw_gR, xw_gN, xw_al, xw_ck, xw_uI, xw_ur, xup_at, xur_at, if_true, if_false, reduceIte, and_true, true_and, and_false, false_and, not_true_eq_false, not_false_eq_true, Nat.reduceEqDiff, eq_self, Nat.reduceAdd, Nat.reduceMul, kC1, kG1, kP1, kR1_0, kR1_1, kR1_2, kR1_3, kR1_4, kR1_5, kR1_6, kR1_7, kR1_8, kR1_9, kR1_10, kR1_11, kR1_12, kR1_13, kC2, kG2, kP2, kR2_0, kR2_1, kC3, kG3, kP3, kR3_0, kR3_1, kR3_2, kR3_3, kL4, kA4, kS4, kL5, kA5, kS5, kL6, kA6, kS6, kL7, kA7, kS7, kC8, kG8, kP8, kR8_0, kR8_1, kL9, kA9, kS9, kL10, kA10, kS10, kC11, kG11, kP11, kR11_0, kR11_1, kR11_2, kR11_3, kL12, kA12, kS12, kL13, kA13, kS13, kL14, kA14, kS14, kL15, kA15, kS15, kC16, kG16, kP16, kR16_0, kR16_1, kL17, kA17, kS17, kL18, kA18, kS18, kC19, kG19, kP19, kR19_0, kL20, kL141, kL146, kA146, kS146, kL151, kA151, kS151, kL156, kA156, kS156, kC157, kG157, kP157, kR157_0, kR157_1, kL158, kA158, kS158, kL159, kA159, kS159, kC161, kG161, kP161, kR161_0, kR161_1, kL162, kA162, kS162, kL163, kA163, kS163, kC165, kG165, kP165, kR165_0, kR165_1, kR165_2, kR165_3, kL166, kA166, kS166, kL167, kA167, kS167, kL168, kA168, kS168, kL169, kA169, kS169, kC170, kG170, kP170, kR170_0, kR170_1, kR170_2, kL171, kA171, kS171, kL172, kA172, kS172, kL173, kA173, kS173, kC174, kG174, kP174, kR174_0, kR174_1, kR174_2, kR174_3, kR174_4, kL175, kA175, kS175, kL176, kA176, kS176, kL177, kA177, kS177, kL178, kA178, kS178, kL179, kC180, kG180, kP180, kL181, kL182, kA182, kS182, kC183, kG183, kP183, kR183_1, kR183_3, kR183_5, kR183_6, kR183_7, kR183_8, kR183_9, kR183_21, kR183_26, kR183_27, kR183_30, kR183_31, kR183_33, kR183_34, kR183_36, kR183_37, kR183_38, kR183_39, kR183_40, kR183_41, kR183_42, kR183_43, kR183_44, kL184, kA184, kS184, kL185, kA185, kS185, kL186, kA186, kS186, kL187, kA187, kS187, kL188, kA188, kS188, kL189, kL190, kL191, kA191, kS191, kL192, kA192, kS192, kL193, kA193, kS193, kL194, kA194, kS194, kL195, kA195, kS195, kL196, kA196, kS196, kL197, kA197, kS197, kL198, kA198, kS198, kL199, kA199, kS199, kL200, kA200, kS200, kL201, kL202, kA202, kS202, kL203, kA203, kS203, kL204, kA204, kS204, kL205, kL206, kA206, kS206, nn_le, show ¬ (256 ≤ a) by omega]
        refine xforE (fun b : Nat => (nI (ovC G x a + fb_ct (ovP G x a) b), nI b)) a rfl (fun b hb => ?_) ?_
        · simp only [f_X11_overlap_b67]
          have hGa := Gb a ha
          have hGb := Gb b (by omega)
          rw [if_neg (by rw [nn_le (by omega) (by omega)]; omega)]
          simp (disch := first | assumption | omega) only [Option.bind_some, Option.map_some, xw_gR, xw_gN, xw_al, xw_ck, xw_uI, xw_ur, xup_at, xur_at, if_true, if_false, reduceIte, and_true, true_and, and_false, false_and, not_true_eq_false, not_false_eq_true, Nat.reduceEqDiff, eq_self, Nat.reduceAdd, Nat.reduceMul, kC1, kG1, kP1, kR1_0, kR1_1, kR1_2, kR1_3, kR1_4, kR1_5, kR1_6, kR1_7, kR1_8, kR1_9, kR1_10, kR1_11, kR1_12, kR1_13, kC2, kG2, kP2, kR2_0, kR2_1, kC3, kG3, kP3, kR3_0, kR3_1, kR3_2, kR3_3, kL4, kA4, kS4, kL5, kA5, kS5, kL6, kA6, kS6, kL7, kA7, kS7, kC8, kG8, kP8, kR8_0, kR8_1, kL9, kA9, kS9, kL10, kA10, kS10, kC11, kG11, kP11, kR11_0, kR11_1, kR11_2, kR11_3, kL12, kA12, kS12, kL13, kA13, kS13, kL14, kA14, kS14, kL15, kA15, kS15, kC16, kG16, kP16, kR16_0, kR16_1, kL17, kA17, kS17, kL18, kA18, kS18, kC19, kG19, kP19, kR19_0, kL20, kL141, kL146, kA146, kS146, kL151, kA151, kS151, kL156, kA156, kS156, kC157, kG157, kP157, kR157_0, kR157_1, kL158, kA158, kS158, kL159, kA159, kS159, kC161, kG161, kP161, kR161_0, kR161_1, kL162, kA162, kS162, kL163, kA163, kS163, kC165, kG165, kP165, kR165_0, kR165_1, kR165_2, kR165_3, kL166, kA166, kS166, kL167, kA167, kS167, kL168, kA168, kS168, kL169, kA169, kS169, kC170, kG170, kP170, kR170_0, kR170_1, kR170_2, kL171, kA171, kS171, kL172, kA172, kS172, kL173, kA173, kS173, kC174, kG174, kP174, kR174_0, kR174_1, kR174_2, kR174_3, kR174_4, kL175, kA175, kS175, kL176, kA176, kS176, kL177, kA177, kS177, kL178, kA178, kS178, kL179, kC180, kG180, kP180, kL181, kL182, kA182, kS182, kC183, kG183, kP183, kR183_1, kR183_3, kR183_5, kR183_6, kR183_7, kR183_8, kR183_9, kR183_21, kR183_26, kR183_27, kR183_30, kR183_31, kR183_33, kR183_34, kR183_36, kR183_37, kR183_38, kR183_39, kR183_40, kR183_41, kR183_42, kR183_43, kR183_44, kL184, kA184, kS184, kL185, kA185, kS185, kL186, kA186, kS186, kL187, kA187, kS187, kL188, kA188, kS188, kL189, kL190, kL191, kA191, kS191, kL192, kA192, kS192, kL193, kA193, kS193, kL194, kA194, kS194, kL195, kA195, kS195, kL196, kA196, kS196, kL197, kA197, kS197, kL198, kA198, kS198, kL199, kA199, kS199, kL200, kA200, kS200, kL201, kL202, kA202, kS202, kL203, kA203, kS203, kL204, kA204, kS204, kL205, kL206, kA206, kS206, l2 a ha, l2 b (show b < fb_ct p (gSt g) by omega), nn_xor, bitCount_ok (x16 (G a) (G b) (by omega) (by omega))]
          rw [fb_ct_succ, ← nI_succ, ← nI_succ]
          unfold ovP
          by_cases hc : nI (pC (G a ^^^ G b)) = x
          · rw [if_pos hc]; simp [hc]; rfl
          · rw [if_neg hc]; simp [hc]
        · simp only [f_X11_overlap_b67]
          rw [if_pos (by rw [nn_le (by omega) (by omega)]; exact Nat.le_refl _), ← nI_succ]
          rfl
      · simp only [f_X11_overlap_b48]
        rw [if_pos (by rw [nn_le (by omega) (by omega)]; exact Nat.le_refl _)]
        rfl
    · unfold f_X12_overlap
      rw [xck_ok (show xT (xw τ Q) 183 = 12 from sT183 hS), Option.bind_some, e3, Option.bind_some]
      show ((xgI (xw τ J) 183 12 35).bind fun v5 => _) = _
      simp (disch := first | assumption | omega) only [Option.bind_some, Option.map_some, xw_gR, xw_gN, xw_al, xw_ck, xw_uI, xw_ur, xup_at, xur_at, if_true, if_false, reduceIte, and_true, true_and, and_false, false_and, not_true_eq_false, not_false_eq_true, Nat.reduceEqDiff, eq_self, Nat.reduceAdd, Nat.reduceMul, kC1, kG1, kP1, kR1_0, kR1_1, kR1_2, kR1_3, kR1_4, kR1_5, kR1_6, kR1_7, kR1_8, kR1_9, kR1_10, kR1_11, kR1_12, kR1_13, kC2, kG2, kP2, kR2_0, kR2_1, kC3, kG3, kP3, kR3_0, kR3_1, kR3_2, kR3_3, kL4, kA4, kS4, kL5, kA5, kS5, kL6, kA6, kS6, kL7, kA7, kS7, kC8, kG8, kP8, kR8_0, kR8_1, kL9, kA9, kS9, kL10, kA10, kS10, kC11, kG11, kP11, kR11_0, kR11_1, kR11_2, kR11_3, kL12, kA12, kS12, kL13, kA13, kS13, kL14, kA14, kS14, kL15, kA15, kS15, kC16, kG16, kP16, kR16_0, kR16_1, kL17, kA17, kS17, kL18, kA18, kS18, kC19, kG19, kP19, kR19_0, kL20, kL141, kL146, kA146, kS146, kL151, kA151, kS151, kL156, kA156, kS156, kC157, kG157, kP157, kR157_0, kR157_1, kL158, kA158, kS158, kL159, kA159, kS159, kC161, kG161, kP161, kR161_0, kR161_1, kL162, kA162, kS162, kL163, kA163, kS163, kC165, kG165, kP165, kR165_0, kR165_1, kR165_2, kR165_3, kL166, kA166, kS166, kL167, kA167, kS167, kL168, kA168, kS168, kL169, kA169, kS169, kC170, kG170, kP170, kR170_0, kR170_1, kR170_2, kL171, kA171, kS171, kL172, kA172, kS172, kL173, kA173, kS173, kC174, kG174, kP174, kR174_0, kR174_1, kR174_2, kR174_3, kR174_4, kL175, kA175, kS175, kL176, kA176, kS176, kL177, kA177, kS177, kL178, kA178, kS178, kL179, kC180, kG180, kP180, kL181, kL182, kA182, kS182, kC183, kG183, kP183, kR183_1, kR183_3, kR183_5, kR183_6, kR183_7, kR183_8, kR183_9, kR183_21, kR183_26, kR183_27, kR183_30, kR183_31, kR183_33, kR183_34, kR183_36, kR183_37, kR183_38, kR183_39, kR183_40, kR183_41, kR183_42, kR183_43, kR183_44, kL184, kA184, kS184, kL185, kA185, kS185, kL186, kA186, kS186, kL187, kA187, kS187, kL188, kA188, kS188, kL189, kL190, kL191, kA191, kS191, kL192, kA192, kS192, kL193, kA193, kS193, kL194, kA194, kS194, kL195, kA195, kS195, kL196, kA196, kS196, kL197, kA197, kS197, kL198, kA198, kS198, kL199, kA199, kS199, kL200, kA200, kS200, kL201, kL202, kA202, kS202, kL203, kA203, kS203, kL204, kA204, kS204, kL205, kL206, kA206, kS206, xw_w, K3.2.2.1, hn0, z0 J, q3, e150, many12 K3 hk, hCd, hle256]
      exact t1
  · have hle256 : (nI (fb_ct p (gSt g)) ≤ (256 : Int32)) = False := by
      rw [show (256 : Int32) = nI 256 from rfl, nn_le (by omega) (by omega)]; exact eq_false hbig
    refine ⟨-2, τ, xw τ I', ?_, ?_, INV_i H2.nop⟩
    · rw [A]
      unfold f_X11_overlap_j4
      simp (disch := first | assumption | omega) only [Option.bind_some, Option.map_some, xw_gR, xw_gN, xw_al, xw_ck, xw_uI, xw_ur, xup_at, xur_at, if_true, if_false, reduceIte, and_true, true_and, and_false, false_and, not_true_eq_false, not_false_eq_true, Nat.reduceEqDiff, eq_self, Nat.reduceAdd, Nat.reduceMul, kC1, kG1, kP1, kR1_0, kR1_1, kR1_2, kR1_3, kR1_4, kR1_5, kR1_6, kR1_7, kR1_8, kR1_9, kR1_10, kR1_11, kR1_12, kR1_13, kC2, kG2, kP2, kR2_0, kR2_1, kC3, kG3, kP3, kR3_0, kR3_1, kR3_2, kR3_3, kL4, kA4, kS4, kL5, kA5, kS5, kL6, kA6, kS6, kL7, kA7, kS7, kC8, kG8, kP8, kR8_0, kR8_1, kL9, kA9, kS9, kL10, kA10, kS10, kC11, kG11, kP11, kR11_0, kR11_1, kR11_2, kR11_3, kL12, kA12, kS12, kL13, kA13, kS13, kL14, kA14, kS14, kL15, kA15, kS15, kC16, kG16, kP16, kR16_0, kR16_1, kL17, kA17, kS17, kL18, kA18, kS18, kC19, kG19, kP19, kR19_0, kL20, kL141, kL146, kA146, kS146, kL151, kA151, kS151, kL156, kA156, kS156, kC157, kG157, kP157, kR157_0, kR157_1, kL158, kA158, kS158, kL159, kA159, kS159, kC161, kG161, kP161, kR161_0, kR161_1, kL162, kA162, kS162, kL163, kA163, kS163, kC165, kG165, kP165, kR165_0, kR165_1, kR165_2, kR165_3, kL166, kA166, kS166, kL167, kA167, kS167, kL168, kA168, kS168, kL169, kA169, kS169, kC170, kG170, kP170, kR170_0, kR170_1, kR170_2, kL171, kA171, kS171, kL172, kA172, kS172, kL173, kA173, kS173, kC174, kG174, kP174, kR174_0, kR174_1, kR174_2, kR174_3, kR174_4, kL175, kA175, kS175, kL176, kA176, kS176, kL177, kA177, kS177, kL178, kA178, kS178, kL179, kC180, kG180, kP180, kL181, kL182, kA182, kS182, kC183, kG183, kP183, kR183_1, kR183_3, kR183_5, kR183_6, kR183_7, kR183_8, kR183_9, kR183_21, kR183_26, kR183_27, kR183_30, kR183_31, kR183_33, kR183_34, kR183_36, kR183_37, kR183_38, kR183_39, kR183_40, kR183_41, kR183_42, kR183_43, kR183_44, kL184, kA184, kS184, kL185, kA185, kS185, kL186, kA186, kS186, kL187, kA187, kS187, kL188, kA188, kS188, kL189, kL190, kL191, kA191, kS191, kL192, kA192, kS192, kL193, kA193, kS193, kL194, kA194, kS194, kL195, kA195, kS195, kL196, kA196, kS196, kL197, kA197, kS197, kL198, kA198, kS198, kL199, kA199, kS199, kL200, kA200, kS200, kL201, kL202, kA202, kS202, kL203, kA203, kS203, kL204, kA204, kS204, kL205, kL206, kA206, kS206, hL.2.2.2.1, hn0, hen, waysOf_ok hS hL hk, hCd, hle256]
      rfl
    · unfold f_X12_overlap
      rw [xck_ok (sT183 hS), Option.bind_some, e2, Option.bind_some]
      simp (disch := first | assumption | omega) only [Option.bind_some, Option.map_some, xw_gR, xw_gN, xw_al, xw_ck, xw_uI, xw_ur, xup_at, xur_at, if_true, if_false, reduceIte, and_true, true_and, and_false, false_and, not_true_eq_false, not_false_eq_true, Nat.reduceEqDiff, eq_self, Nat.reduceAdd, Nat.reduceMul, kC1, kG1, kP1, kR1_0, kR1_1, kR1_2, kR1_3, kR1_4, kR1_5, kR1_6, kR1_7, kR1_8, kR1_9, kR1_10, kR1_11, kR1_12, kR1_13, kC2, kG2, kP2, kR2_0, kR2_1, kC3, kG3, kP3, kR3_0, kR3_1, kR3_2, kR3_3, kL4, kA4, kS4, kL5, kA5, kS5, kL6, kA6, kS6, kL7, kA7, kS7, kC8, kG8, kP8, kR8_0, kR8_1, kL9, kA9, kS9, kL10, kA10, kS10, kC11, kG11, kP11, kR11_0, kR11_1, kR11_2, kR11_3, kL12, kA12, kS12, kL13, kA13, kS13, kL14, kA14, kS14, kL15, kA15, kS15, kC16, kG16, kP16, kR16_0, kR16_1, kL17, kA17, kS17, kL18, kA18, kS18, kC19, kG19, kP19, kR19_0, kL20, kL141, kL146, kA146, kS146, kL151, kA151, kS151, kL156, kA156, kS156, kC157, kG157, kP157, kR157_0, kR157_1, kL158, kA158, kS158, kL159, kA159, kS159, kC161, kG161, kP161, kR161_0, kR161_1, kL162, kA162, kS162, kL163, kA163, kS163, kC165, kG165, kP165, kR165_0, kR165_1, kR165_2, kR165_3, kL166, kA166, kS166, kL167, kA167, kS167, kL168, kA168, kS168, kL169, kA169, kS169, kC170, kG170, kP170, kR170_0, kR170_1, kR170_2, kL171, kA171, kS171, kL172, kA172, kS172, kL173, kA173, kS173, kC174, kG174, kP174, kR174_0, kR174_1, kR174_2, kR174_3, kR174_4, kL175, kA175, kS175, kL176, kA176, kS176, kL177, kA177, kS177, kL178, kA178, kS178, kL179, kC180, kG180, kP180, kL181, kL182, kA182, kS182, kC183, kG183, kP183, kR183_1, kR183_3, kR183_5, kR183_6, kR183_7, kR183_8, kR183_9, kR183_21, kR183_26, kR183_27, kR183_30, kR183_31, kR183_33, kR183_34, kR183_36, kR183_37, kR183_38, kR183_39, kR183_40, kR183_41, kR183_42, kR183_43, kR183_44, kL184, kA184, kS184, kL185, kA185, kS185, kL186, kA186, kS186, kL187, kA187, kS187, kL188, kA188, kS188, kL189, kL190, kL191, kA191, kS191, kL192, kA192, kS192, kL193, kA193, kS193, kL194, kA194, kS194, kL195, kA195, kS195, kL196, kA196, kS196, kL197, kA197, kS197, kL198, kA198, kS198, kL199, kA199, kS199, kL200, kA200, kS200, kL201, kL202, kA202, kS202, kL203, kA203, kS203, kL204, kA204, kS204, kL205, kL206, kA206, kS206, hK.2.2.1, hn0, z0 I', q0, e150, many12 hK hk, hCd, hle256]
end
section
/-! filling the energies that lie aside -/
theorem IV.aside {n : Nat} {σ τ : XS} {g : GD} {gT gP : GH} {st : Nat} (H : IV n σ g gT gP st) {c b k : Nat} {g' : GD} {G : Nat → Int} {I1 : Nat → Nat → Int32} (hE : EnO σ 161 c (2 ^ b)) (u1 : ∀ a k, a ≠ 172 → I1 a k = xI σ a k) (hτ : FlR σ I1 161 g' G k b τ) : IV n τ g gT gP st := by
  obtain ⟨hτS, ⟨c', b', hE', f1, f2, f3, f4, f5, f6, f7, f8, f9⟩, f10, f11, f12, f13⟩ := hτ
  have hS := H.shp
  have h206 := hS.1
  have hEb' := hE'.b
  obtain ⟨a0, b0, h1, h2, h3, h4, h5, h6, h7, h8, h9, h10, h11⟩ := H.cel
  have hne : c' ≠ xR σ 157 4 := by
    rcases f5 with z | z
    · rw [z]; exact fun q => h7 q.symm
    · omega
  have fr : ∀ a j, a ≤ xn σ → a ≠ c' → (a < 161 ∨ 163 < a) → a ≠ 172 → xI τ a j = xI σ a j := fun a j q1 q2 q3 q4 => by rw [f9 a j q2 q1 (by omega), u1 a j q4]
  have r157 : xR τ 157 4 = xR σ 157 4 := f12 157 4 (by omega) (by omega)
  refine H.cache hτS (fun a j h => fr a j (by omega) (by omega) (by omega) (by omega)) ?_ ?_
  · obtain ⟨c1, c2, c3, c4⟩ := H.cch
    refine ⟨?_, ?_, ?_, ?_⟩
    · rw [fr 157 5 (by omega) (by omega) (by omega) (by omega)]
      rcases c1 with z | ⟨t, z1, z2, z3, z4⟩
      · exact .inl z
      · refine .inr ⟨t, z1, z2, ?_, fun s hs => ?_⟩
        · rw [r157]
          unfold xlen
          rw [f11 _ h8]
          exact z3
        · rw [r157, fr _ _ h8 hne.symm (by omega) (by omega)]
          exact z4 s hs
    · rw [fr 165 5 (by omega) (by omega) (by omega) (by omega)]
      rcases c2 with z | ⟨q, z1, z2, z3⟩
      · exact .inl z
      · exact .inr ⟨q, z1, z2, LVK_c (fun a j h => fr a j (by omega) (by omega) (by omega) (by omega)) z3⟩
    · rw [fr 170 3 (by omega) (by omega) (by omega) (by omega)]
      rcases c3 with z | ⟨q, z1, z2, z3⟩
      · exact .inl z
      · exact .inr ⟨q, z1, z2, BRK_c (fun j => fr 171 j (by omega) (by omega) (by omega) (by omega)) z3⟩
    · rw [fr 174 10 (by omega) (by omega) (by omega) (by omega)]
      rcases c4 with z | ⟨q, z1, z2, z3⟩
      · exact .inl z
      · refine .inr ⟨q, z1, z2, ?_⟩
        intro hs
        have := TRK_c (I' := xI τ) (fun a j h => fr a j (by omega) (by omega) (by omega) (by omega)) z3 hs
        rw [f12 174 5 (by omega) (by omega), f12 174 6 (by omega) (by omega)]
        exact this
  · have eb : b0 = b := by
      have q := hE.2.2.1
      rw [hE.2.1] at h4
      rw [h4] at q
      have q2 := congrArg Prod.snd q
      exact Nat.le_antisymm ((Nat.pow_le_pow_iff_right (by decide)).mp (Nat.le_of_eq q2)) ((Nat.pow_le_pow_iff_right (by decide)).mp (Nat.le_of_eq q2.symm))
    refine ⟨a0, b', h1, f2, ?_, ?_, ?_, ?_, ?_, ?_, ?_, ?_, ?_, fun k hk => (f13 190 k (by omega)).trans (h11.2 k hk)⟩
    · rw [r157, f11 _ h8]; exact h3
    · rw [hE'.2.1]; exact hE'.2.2.1
    · rw [r157]; exact h5
    · rw [hE'.2.1]; exact hE'.2.2.2.2
    · rw [hE'.2.1, r157]; exact fun q => hne q.symm
    · rw [r157]; omega
    · rw [hE'.2.1]; exact f4
    · omega
    · omega
theorem IV.brk {n : Nat} {σ : XS} {g : GD} {gT gP : GH} {st : Nat} (H : IV n σ g gT gP st) {Q : Nat → Nat → Int32} (u : ∀ a k, ¬ (170 ≤ a ∧ a ≤ 171) → Q a k = xI σ a k) (hb : Q 170 3 = -1 ∨ ∃ p, p ≤ st ∧ Q 170 3 = nI p ∧ BRK Q (gP p).1 (gP p).2) : IV n (xw σ Q) g gT gP st := by
  have hc := H.cells
  refine H.cache H.shp (fun a k h => u a k (by omega)) ?_ H.cel
  obtain ⟨c1, c2, c3, c4⟩ := H.cch
  refine ⟨?_, ?_, hb, ?_⟩
  · rw [xw_I, u 157 5 (by omega)]
    rcases c1 with z | ⟨q, z1, z2, z3⟩
    · exact .inl z
    · exact .inr ⟨q, z1, z2, ENK_c (R := xR σ) (fun k => u _ k (by omega)) z3⟩
  · rw [xw_I, u 165 5 (by omega)]
    rcases c2 with z | ⟨q, z1, z2, z3⟩
    · exact .inl z
    · exact .inr ⟨q, z1, z2, LVK_c (fun a k h => u _ k (by omega)) z3⟩
  · rw [xw_I, u 174 10 (by omega)]
    rcases c4 with z | ⟨q, z1, z2, z3⟩
    · exact .inl z
    · exact .inr ⟨q, z1, z2, TRK_c (fun a k h => u _ k (by omega)) z3⟩
/-! breaks -/
def sgn (z : Int) : Int := if 0 < z then 1 else if z < 0 then -1 else 0
theorem signum_ok {x : Int32} (h1 : -3 ≤ x.toInt) (h2 : x.toInt ≤ 3) : f_J6_signum_0f7a4 x = some (iI (sgn x.toInt)) := by
  have e := iI_of x
  rcases (show x.toInt = -3 ∨ x.toInt = -2 ∨ x.toInt = -1 ∨ x.toInt = 0 ∨ x.toInt = 1 ∨ x.toInt = 2 ∨ x.toInt = 3 by omega) with z | z | z | z | z | z | z <;> rw [z] at e ⊢ <;> rw [e] <;> decide
def SG (g : GD) (F : Nat → Int32) (t : Nat) : Int := if t < 32 then (if gTo g t = none then 0 else sgn (F t).toInt) else 0
theorem SG_b (g : GD) (F : Nat → Int32) (t : Nat) : -1 ≤ SG g F t ∧ SG g F t ≤ 1 := by
  unfold SG sgn
  split
  · split
    · omega
    · split
      · omega
      · split <;> omega
  · omega
def tld (g : GD) (F : Nat → Int32) (m : Nat) : Int := fb_si (fun t => if SG g F t < 0 then -SG g F t else SG g F t) m
theorem tld_b (g : GD) (F : Nat → Int32) (m : Nat) : -(m : Int) ≤ tld g F m ∧ tld g F m ≤ m := by
  have := fb_si_bound (f := fun t => if SG g F t < 0 then -SG g F t else SG g F t) (c := 1) (by decide) (n := m) (fun t _ => by
    have := SG_b g F t
    split <;> omega)
  unfold tld
  omega
theorem bk_sum {g : GD} (hg : g ∈ gAll) (F : Nat → Int32) (s : Nat) : tld g F 32 + eE g (SG g F) s = 2 * (bk g F s : Int) := by
  have h16 := (gAll_b g hg).2.2.1
  have hH : fb_si (eH (SG g F) s) (gSz g) = 0 := by
    rw [fb_si_z (k := 0) (Nat.zero_le _) (fun i _ hi => by
      unfold eH SG
      rw [if_neg (show ¬ (32 + i < 32) by omega)]
      split <;> rfl)]
    rfl
  unfold eE
  rw [hH, Int.add_zero]
  unfold tld bk
  rw [← fb_si_add]
  have key : ∀ m, m ≤ 32 → fb_si (fun t => (if SG g F t < 0 then -SG g F t else SG g F t) + eT g (SG g F) s t) m = 2 * (fb_ct (bkP g F s) m : Int) := by
    intro m
    induction m with
    | zero => intro _; rfl
    | succ m ih =>
      intro hm
      rw [fb_si_succ, ih (by omega), fb_ct_succ]
      have : (if SG g F m < 0 then -SG g F m else SG g F m) + eT g (SG g F) s m = if bkP g F s m then 2 else 0 := by
        unfold eT bkP SG
        rw [if_pos (show m < 32 by omega)]
        cases he : gTo g m with
        | none => simp
        | some e =>
          have hz : (F m = 0) ↔ ((F m).toInt = 0) := by rw [fa_eq]; rfl
          unfold sgn
          simp only [reduceCtorEq, if_false, ne_eq, hz]
          by_cases hb : s.testBit (gFr m) = s.testBit e
          · rcases Int.lt_trichotomy (F m).toInt 0 with h | h | h
            · have a1 : ¬ 0 < (F m).toInt := by omega
              have a2 : ¬ (F m).toInt = 0 := by omega
              simp [hb, h, a1, a2]
            · simp [hb, h]
            · have a1 : ¬ (F m).toInt < 0 := by omega
              have a2 : ¬ (F m).toInt = 0 := by omega
              simp [hb, h, a1, a2]
          · rcases Int.lt_trichotomy (F m).toInt 0 with h | h | h
            · have a1 : ¬ 0 < (F m).toInt := by omega
              have a2 : ¬ (F m).toInt = 0 := by omega
              simp [hb, h, a1, a2]
            · simp [hb, h]
            · have a1 : ¬ (F m).toInt < 0 := by omega
              have a2 : ¬ (F m).toInt = 0 := by omega
              simp [hb, h, a1, a2]
      rw [this]
      cases bkP g F s m <;> simp <;> omega
  exact key 32 (Nat.le_refl _)
end
section
/-! breaks on the heap -/
def sgI (I : Nat → Nat → Int32) (g : GD) (F : Nat → Int32) (t : Nat) : Nat → Nat → Int32 := fun a k => if a = 172 ∧ k < t then iI (SG g F k) else I a k
theorem sgI_out {I : Nat → Nat → Int32} {g : GD} {F : Nat → Int32} {t a k : Nat} (h : a ≠ 172) : sgI I g F t a k = I a k := by
  unfold sgI; rw [if_neg (fun z => h z.1)]
theorem sgI_s {I : Nat → Nat → Int32} {g : GD} {F : Nat → Int32} {t : Nat} : xup (sgI I g F t) 172 t (iI (SG g F t)) = sgI I g F (t + 1) := by
  funext a k
  simp only [xup_at, sgI]
  by_cases h : a = 172
  · subst h
    by_cases h1 : k = t
    · subst h1; simp
    · have : (k < t + 1) ↔ (k < t) := by omega
      simp [h1, this]
  · simp [h]
theorem xabs_i {z : Int} (h1 : -1 ≤ z) (h2 : z ≤ 1) : xabs (iI z) = iI (if z < 0 then -z else z) := by
  rcases (show z = -1 ∨ z = 0 ∨ z = 1 by omega) with rfl | rfl | rfl <;> decide
def brI (I : Nat → Nat → Int32) (g : GD) (F : Nat → Int32) (s : Nat) : Nat → Nat → Int32 := fun a k => if a = 171 ∧ k < 33 then nI (fb_ct (fun s => lW g F s && decide (bk g F s = k)) s) else I a k
theorem brI_out {I : Nat → Nat → Int32} {g : GD} {F : Nat → Int32} {s a k : Nat} (h : a ≠ 171) : brI I g F s a k = I a k := by
  unfold brI; rw [if_neg (fun z => h z.1)]
theorem bk_b (g : GD) (F : Nat → Int32) (s : Nat) : bk g F s ≤ 32 := fb_ct_le _ _
theorem brI_no {I : Nat → Nat → Int32} {g : GD} {F : Nat → Int32} {s : Nat} (h : lW g F s = false) : brI I g F (s + 1) = brI I g F s := by
  funext a k
  unfold brI
  rw [fb_ct_succ, h]
  rfl
theorem brI_yes {I : Nat → Nat → Int32} {g : GD} {F : Nat → Int32} {s : Nat} (h : lW g F s = true) : xup (brI I g F s) 171 (bk g F s) (nI (fb_ct (fun t => lW g F t && decide (bk g F t = bk g F s)) s) + 1) = brI I g F (s + 1) := by
  have hb := bk_b g F s
  funext a k
  simp only [xup_at, brI]
  by_cases h0 : a = 171
  · subst h0
    by_cases h1 : k = bk g F s
    · subst h1
      have : bk g F s < 33 := by omega
      simp [this, fb_ct_succ, h, nI_succ]
    · have h2 : ¬ bk g F s = k := fun z => h1 z.symm
      simp [h1, fb_ct_succ, h, h2]
  · simp [h0]
theorem breaks_ok {n : Nat} {σ : XS} {g : GD} {gT gP : GH} {st : Nat} (H : IV n σ g gT gP st) : ∃ τ Q, f_X0_gather (xw σ (xI σ)) 170 11 16 161 = some (xw τ Q) ∧ IV n τ g gT gP st ∧ (∀ a k, a ≠ 171 → Q a k = xI τ a k) ∧ BRK Q g (xI σ 191) ∧ ∀ a k, (a < 161 ∨ (165 ≤ a ∧ a ≤ 171) ∨ (173 ≤ a ∧ a ≤ 206)) → xI τ a k = xI σ a k := by
  have hS := H.shp
  have hG := H.grd
  have hg := hG.1
  have h16 := (gAll_b g hg).2.2.1
  have hSt := (gSt_b hg).1
  obtain ⟨F, hF⟩ : ∃ F, F = xI σ 191 := ⟨_, rfl⟩
  have hSR := H.now.1
  have ho := H.now.2.1
  rw [← hF] at hSR ho ⊢
  obtain ⟨c, b, hE, hb, hcn⟩ := H.en161
  have hEb := hE.b
  have K172 : σ.1 172 = (20, 32) := xw_K hS (by decide) (by decide) (by decide)
  have K173 : σ.1 173 = (20, 16) := xw_K hS (by decide) (by decide) (by decide)
  have hGs : ∀ t, GRD (sgI (xI σ) g F t) g := fun t => GRD_c (fun a k z => sgI_out (by unfold sGRD at z; omega)) hG
  have hSs : ∀ t, SR g (sgI (xI σ) g F t) 16 F := fun t => SR_m hg (fun k _ _ => sgI_out (by omega)) (fun k _ => sgI_out (by omega)) (fun k _ => sgI_out (by omega)) (fun k _ => rfl) hSR
  obtain ⟨τ, e1, hτ⟩ := fill11_ok (I := sgI (xI σ) g F 32) (k := gSz g) (F := SG g F) hS (hGs 32) hE hb hcn K172 K173 (by omega) (by omega) (by omega) (by omega) (by omega) (by omega) (Nat.le_refl _)
    (fun t ht _ => ⟨by unfold sgI; rw [if_pos ⟨rfl, ht⟩], by have := SG_b g F t; omega, by have := SG_b g F t; omega⟩)
    (fun i hi => by
      rw [sgI_out (by decide), hG.2.2.2.2.2.2.2.2.2.2.2.2 i (by omega)]
      unfold SG
      rw [if_neg (by omega)]
      rfl)
  have HA := H.aside hE (fun a k h => sgI_out h) hτ
  have hτ2 := hτ
  obtain ⟨hτS, ⟨c', b', hE', f1, f2, f3, f4, f5, f6, f7, f8, f9⟩, f10, f11, f12, f13⟩ := hτ
  have hEb' := hE'.b
  have h206 := hS.1
  have fr : ∀ a k, (a < 161 ∨ (165 ≤ a ∧ a ≤ 171) ∨ (173 ≤ a ∧ a ≤ 206)) → xI τ a k = xI σ a k := fun a k h => by
    rw [f9 a k (by omega) (by omega) (by omega), sgI_out (by omega)]
  have hGτ := HA.grd
  have hSRτ := HA.now.1
  have rτ : xI τ 191 = F := by rw [hF]; funext k; exact fr 191 k (by omega)
  rw [rτ] at hSRτ
  have K171 : τ.1 171 = (20, 33) := xw_K hτS (by decide) (by decide) (by decide)
  have hGb : ∀ s, GRD (brI (xI τ) g F s) g := fun s => GRD_c (fun a k z => brI_out (by unfold sGRD at z; omega)) hGτ
  have hSb : ∀ s, SR g (brI (xI τ) g F s) 16 F := fun s => SR_m hg (fun k _ _ => brI_out (by omega)) (fun k _ => brI_out (by omega)) (fun k _ => brI_out (by omega)) (fun k _ => rfl) hSRτ
  have loop2 : f_X0_gather_j81 (xw τ (xI τ)) 170 11 16 161 (iI (tld g F 32)) = some (xw τ (brI (xI τ) g F (gSt g))) := by
    unfold f_X0_gather_j81
    have e0 : xur (xI τ) 171 (fun j => if j < 33 then 0 else xI τ 171 j) = brI (xI τ) g F 0 := by
      funext a k
      unfold xur brI
      by_cases h : a = 171
      · subst h
        by_cases h1 : k < 33
        · simp [h1]; rfl
        · simp [h1]
      · simp [h]
    simp (disch := first | assumption | omega) only [Option.bind_some, Option.map_some, xw_gR, xw_gN, xw_al, xw_ck, xw_uI, xw_ur, xup_at, xur_at, if_true, if_false, reduceIte, and_true, true_and, and_false, false_and, not_true_eq_false, not_false_eq_true, Nat.reduceEqDiff, eq_self, Nat.reduceAdd, Nat.reduceMul, kC1, kG1, kP1, kR1_0, kR1_1, kR1_2, kR1_3, kR1_4, kR1_5, kR1_6, kR1_7, kR1_8, kR1_9, kR1_10, kR1_11, kR1_12, kR1_13, kC2, kG2, kP2, kR2_0, kR2_1, kC3, kG3, kP3, kR3_0, kR3_1, kR3_2, kR3_3, kL4, kA4, kS4, kL5, kA5, kS5, kL6, kA6, kS6, kL7, kA7, kS7, kC8, kG8, kP8, kR8_0, kR8_1, kL9, kA9, kS9, kL10, kA10, kS10, kC11, kG11, kP11, kR11_0, kR11_1, kR11_2, kR11_3, kL12, kA12, kS12, kL13, kA13, kS13, kL14, kA14, kS14, kL15, kA15, kS15, kC16, kG16, kP16, kR16_0, kR16_1, kL17, kA17, kS17, kL18, kA18, kS18, kC19, kG19, kP19, kR19_0, kL20, kL141, kL146, kA146, kS146, kL151, kA151, kS151, kL156, kA156, kS156, kC157, kG157, kP157, kR157_0, kR157_1, kL158, kA158, kS158, kL159, kA159, kS159, kC161, kG161, kP161, kR161_0, kR161_1, kL162, kA162, kS162, kL163, kA163, kS163, kC165, kG165, kP165, kR165_0, kR165_1, kR165_2, kR165_3, kL166, kA166, kS166, kL167, kA167, kS167, kL168, kA168, kS168, kL169, kA169, kS169, kC170, kG170, kP170, kR170_0, kR170_1, kR170_2, kL171, kA171, kS171, kL172, kA172, kS172, kL173, kA173, kS173, kC174, kG174, kP174, kR174_0, kR174_1, kR174_2, kR174_3, kR174_4, kL175, kA175, kS175, kL176, kA176, kS176, kL177, kA177, kS177, kL178, kA178, kS178, kL179, kC180, kG180, kP180, kL181, kL182, kA182, kS182, kC183, kG183, kP183, kR183_1, kR183_3, kR183_5, kR183_6, kR183_7, kR183_8, kR183_9, kR183_21, kR183_26, kR183_27, kR183_30, kR183_31, kR183_33, kR183_34, kR183_36, kR183_37, kR183_38, kR183_39, kR183_40, kR183_41, kR183_42, kR183_43, kR183_44, kL184, kA184, kS184, kL185, kA185, kS185, kL186, kA186, kS186, kL187, kA187, kS187, kL188, kA188, kS188, kL189, kL190, kL191, kA191, kS191, kL192, kA192, kS192, kL193, kA193, kS193, kL194, kA194, kS194, kL195, kA195, kS195, kL196, kA196, kS196, kL197, kA197, kS197, kL198, kA198, kS198, kL199, kA199, kS199, kL200, kA200, kS200, kL201, kL202, kA202, kS202, kL203, kA203, kS203, kL204, kA204, kS204, kL205, kL206, kA206, kS206, fillI_ok K171, e0, states11_ok hτS (hGb 0)]
    refine xforE (fun s : Nat => (nI s, xw τ (brI (xI τ) g F s))) (gSt g) rfl (fun s hs => ?_) ?_
    · have hs2 := (gSt_pos hs).2
      have hm : 2 ^ gSz g ≤ 2 ^ b' := Nat.pow_le_pow_right (by decide) f3
      have hof : f_X2_of (xw τ (brI (xI τ) g F s)) 161 (nI s) = some (iI (eE g (SG g F) s)) := by
        rw [of_at hτS hE' (by omega), brI_out (by omega), f8 s hs2, eP_all hg]
      have hsum := bk_sum hg F s
      have hbb := bk_b g F s
      have hdiv : (iI (tld g F 32) + iI (eE g (SG g F) s)) / (2 : Int32) = nI (bk g F s) := by
        rw [iI_add, hsum, show (2 : Int32) = nI 2 from rfl]
        have : iI (2 * (bk g F s : Int)) = nI (2 * bk g F s) := by rw [iI_n]; rfl
        rw [this, nn_div (by omega) (by omega)]
        congr 1; omega
      simp only [f_X0_gather_b98]
      rw [if_neg (by rw [nn_le (by omega) (by omega)]; omega)]
      have kv : brI (xI τ) g F s 171 (bk g F s) = nI (fb_ct (fun t => lW g F t && decide (bk g F t = bk g F s)) s) := by
        unfold brI; rw [if_pos ⟨rfl, by omega⟩]
      simp (disch := first | assumption | omega) only [Option.bind_some, Option.map_some, xw_gR, xw_gN, xw_al, xw_ck, xw_uI, xw_ur, xup_at, xur_at, if_true, if_false, reduceIte, and_true, true_and, and_false, false_and, not_true_eq_false, not_false_eq_true, Nat.reduceEqDiff, eq_self, Nat.reduceAdd, Nat.reduceMul, kC1, kG1, kP1, kR1_0, kR1_1, kR1_2, kR1_3, kR1_4, kR1_5, kR1_6, kR1_7, kR1_8, kR1_9, kR1_10, kR1_11, kR1_12, kR1_13, kC2, kG2, kP2, kR2_0, kR2_1, kC3, kG3, kP3, kR3_0, kR3_1, kR3_2, kR3_3, kL4, kA4, kS4, kL5, kA5, kS5, kL6, kA6, kS6, kL7, kA7, kS7, kC8, kG8, kP8, kR8_0, kR8_1, kL9, kA9, kS9, kL10, kA10, kS10, kC11, kG11, kP11, kR11_0, kR11_1, kR11_2, kR11_3, kL12, kA12, kS12, kL13, kA13, kS13, kL14, kA14, kS14, kL15, kA15, kS15, kC16, kG16, kP16, kR16_0, kR16_1, kL17, kA17, kS17, kL18, kA18, kS18, kC19, kG19, kP19, kR19_0, kL20, kL141, kL146, kA146, kS146, kL151, kA151, kS151, kL156, kA156, kS156, kC157, kG157, kP157, kR157_0, kR157_1, kL158, kA158, kS158, kL159, kA159, kS159, kC161, kG161, kP161, kR161_0, kR161_1, kL162, kA162, kS162, kL163, kA163, kS163, kC165, kG165, kP165, kR165_0, kR165_1, kR165_2, kR165_3, kL166, kA166, kS166, kL167, kA167, kS167, kL168, kA168, kS168, kL169, kA169, kS169, kC170, kG170, kP170, kR170_0, kR170_1, kR170_2, kL171, kA171, kS171, kL172, kA172, kS172, kL173, kA173, kS173, kC174, kG174, kP174, kR174_0, kR174_1, kR174_2, kR174_3, kR174_4, kL175, kA175, kS175, kL176, kA176, kS176, kL177, kA177, kS177, kL178, kA178, kS178, kL179, kC180, kG180, kP180, kL181, kL182, kA182, kS182, kC183, kG183, kP183, kR183_1, kR183_3, kR183_5, kR183_6, kR183_7, kR183_8, kR183_9, kR183_21, kR183_26, kR183_27, kR183_30, kR183_31, kR183_33, kR183_34, kR183_36, kR183_37, kR183_38, kR183_39, kR183_40, kR183_41, kR183_42, kR183_43, kR183_44, kL184, kA184, kS184, kL185, kA185, kS185, kL186, kA186, kS186, kL187, kA187, kS187, kL188, kA188, kS188, kL189, kL190, kL191, kA191, kS191, kL192, kA192, kS192, kL193, kA193, kS193, kL194, kA194, kS194, kL195, kA195, kS195, kL196, kA196, kS196, kL197, kA197, kS197, kL198, kA198, kS198, kL199, kA199, kS199, kL200, kA200, kS200, kL201, kL202, kA202, kS202, kL203, kA203, kS203, kL204, kA204, kS204, kL205, kL206, kA206, kS206, hof, allows_ok hτS hg suA_16 (hSb s), hdiv, nn_nneg, nn_le, show ¬ (33 ≤ bk g F s) by omega, kv]
      rw [← nI_succ]
      cases hl : lW g F s with
      | false => rw [if_pos (by decide), brI_no hl]
      | true =>
        rw [if_neg (by decide)]
        have := brI_yes (I := xI τ) hl
        rw [nI_succ] 
        rw [this]
    · simp only [f_X0_gather_b98]
      rw [if_pos (by rw [nn_le (by omega) (by omega)]; exact Nat.le_refl _)]
      rfl
  refine ⟨τ, brI (xI τ) g F (gSt g), ?_, HA, fun a k h => brI_out h, fun m hm => ?_, fr⟩
  · unfold f_X0_gather
    refine xforE (fun t : Nat => (iI (tld g F t), nI t, xw σ (sgI (xI σ) g F t))) 32 ?_ (fun t ht => ?_) ?_
    · congr 3
      funext a k
      unfold sgI
      rw [if_neg (by omega)]
    · simp only [f_X0_gather_b6]
      rw [if_neg (by rw [show (32 : Int32) = nI 32 from rfl, nn_le (by omega) (by omega)]; omega)]
      have hsb := SG_b g F t
      have main : f_X0_gather_j42 (xw σ (sgI (xI σ) g F t)) 170 11 16 161 (iI (tld g F t)) (nI t) 172 (nI t) (iI (SG g F t)) = some (.inl (iI (tld g F (t + 1)), nI (t + 1), xw σ (sgI (xI σ) g F (t + 1)))) := by
        unfold f_X0_gather_j42
        simp (disch := first | assumption | omega) only [Option.bind_some, Option.map_some, xw_gR, xw_gN, xw_al, xw_ck, xw_uI, xw_ur, xup_at, xur_at, if_true, if_false, reduceIte, and_true, true_and, and_false, false_and, not_true_eq_false, not_false_eq_true, Nat.reduceEqDiff, eq_self, Nat.reduceAdd, Nat.reduceMul, kC1, kG1, kP1, kR1_0, kR1_1, kR1_2, kR1_3, kR1_4, kR1_5, kR1_6, kR1_7, kR1_8, kR1_9, kR1_10, kR1_11, kR1_12, kR1_13, kC2, kG2, kP2, kR2_0, kR2_1, kC3, kG3, kP3, kR3_0, kR3_1, kR3_2, kR3_3, kL4, kA4, kS4, kL5, kA5, kS5, kL6, kA6, kS6, kL7, kA7, kS7, kC8, kG8, kP8, kR8_0, kR8_1, kL9, kA9, kS9, kL10, kA10, kS10, kC11, kG11, kP11, kR11_0, kR11_1, kR11_2, kR11_3, kL12, kA12, kS12, kL13, kA13, kS13, kL14, kA14, kS14, kL15, kA15, kS15, kC16, kG16, kP16, kR16_0, kR16_1, kL17, kA17, kS17, kL18, kA18, kS18, kC19, kG19, kP19, kR19_0, kL20, kL141, kL146, kA146, kS146, kL151, kA151, kS151, kL156, kA156, kS156, kC157, kG157, kP157, kR157_0, kR157_1, kL158, kA158, kS158, kL159, kA159, kS159, kC161, kG161, kP161, kR161_0, kR161_1, kL162, kA162, kS162, kL163, kA163, kS163, kC165, kG165, kP165, kR165_0, kR165_1, kR165_2, kR165_3, kL166, kA166, kS166, kL167, kA167, kS167, kL168, kA168, kS168, kL169, kA169, kS169, kC170, kG170, kP170, kR170_0, kR170_1, kR170_2, kL171, kA171, kS171, kL172, kA172, kS172, kL173, kA173, kS173, kC174, kG174, kP174, kR174_0, kR174_1, kR174_2, kR174_3, kR174_4, kL175, kA175, kS175, kL176, kA176, kS176, kL177, kA177, kS177, kL178, kA178, kS178, kL179, kC180, kG180, kP180, kL181, kL182, kA182, kS182, kC183, kG183, kP183, kR183_1, kR183_3, kR183_5, kR183_6, kR183_7, kR183_8, kR183_9, kR183_21, kR183_26, kR183_27, kR183_30, kR183_31, kR183_33, kR183_34, kR183_36, kR183_37, kR183_38, kR183_39, kR183_40, kR183_41, kR183_42, kR183_43, kR183_44, kL184, kA184, kS184, kL185, kA185, kS185, kL186, kA186, kS186, kL187, kA187, kS187, kL188, kA188, kS188, kL189, kL190, kL191, kA191, kS191, kL192, kA192, kS192, kL193, kA193, kS193, kL194, kA194, kS194, kL195, kA195, kS195, kL196, kA196, kS196, kL197, kA197, kS197, kL198, kA198, kS198, kL199, kA199, kS199, kL200, kA200, kS200, kL201, kL202, kA202, kS202, kL203, kA203, kS203, kL204, kA204, kS204, kL205, kL206, kA206, kS206, xabs_i hsb.1 hsb.2, iI_add]
        rw [sgI_s, ← nI_succ]
        rfl
      simp (disch := first | assumption | omega) only [Option.bind_some, Option.map_some, xw_gR, xw_gN, xw_al, xw_ck, xw_uI, xw_ur, xup_at, xur_at, if_true, if_false, reduceIte, and_true, true_and, and_false, false_and, not_true_eq_false, not_false_eq_true, Nat.reduceEqDiff, eq_self, Nat.reduceAdd, Nat.reduceMul, kC1, kG1, kP1, kR1_0, kR1_1, kR1_2, kR1_3, kR1_4, kR1_5, kR1_6, kR1_7, kR1_8, kR1_9, kR1_10, kR1_11, kR1_12, kR1_13, kC2, kG2, kP2, kR2_0, kR2_1, kC3, kG3, kP3, kR3_0, kR3_1, kR3_2, kR3_3, kL4, kA4, kS4, kL5, kA5, kS5, kL6, kA6, kS6, kL7, kA7, kS7, kC8, kG8, kP8, kR8_0, kR8_1, kL9, kA9, kS9, kL10, kA10, kS10, kC11, kG11, kP11, kR11_0, kR11_1, kR11_2, kR11_3, kL12, kA12, kS12, kL13, kA13, kS13, kL14, kA14, kS14, kL15, kA15, kS15, kC16, kG16, kP16, kR16_0, kR16_1, kL17, kA17, kS17, kL18, kA18, kS18, kC19, kG19, kP19, kR19_0, kL20, kL141, kL146, kA146, kS146, kL151, kA151, kS151, kL156, kA156, kS156, kC157, kG157, kP157, kR157_0, kR157_1, kL158, kA158, kS158, kL159, kA159, kS159, kC161, kG161, kP161, kR161_0, kR161_1, kL162, kA162, kS162, kL163, kA163, kS163, kC165, kG165, kP165, kR165_0, kR165_1, kR165_2, kR165_3, kL166, kA166, kS166, kL167, kA167, kS167, kL168, kA168, kS168, kL169, kA169, kS169, kC170, kG170, kP170, kR170_0, kR170_1, kR170_2, kL171, kA171, kS171, kL172, kA172, kS172, kL173, kA173, kS173, kC174, kG174, kP174, kR174_0, kR174_1, kR174_2, kR174_3, kR174_4, kL175, kA175, kS175, kL176, kA176, kS176, kL177, kA177, kS177, kL178, kA178, kS178, kL179, kC180, kG180, kP180, kL181, kL182, kA182, kS182, kC183, kG183, kP183, kR183_1, kR183_3, kR183_5, kR183_6, kR183_7, kR183_8, kR183_9, kR183_21, kR183_26, kR183_27, kR183_30, kR183_31, kR183_33, kR183_34, kR183_36, kR183_37, kR183_38, kR183_39, kR183_40, kR183_41, kR183_42, kR183_43, kR183_44, kL184, kA184, kS184, kL185, kA185, kS185, kL186, kA186, kS186, kL187, kA187, kS187, kL188, kA188, kS188, kL189, kL190, kL191, kA191, kS191, kL192, kA192, kS192, kL193, kA193, kS193, kL194, kA194, kS194, kL195, kA195, kS195, kL196, kA196, kS196, kL197, kA197, kS197, kL198, kA198, kS198, kL199, kA199, kS199, kL200, kA200, kS200, kL201, kL202, kA202, kS202, kL203, kA203, kS203, kL204, kA204, kS204, kL205, kL206, kA206, kS206, endAt_ok hS (hGs t) ht, oI_none (gTo_s hg ht)]
      by_cases hno : gTo g t = none
      · rw [if_pos hno]
        have z : SG g F t = 0 := by unfold SG; rw [if_pos ht, if_pos hno]
        rw [z] at main
        exact main
      · rw [if_neg hno]
        have hr := ho.1 t (by omega)
        simp (disch := first | assumption | omega) only [Option.bind_some, Option.map_some, xw_gR, xw_gN, xw_al, xw_ck, xw_uI, xw_ur, xup_at, xur_at, if_true, if_false, reduceIte, and_true, true_and, and_false, false_and, not_true_eq_false, not_false_eq_true, Nat.reduceEqDiff, eq_self, Nat.reduceAdd, Nat.reduceMul, kC1, kG1, kP1, kR1_0, kR1_1, kR1_2, kR1_3, kR1_4, kR1_5, kR1_6, kR1_7, kR1_8, kR1_9, kR1_10, kR1_11, kR1_12, kR1_13, kC2, kG2, kP2, kR2_0, kR2_1, kC3, kG3, kP3, kR3_0, kR3_1, kR3_2, kR3_3, kL4, kA4, kS4, kL5, kA5, kS5, kL6, kA6, kS6, kL7, kA7, kS7, kC8, kG8, kP8, kR8_0, kR8_1, kL9, kA9, kS9, kL10, kA10, kS10, kC11, kG11, kP11, kR11_0, kR11_1, kR11_2, kR11_3, kL12, kA12, kS12, kL13, kA13, kS13, kL14, kA14, kS14, kL15, kA15, kS15, kC16, kG16, kP16, kR16_0, kR16_1, kL17, kA17, kS17, kL18, kA18, kS18, kC19, kG19, kP19, kR19_0, kL20, kL141, kL146, kA146, kS146, kL151, kA151, kS151, kL156, kA156, kS156, kC157, kG157, kP157, kR157_0, kR157_1, kL158, kA158, kS158, kL159, kA159, kS159, kC161, kG161, kP161, kR161_0, kR161_1, kL162, kA162, kS162, kL163, kA163, kS163, kC165, kG165, kP165, kR165_0, kR165_1, kR165_2, kR165_3, kL166, kA166, kS166, kL167, kA167, kS167, kL168, kA168, kS168, kL169, kA169, kS169, kC170, kG170, kP170, kR170_0, kR170_1, kR170_2, kL171, kA171, kS171, kL172, kA172, kS172, kL173, kA173, kS173, kC174, kG174, kP174, kR174_0, kR174_1, kR174_2, kR174_3, kR174_4, kL175, kA175, kS175, kL176, kA176, kS176, kL177, kA177, kS177, kL178, kA178, kS178, kL179, kC180, kG180, kP180, kL181, kL182, kA182, kS182, kC183, kG183, kP183, kR183_1, kR183_3, kR183_5, kR183_6, kR183_7, kR183_8, kR183_9, kR183_21, kR183_26, kR183_27, kR183_30, kR183_31, kR183_33, kR183_34, kR183_36, kR183_37, kR183_38, kR183_39, kR183_40, kR183_41, kR183_42, kR183_43, kR183_44, kL184, kA184, kS184, kL185, kA185, kS185, kL186, kA186, kS186, kL187, kA187, kS187, kL188, kA188, kS188, kL189, kL190, kL191, kA191, kS191, kL192, kA192, kS192, kL193, kA193, kS193, kL194, kA194, kS194, kL195, kA195, kS195, kL196, kA196, kS196, kL197, kA197, kS197, kL198, kA198, kS198, kL199, kA199, kS199, kL200, kA200, kS200, kL201, kL202, kA202, kS202, kL203, kA203, kS203, kL204, kA204, kS204, kL205, kL206, kA206, kS206, bond_SR hS suA_16 (hSs t) ht (Option.isSome_iff_ne_none.mpr hno), signum_ok hr.1 hr.2]
        have z : SG g F t = sgn (F t).toInt := by unfold SG; rw [if_pos ht, if_neg hno]
        rw [z] at main
        exact main
    · simp only [f_X0_gather_b6]
      rw [if_pos (by decide)]
      simp (disch := first | assumption | omega) only [Option.bind_some, Option.map_some, xw_gR, xw_gN, xw_al, xw_ck, xw_uI, xw_ur, xup_at, xur_at, if_true, if_false, reduceIte, and_true, true_and, and_false, false_and, not_true_eq_false, not_false_eq_true, Nat.reduceEqDiff, eq_self, Nat.reduceAdd, Nat.reduceMul, kC1, kG1, kP1, kR1_0, kR1_1, kR1_2, kR1_3, kR1_4, kR1_5, kR1_6, kR1_7, kR1_8, kR1_9, kR1_10, kR1_11, kR1_12, kR1_13, kC2, kG2, kP2, kR2_0, kR2_1, kC3, kG3, kP3, kR3_0, kR3_1, kR3_2, kR3_3, kL4, kA4, kS4, kL5, kA5, kS5, kL6, kA6, kS6, kL7, kA7, kS7, kC8, kG8, kP8, kR8_0, kR8_1, kL9, kA9, kS9, kL10, kA10, kS10, kC11, kG11, kP11, kR11_0, kR11_1, kR11_2, kR11_3, kL12, kA12, kS12, kL13, kA13, kS13, kL14, kA14, kS14, kL15, kA15, kS15, kC16, kG16, kP16, kR16_0, kR16_1, kL17, kA17, kS17, kL18, kA18, kS18, kC19, kG19, kP19, kR19_0, kL20, kL141, kL146, kA146, kS146, kL151, kA151, kS151, kL156, kA156, kS156, kC157, kG157, kP157, kR157_0, kR157_1, kL158, kA158, kS158, kL159, kA159, kS159, kC161, kG161, kP161, kR161_0, kR161_1, kL162, kA162, kS162, kL163, kA163, kS163, kC165, kG165, kP165, kR165_0, kR165_1, kR165_2, kR165_3, kL166, kA166, kS166, kL167, kA167, kS167, kL168, kA168, kS168, kL169, kA169, kS169, kC170, kG170, kP170, kR170_0, kR170_1, kR170_2, kL171, kA171, kS171, kL172, kA172, kS172, kL173, kA173, kS173, kC174, kG174, kP174, kR174_0, kR174_1, kR174_2, kR174_3, kR174_4, kL175, kA175, kS175, kL176, kA176, kS176, kL177, kA177, kS177, kL178, kA178, kS178, kL179, kC180, kG180, kP180, kL181, kL182, kA182, kS182, kC183, kG183, kP183, kR183_1, kR183_3, kR183_5, kR183_6, kR183_7, kR183_8, kR183_9, kR183_21, kR183_26, kR183_27, kR183_30, kR183_31, kR183_33, kR183_34, kR183_36, kR183_37, kR183_38, kR183_39, kR183_40, kR183_41, kR183_42, kR183_43, kR183_44, kL184, kA184, kS184, kL185, kA185, kS185, kL186, kA186, kS186, kL187, kA187, kS187, kL188, kA188, kS188, kL189, kL190, kL191, kA191, kS191, kL192, kA192, kS192, kL193, kA193, kS193, kL194, kA194, kS194, kL195, kA195, kS195, kL196, kA196, kS196, kL197, kA197, kS197, kL198, kA198, kS198, kL199, kA199, kS199, kL200, kA200, kS200, kL201, kL202, kA202, kS202, kL203, kA203, kS203, kL204, kA204, kS204, kL205, kL206, kA206, kS206, (hGs 32).2.2.2.2.1, e1]
      rw [show τ = xw τ (xI τ) from rfl, loop2]
      rfl
  · unfold brI
    rw [if_pos ⟨rfl, hm⟩]
end
section
/-! broken -/
theorem breaksNow_ok {n : Nat} {σ : XS} {g : GD} {gT gP : GH} {st : Nat} (hn : n ≤ 512) (H : IV n σ g gT gP st) : ∃ τ, f_X11_breaksNow σ 1 = some (170, τ) ∧ IV n τ g gT gP st ∧ BRK (xI τ) g (xI σ 191) ∧ (∀ a k, (a < 161 ∨ (165 ≤ a ∧ a ≤ 169) ∨ (173 ≤ a ∧ a ≤ 206)) → xI τ a k = xI σ a k) := by
  have hS := H.shp
  have hG := H.grd
  have hg := hG.1
  obtain ⟨hSR, hRO, t, p, ht, hp, e6, e7, gt1, gt2, gp1, gp2⟩ := H.now
  have hst := H.stn
  obtain ⟨τ, Q, g1, H1, uQ, hB, fr⟩ := breaks_ok H
  have hSτ := H1.shp
  have q16 : Q 16 7 = nI p := by rw [uQ 16 7 (by omega), fr 16 7 (by omega)]; exact e7
  have stp : f_X11_breaksNow σ 1 = if xI σ 170 3 = nI p then some (170, σ) else some (170, xw τ (xup Q 170 3 (nI p))) := by
    show f_X11_breaksNow (xw σ (xI σ)) 1 = _
    unfold f_X11_breaksNow
    simp (disch := first | assumption | omega) only [Option.bind_some, Option.map_some, xw_gR, xw_gN, xw_al, xw_ck, xw_uI, xw_ur, xup_at, xur_at, if_true, if_false, reduceIte, and_true, true_and, and_false, false_and, not_true_eq_false, not_false_eq_true, Nat.reduceEqDiff, eq_self, Nat.reduceAdd, Nat.reduceMul, kC1, kG1, kP1, kR1_0, kR1_1, kR1_2, kR1_3, kR1_4, kR1_5, kR1_6, kR1_7, kR1_8, kR1_9, kR1_10, kR1_11, kR1_12, kR1_13, kC2, kG2, kP2, kR2_0, kR2_1, kC3, kG3, kP3, kR3_0, kR3_1, kR3_2, kR3_3, kL4, kA4, kS4, kL5, kA5, kS5, kL6, kA6, kS6, kL7, kA7, kS7, kC8, kG8, kP8, kR8_0, kR8_1, kL9, kA9, kS9, kL10, kA10, kS10, kC11, kG11, kP11, kR11_0, kR11_1, kR11_2, kR11_3, kL12, kA12, kS12, kL13, kA13, kS13, kL14, kA14, kS14, kL15, kA15, kS15, kC16, kG16, kP16, kR16_0, kR16_1, kL17, kA17, kS17, kL18, kA18, kS18, kC19, kG19, kP19, kR19_0, kL20, kL141, kL146, kA146, kS146, kL151, kA151, kS151, kL156, kA156, kS156, kC157, kG157, kP157, kR157_0, kR157_1, kL158, kA158, kS158, kL159, kA159, kS159, kC161, kG161, kP161, kR161_0, kR161_1, kL162, kA162, kS162, kL163, kA163, kS163, kC165, kG165, kP165, kR165_0, kR165_1, kR165_2, kR165_3, kL166, kA166, kS166, kL167, kA167, kS167, kL168, kA168, kS168, kL169, kA169, kS169, kC170, kG170, kP170, kR170_0, kR170_1, kR170_2, kL171, kA171, kS171, kL172, kA172, kS172, kL173, kA173, kS173, kC174, kG174, kP174, kR174_0, kR174_1, kR174_2, kR174_3, kR174_4, kL175, kA175, kS175, kL176, kA176, kS176, kL177, kA177, kS177, kL178, kA178, kS178, kL179, kC180, kG180, kP180, kL181, kL182, kA182, kS182, kC183, kG183, kP183, kR183_1, kR183_3, kR183_5, kR183_6, kR183_7, kR183_8, kR183_9, kR183_21, kR183_26, kR183_27, kR183_30, kR183_31, kR183_33, kR183_34, kR183_36, kR183_37, kR183_38, kR183_39, kR183_40, kR183_41, kR183_42, kR183_43, kR183_44, kL184, kA184, kS184, kL185, kA185, kS185, kL186, kA186, kS186, kL187, kA187, kS187, kL188, kA188, kS188, kL189, kL190, kL191, kA191, kS191, kL192, kA192, kS192, kL193, kA193, kS193, kL194, kA194, kS194, kL195, kA195, kS195, kL196, kA196, kS196, kL197, kA197, kS197, kL198, kA198, kS198, kL199, kA199, kS199, kL200, kA200, kS200, kL201, kL202, kA202, kS202, kL203, kA203, kS203, kL204, kA204, kS204, kL205, kL206, kA206, kS206, e7, xnz_ok, g1]
    unfold f_X11_breaksNow_j36
    simp (disch := first | assumption | omega) only [Option.bind_some, Option.map_some, xw_gR, xw_gN, xw_al, xw_ck, xw_uI, xw_ur, xup_at, xur_at, if_true, if_false, reduceIte, and_true, true_and, and_false, false_and, not_true_eq_false, not_false_eq_true, Nat.reduceEqDiff, eq_self, Nat.reduceAdd, Nat.reduceMul, kC1, kG1, kP1, kR1_0, kR1_1, kR1_2, kR1_3, kR1_4, kR1_5, kR1_6, kR1_7, kR1_8, kR1_9, kR1_10, kR1_11, kR1_12, kR1_13, kC2, kG2, kP2, kR2_0, kR2_1, kC3, kG3, kP3, kR3_0, kR3_1, kR3_2, kR3_3, kL4, kA4, kS4, kL5, kA5, kS5, kL6, kA6, kS6, kL7, kA7, kS7, kC8, kG8, kP8, kR8_0, kR8_1, kL9, kA9, kS9, kL10, kA10, kS10, kC11, kG11, kP11, kR11_0, kR11_1, kR11_2, kR11_3, kL12, kA12, kS12, kL13, kA13, kS13, kL14, kA14, kS14, kL15, kA15, kS15, kC16, kG16, kP16, kR16_0, kR16_1, kL17, kA17, kS17, kL18, kA18, kS18, kC19, kG19, kP19, kR19_0, kL20, kL141, kL146, kA146, kS146, kL151, kA151, kS151, kL156, kA156, kS156, kC157, kG157, kP157, kR157_0, kR157_1, kL158, kA158, kS158, kL159, kA159, kS159, kC161, kG161, kP161, kR161_0, kR161_1, kL162, kA162, kS162, kL163, kA163, kS163, kC165, kG165, kP165, kR165_0, kR165_1, kR165_2, kR165_3, kL166, kA166, kS166, kL167, kA167, kS167, kL168, kA168, kS168, kL169, kA169, kS169, kC170, kG170, kP170, kR170_0, kR170_1, kR170_2, kL171, kA171, kS171, kL172, kA172, kS172, kL173, kA173, kS173, kC174, kG174, kP174, kR174_0, kR174_1, kR174_2, kR174_3, kR174_4, kL175, kA175, kS175, kL176, kA176, kS176, kL177, kA177, kS177, kL178, kA178, kS178, kL179, kC180, kG180, kP180, kL181, kL182, kA182, kS182, kC183, kG183, kP183, kR183_1, kR183_3, kR183_5, kR183_6, kR183_7, kR183_8, kR183_9, kR183_21, kR183_26, kR183_27, kR183_30, kR183_31, kR183_33, kR183_34, kR183_36, kR183_37, kR183_38, kR183_39, kR183_40, kR183_41, kR183_42, kR183_43, kR183_44, kL184, kA184, kS184, kL185, kA185, kS185, kL186, kA186, kS186, kL187, kA187, kS187, kL188, kA188, kS188, kL189, kL190, kL191, kA191, kS191, kL192, kA192, kS192, kL193, kA193, kS193, kL194, kA194, kS194, kL195, kA195, kS195, kL196, kA196, kS196, kL197, kA197, kS197, kL198, kA198, kS198, kL199, kA199, kS199, kL200, kA200, kS200, kL201, kL202, kA202, kS202, kL203, kA203, kS203, kL204, kA204, kS204, kL205, kL206, kA206, kS206, q16, xnz_ok]
    rfl
  rw [stp]
  obtain ⟨c1, c2, c3, c4, c5, c6, c7⟩ := ct_congr hg (F := (gP p).2) (F' := xI σ 191) gp2
  by_cases hq : xI σ 170 3 = nI p
  · rw [if_pos hq]
    refine ⟨σ, rfl, H, ?_, fun _ _ _ => rfl⟩
    rcases H.cch.2.2.1 with z | ⟨p', z1, z2, z3⟩
    · rw [hq] at z
      exact absurd z (by have := nn_m1 (a := p) (by omega); rw [this]; exact id)
    · have : p' = p := by
        rw [hq, nn_eq (by omega) (by omega)] at z2; exact z2.symm
      subst this
      rw [gp1] at z3
      intro m hm
      rw [c1, c7]
      exact z3 m hm
  · rw [if_neg hq]
    have uX : ∀ a k, ¬ (170 ≤ a ∧ a ≤ 171) → xup Q 170 3 (nI p) a k = xI τ a k := fun a k h => by rw [xup_at, if_neg (by omega), uQ a k (by omega)]
    have hB2 : BRK (xup Q 170 3 (nI p)) g (xI σ 191) := BRK_c (fun k => by rw [xup_at, if_neg (by omega)]) hB
    refine ⟨_, rfl, H1.brk uX (.inr ⟨p, hp, by rw [xup_at, if_pos ⟨rfl, rfl⟩], ?_⟩), hB2, fun a k h => by rw [xw_I, uX a k (by omega), fr a k (by omega)]⟩
    rw [gp1]
    intro m hm
    rw [← c1, ← c7]
    exact hB2 m hm
theorem op_broken : Op_broken INV := by
  intro n σ hn ⟨g, gT, gP, st, H⟩ x
  obtain ⟨τ, e1, H1, hB, fr⟩ := breaksNow_ok (by omega) H
  obtain ⟨J, e2, H2, K2, u2⟩ := knows_ok H1
  have hS := H1.shp
  have hG1 := H1.grd
  have hG2 : GRD J g := H2.grd
  have hg := hG1.1
  have hSt := (gSt_b hg).1
  obtain ⟨F, hF⟩ : ∃ F, F = xI σ 191 := ⟨_, rfl⟩
  have ho := H.now.2.1
  rw [← hF] at hB ho
  have rJ : J 191 = F := by rw [hF]; funext k; rw [u2 191 k (by omega) (by omega), fr 191 k (by omega)]
  rw [rJ] at K2
  refine ⟨nI (fb_ct (fun s => lW g F s && decide (nI (bk g F s) = x)) (gSt g)), τ, xw τ J, ?_, ?_, INV_i H2.nop⟩
  · unfold f_X11_broken
    rw [xck_ok (sT1 H.shp), Option.bind_some, e1, Option.bind_some]
    dsimp only
    rw [xnz_ok (by decide), Option.bind_some]
    show f_X11_broken_j4 (xw τ (xI τ)) x 170 = _
    unfold f_X11_broken_j4 f_X0_waysOf
    by_cases h0 : x < 0
    · have : fb_ct (fun s => lW g F s && decide (nI (bk g F s) = x)) (gSt g) = 0 := fb_ct_zero.mpr (fun s _ => by
        have hb := bk_b g F s
        have : ¬ nI (bk g F s) = x := fun z => by rw [← z] at h0; exact nI_pos (by omega) h0
        simp [this])
      rw [this]
      simp (disch := first | assumption | omega) only [Option.bind_some, Option.map_some, xw_gR, xw_gN, xw_al, xw_ck, xw_uI, xw_ur, xup_at, xur_at, if_true, if_false, reduceIte, and_true, true_and, and_false, false_and, not_true_eq_false, not_false_eq_true, Nat.reduceEqDiff, eq_self, Nat.reduceAdd, Nat.reduceMul, kC1, kG1, kP1, kR1_0, kR1_1, kR1_2, kR1_3, kR1_4, kR1_5, kR1_6, kR1_7, kR1_8, kR1_9, kR1_10, kR1_11, kR1_12, kR1_13, kC2, kG2, kP2, kR2_0, kR2_1, kC3, kG3, kP3, kR3_0, kR3_1, kR3_2, kR3_3, kL4, kA4, kS4, kL5, kA5, kS5, kL6, kA6, kS6, kL7, kA7, kS7, kC8, kG8, kP8, kR8_0, kR8_1, kL9, kA9, kS9, kL10, kA10, kS10, kC11, kG11, kP11, kR11_0, kR11_1, kR11_2, kR11_3, kL12, kA12, kS12, kL13, kA13, kS13, kL14, kA14, kS14, kL15, kA15, kS15, kC16, kG16, kP16, kR16_0, kR16_1, kL17, kA17, kS17, kL18, kA18, kS18, kC19, kG19, kP19, kR19_0, kL20, kL141, kL146, kA146, kS146, kL151, kA151, kS151, kL156, kA156, kS156, kC157, kG157, kP157, kR157_0, kR157_1, kL158, kA158, kS158, kL159, kA159, kS159, kC161, kG161, kP161, kR161_0, kR161_1, kL162, kA162, kS162, kL163, kA163, kS163, kC165, kG165, kP165, kR165_0, kR165_1, kR165_2, kR165_3, kL166, kA166, kS166, kL167, kA167, kS167, kL168, kA168, kS168, kL169, kA169, kS169, kC170, kG170, kP170, kR170_0, kR170_1, kR170_2, kL171, kA171, kS171, kL172, kA172, kS172, kL173, kA173, kS173, kC174, kG174, kP174, kR174_0, kR174_1, kR174_2, kR174_3, kR174_4, kL175, kA175, kS175, kL176, kA176, kS176, kL177, kA177, kS177, kL178, kA178, kS178, kL179, kC180, kG180, kP180, kL181, kL182, kA182, kS182, kC183, kG183, kP183, kR183_1, kR183_3, kR183_5, kR183_6, kR183_7, kR183_8, kR183_9, kR183_21, kR183_26, kR183_27, kR183_30, kR183_31, kR183_33, kR183_34, kR183_36, kR183_37, kR183_38, kR183_39, kR183_40, kR183_41, kR183_42, kR183_43, kR183_44, kL184, kA184, kS184, kL185, kA185, kS185, kL186, kA186, kS186, kL187, kA187, kS187, kL188, kA188, kS188, kL189, kL190, kL191, kA191, kS191, kL192, kA192, kS192, kL193, kA193, kS193, kL194, kA194, kS194, kL195, kA195, kS195, kL196, kA196, kS196, kL197, kA197, kS197, kL198, kA198, kS198, kL199, kA199, kS199, kL200, kA200, kS200, kL201, kL202, kA202, kS202, kL203, kA203, kS203, kL204, kA204, kS204, kL205, kL206, kA206, kS206, h0]
      rfl
    · obtain ⟨m, hm, rfl⟩ := nn_of h0
      by_cases h33 : 33 ≤ m
      · have : fb_ct (fun s => lW g F s && decide (nI (bk g F s) = nI m)) (gSt g) = 0 := fb_ct_zero.mpr (fun s _ => by
          have hb := bk_b g F s
          have : ¬ nI (bk g F s) = nI m := by rw [nn_eq (by omega) (by omega)]; omega
          simp [this])
        rw [this]
        simp (disch := first | assumption | omega) only [Option.bind_some, Option.map_some, xw_gR, xw_gN, xw_al, xw_ck, xw_uI, xw_ur, xup_at, xur_at, if_true, if_false, reduceIte, and_true, true_and, and_false, false_and, not_true_eq_false, not_false_eq_true, Nat.reduceEqDiff, eq_self, Nat.reduceAdd, Nat.reduceMul, kC1, kG1, kP1, kR1_0, kR1_1, kR1_2, kR1_3, kR1_4, kR1_5, kR1_6, kR1_7, kR1_8, kR1_9, kR1_10, kR1_11, kR1_12, kR1_13, kC2, kG2, kP2, kR2_0, kR2_1, kC3, kG3, kP3, kR3_0, kR3_1, kR3_2, kR3_3, kL4, kA4, kS4, kL5, kA5, kS5, kL6, kA6, kS6, kL7, kA7, kS7, kC8, kG8, kP8, kR8_0, kR8_1, kL9, kA9, kS9, kL10, kA10, kS10, kC11, kG11, kP11, kR11_0, kR11_1, kR11_2, kR11_3, kL12, kA12, kS12, kL13, kA13, kS13, kL14, kA14, kS14, kL15, kA15, kS15, kC16, kG16, kP16, kR16_0, kR16_1, kL17, kA17, kS17, kL18, kA18, kS18, kC19, kG19, kP19, kR19_0, kL20, kL141, kL146, kA146, kS146, kL151, kA151, kS151, kL156, kA156, kS156, kC157, kG157, kP157, kR157_0, kR157_1, kL158, kA158, kS158, kL159, kA159, kS159, kC161, kG161, kP161, kR161_0, kR161_1, kL162, kA162, kS162, kL163, kA163, kS163, kC165, kG165, kP165, kR165_0, kR165_1, kR165_2, kR165_3, kL166, kA166, kS166, kL167, kA167, kS167, kL168, kA168, kS168, kL169, kA169, kS169, kC170, kG170, kP170, kR170_0, kR170_1, kR170_2, kL171, kA171, kS171, kL172, kA172, kS172, kL173, kA173, kS173, kC174, kG174, kP174, kR174_0, kR174_1, kR174_2, kR174_3, kR174_4, kL175, kA175, kS175, kL176, kA176, kS176, kL177, kA177, kS177, kL178, kA178, kS178, kL179, kC180, kG180, kP180, kL181, kL182, kA182, kS182, kC183, kG183, kP183, kR183_1, kR183_3, kR183_5, kR183_6, kR183_7, kR183_8, kR183_9, kR183_21, kR183_26, kR183_27, kR183_30, kR183_31, kR183_33, kR183_34, kR183_36, kR183_37, kR183_38, kR183_39, kR183_40, kR183_41, kR183_42, kR183_43, kR183_44, kL184, kA184, kS184, kL185, kA185, kS185, kL186, kA186, kS186, kL187, kA187, kS187, kL188, kA188, kS188, kL189, kL190, kL191, kA191, kS191, kL192, kA192, kS192, kL193, kA193, kS193, kL194, kA194, kS194, kL195, kA195, kS195, kL196, kA196, kS196, kL197, kA197, kS197, kL198, kA198, kS198, kL199, kA199, kS199, kL200, kA200, kS200, kL201, kL202, kA202, kS202, kL203, kA203, kS203, kL204, kA204, kS204, kL205, kL206, kA206, kS206, h0, nn_le, h33]
        rfl
      · have hv := hB m (by omega)
        simp (disch := first | assumption | omega) only [Option.bind_some, Option.map_some, xw_gR, xw_gN, xw_al, xw_ck, xw_uI, xw_ur, xup_at, xur_at, if_true, if_false, reduceIte, and_true, true_and, and_false, false_and, not_true_eq_false, not_false_eq_true, Nat.reduceEqDiff, eq_self, Nat.reduceAdd, Nat.reduceMul, kC1, kG1, kP1, kR1_0, kR1_1, kR1_2, kR1_3, kR1_4, kR1_5, kR1_6, kR1_7, kR1_8, kR1_9, kR1_10, kR1_11, kR1_12, kR1_13, kC2, kG2, kP2, kR2_0, kR2_1, kC3, kG3, kP3, kR3_0, kR3_1, kR3_2, kR3_3, kL4, kA4, kS4, kL5, kA5, kS5, kL6, kA6, kS6, kL7, kA7, kS7, kC8, kG8, kP8, kR8_0, kR8_1, kL9, kA9, kS9, kL10, kA10, kS10, kC11, kG11, kP11, kR11_0, kR11_1, kR11_2, kR11_3, kL12, kA12, kS12, kL13, kA13, kS13, kL14, kA14, kS14, kL15, kA15, kS15, kC16, kG16, kP16, kR16_0, kR16_1, kL17, kA17, kS17, kL18, kA18, kS18, kC19, kG19, kP19, kR19_0, kL20, kL141, kL146, kA146, kS146, kL151, kA151, kS151, kL156, kA156, kS156, kC157, kG157, kP157, kR157_0, kR157_1, kL158, kA158, kS158, kL159, kA159, kS159, kC161, kG161, kP161, kR161_0, kR161_1, kL162, kA162, kS162, kL163, kA163, kS163, kC165, kG165, kP165, kR165_0, kR165_1, kR165_2, kR165_3, kL166, kA166, kS166, kL167, kA167, kS167, kL168, kA168, kS168, kL169, kA169, kS169, kC170, kG170, kP170, kR170_0, kR170_1, kR170_2, kL171, kA171, kS171, kL172, kA172, kS172, kL173, kA173, kS173, kC174, kG174, kP174, kR174_0, kR174_1, kR174_2, kR174_3, kR174_4, kL175, kA175, kS175, kL176, kA176, kS176, kL177, kA177, kS177, kL178, kA178, kS178, kL179, kC180, kG180, kP180, kL181, kL182, kA182, kS182, kC183, kG183, kP183, kR183_1, kR183_3, kR183_5, kR183_6, kR183_7, kR183_8, kR183_9, kR183_21, kR183_26, kR183_27, kR183_30, kR183_31, kR183_33, kR183_34, kR183_36, kR183_37, kR183_38, kR183_39, kR183_40, kR183_41, kR183_42, kR183_43, kR183_44, kL184, kA184, kS184, kL185, kA185, kS185, kL186, kA186, kS186, kL187, kA187, kS187, kL188, kA188, kS188, kL189, kL190, kL191, kA191, kS191, kL192, kA192, kS192, kL193, kA193, kS193, kL194, kA194, kS194, kL195, kA195, kS195, kL196, kA196, kS196, kL197, kA197, kS197, kL198, kA198, kS198, kL199, kA199, kS199, kL200, kA200, kS200, kL201, kL202, kA202, kS202, kL203, kA203, kS203, kL204, kA204, kS204, kL205, kL206, kA206, kS206, h0, nn_le, h33, hv]
        have : fb_ct (fun s => lW g F s && decide (bk g F s = m)) (gSt g) = fb_ct (fun s => lW g F s && decide (nI (bk g F s) = nI m)) (gSt g) := fb_ct_cong (fun s _ => by
          have hb := bk_b g F s
          have q : (nI (bk g F s) = nI m) = (bk g F s = m) := nn_eq (by omega) (by omega)
          simp only [q])
        rw [this]
        rfl
  · unfold f_X12_broken
    rw [xck_ok (sT183 hS), Option.bind_some, e2, Option.bind_some]
    refine xforE (fun s : Nat => (nI (fb_ct (fun s => lW g F s && decide (nI (bk g F s) = x)) s), nI s)) (gSt g) rfl (fun s hs => ?_) ?_
    · simp only [f_X12_broken_b8]
      have hv := K2.1 s hs
      have hF2 := knF hg ho s
      simp (disch := first | assumption | omega) only [Option.bind_some, Option.map_some, xw_gR, xw_gN, xw_al, xw_ck, xw_uI, xw_ur, xup_at, xur_at, if_true, if_false, reduceIte, and_true, true_and, and_false, false_and, not_true_eq_false, not_false_eq_true, Nat.reduceEqDiff, eq_self, Nat.reduceAdd, Nat.reduceMul, kC1, kG1, kP1, kR1_0, kR1_1, kR1_2, kR1_3, kR1_4, kR1_5, kR1_6, kR1_7, kR1_8, kR1_9, kR1_10, kR1_11, kR1_12, kR1_13, kC2, kG2, kP2, kR2_0, kR2_1, kC3, kG3, kP3, kR3_0, kR3_1, kR3_2, kR3_3, kL4, kA4, kS4, kL5, kA5, kS5, kL6, kA6, kS6, kL7, kA7, kS7, kC8, kG8, kP8, kR8_0, kR8_1, kL9, kA9, kS9, kL10, kA10, kS10, kC11, kG11, kP11, kR11_0, kR11_1, kR11_2, kR11_3, kL12, kA12, kS12, kL13, kA13, kS13, kL14, kA14, kS14, kL15, kA15, kS15, kC16, kG16, kP16, kR16_0, kR16_1, kL17, kA17, kS17, kL18, kA18, kS18, kC19, kG19, kP19, kR19_0, kL20, kL141, kL146, kA146, kS146, kL151, kA151, kS151, kL156, kA156, kS156, kC157, kG157, kP157, kR157_0, kR157_1, kL158, kA158, kS158, kL159, kA159, kS159, kC161, kG161, kP161, kR161_0, kR161_1, kL162, kA162, kS162, kL163, kA163, kS163, kC165, kG165, kP165, kR165_0, kR165_1, kR165_2, kR165_3, kL166, kA166, kS166, kL167, kA167, kS167, kL168, kA168, kS168, kL169, kA169, kS169, kC170, kG170, kP170, kR170_0, kR170_1, kR170_2, kL171, kA171, kS171, kL172, kA172, kS172, kL173, kA173, kS173, kC174, kG174, kP174, kR174_0, kR174_1, kR174_2, kR174_3, kR174_4, kL175, kA175, kS175, kL176, kA176, kS176, kL177, kA177, kS177, kL178, kA178, kS178, kL179, kC180, kG180, kP180, kL181, kL182, kA182, kS182, kC183, kG183, kP183, kR183_1, kR183_3, kR183_5, kR183_6, kR183_7, kR183_8, kR183_9, kR183_21, kR183_26, kR183_27, kR183_30, kR183_31, kR183_33, kR183_34, kR183_36, kR183_37, kR183_38, kR183_39, kR183_40, kR183_41, kR183_42, kR183_43, kR183_44, kL184, kA184, kS184, kL185, kA185, kS185, kL186, kA186, kS186, kL187, kA187, kS187, kL188, kA188, kS188, kL189, kL190, kL191, kA191, kS191, kL192, kA192, kS192, kL193, kA193, kS193, kL194, kA194, kS194, kL195, kA195, kS195, kL196, kA196, kS196, kL197, kA197, kS197, kL198, kA198, kS198, kL199, kA199, kS199, kL200, kA200, kS200, kL201, kL202, kA202, kS202, kL203, kA203, kS203, kL204, kA204, kS204, kL205, kL206, kA206, kS206, states12_ok hS hG2, nn_le, show ¬ (gSt g ≤ s) by omega, hv, hF2, broken12_ok hS hG2 rJ (show s < 2147483648 by omega)]
      rw [fb_ct_succ, ← nI_succ, ← nI_succ]
      cases lW g F s with
      | false => simp
      | true =>
        rw [if_neg (by decide)]
        by_cases hc : nI (bk g F s) = x
        · rw [if_pos hc]; simp [hc]
        · rw [if_neg hc]; simp [hc]
    · simp only [f_X12_broken_b8]
      simp (disch := first | assumption | omega) only [Option.bind_some, Option.map_some, xw_gR, xw_gN, xw_al, xw_ck, xw_uI, xw_ur, xup_at, xur_at, if_true, if_false, reduceIte, and_true, true_and, and_false, false_and, not_true_eq_false, not_false_eq_true, Nat.reduceEqDiff, eq_self, Nat.reduceAdd, Nat.reduceMul, kC1, kG1, kP1, kR1_0, kR1_1, kR1_2, kR1_3, kR1_4, kR1_5, kR1_6, kR1_7, kR1_8, kR1_9, kR1_10, kR1_11, kR1_12, kR1_13, kC2, kG2, kP2, kR2_0, kR2_1, kC3, kG3, kP3, kR3_0, kR3_1, kR3_2, kR3_3, kL4, kA4, kS4, kL5, kA5, kS5, kL6, kA6, kS6, kL7, kA7, kS7, kC8, kG8, kP8, kR8_0, kR8_1, kL9, kA9, kS9, kL10, kA10, kS10, kC11, kG11, kP11, kR11_0, kR11_1, kR11_2, kR11_3, kL12, kA12, kS12, kL13, kA13, kS13, kL14, kA14, kS14, kL15, kA15, kS15, kC16, kG16, kP16, kR16_0, kR16_1, kL17, kA17, kS17, kL18, kA18, kS18, kC19, kG19, kP19, kR19_0, kL20, kL141, kL146, kA146, kS146, kL151, kA151, kS151, kL156, kA156, kS156, kC157, kG157, kP157, kR157_0, kR157_1, kL158, kA158, kS158, kL159, kA159, kS159, kC161, kG161, kP161, kR161_0, kR161_1, kL162, kA162, kS162, kL163, kA163, kS163, kC165, kG165, kP165, kR165_0, kR165_1, kR165_2, kR165_3, kL166, kA166, kS166, kL167, kA167, kS167, kL168, kA168, kS168, kL169, kA169, kS169, kC170, kG170, kP170, kR170_0, kR170_1, kR170_2, kL171, kA171, kS171, kL172, kA172, kS172, kL173, kA173, kS173, kC174, kG174, kP174, kR174_0, kR174_1, kR174_2, kR174_3, kR174_4, kL175, kA175, kS175, kL176, kA176, kS176, kL177, kA177, kS177, kL178, kA178, kS178, kL179, kC180, kG180, kP180, kL181, kL182, kA182, kS182, kC183, kG183, kP183, kR183_1, kR183_3, kR183_5, kR183_6, kR183_7, kR183_8, kR183_9, kR183_21, kR183_26, kR183_27, kR183_30, kR183_31, kR183_33, kR183_34, kR183_36, kR183_37, kR183_38, kR183_39, kR183_40, kR183_41, kR183_42, kR183_43, kR183_44, kL184, kA184, kS184, kL185, kA185, kS185, kL186, kA186, kS186, kL187, kA187, kS187, kL188, kA188, kS188, kL189, kL190, kL191, kA191, kS191, kL192, kA192, kS192, kL193, kA193, kS193, kL194, kA194, kS194, kL195, kA195, kS195, kL196, kA196, kS196, kL197, kA197, kS197, kL198, kA198, kS198, kL199, kA199, kS199, kL200, kA200, kS200, kL201, kL202, kA202, kS202, kL203, kA203, kS203, kL204, kA204, kS204, kL205, kL206, kA206, kS206, states12_ok hS hG2, nn_le, Nat.le_refl]
end
section
/-! rows -/
def inN (N : Nat) (x : Int32) : Bool := decide (0 ≤ x.toInt) && decide (x.toInt < (N : Int))
theorem inN_t {N : Nat} {x : Int32} (h : inN N x = true) : ∃ i, i < N ∧ x = nI i := by
  unfold inN at h
  simp only [Bool.and_eq_true, decide_eq_true_eq] at h
  refine ⟨x.toInt.toNat, by omega, ?_⟩
  rw [iI_n, Int.toNat_of_nonneg h.1]
  exact iI_of x
theorem inN_n {N i : Nat} (h : i < N) (hN : N ≤ 1073741824) : inN N (nI i) = true := by
  unfold inN
  rw [nI_toInt (by omega), Bool.and_eq_true, decide_eq_true_eq, decide_eq_true_eq]
  omega
theorem inN_in {N : Nat} (hN : N ≤ 1073741824) (x : Int32) : f_X12_in x 0 (nI N - 1) = some (if inN N x then 1 else 0) := by
  unfold f_X12_in
  have e : nI N - 1 = iI ((N : Int) - 1) := by rw [iI_n, show (1 : Int32) = iI 1 from rfl, iI_sub]
  have hr := x.toInt_lt
  have hl := x.le_toInt
  have c1 : (x < 0) = (x.toInt < 0) := propext (fa_lt _ _)
  have c2 : (iI ((N : Int) - 1) < x) = ((N : Int) - 1 < x.toInt) := by rw [fa_lt, iI_ti (by omega) (by omega)]
  unfold inN
  simp only [e, c1, c2]
  by_cases h1 : x.toInt < 0
  · have : ¬ (0 ≤ x.toInt) := by omega
    simp [h1, this]
  · by_cases h2 : (N : Int) - 1 < x.toInt
    · have a : ¬ (x.toInt < (N : Int)) := by omega
      simp [h1, h2, a]
    · have a : (x.toInt < (N : Int)) := by omega
      have b : 0 ≤ x.toInt := by omega
      simp [h1, h2, a, b]
theorem inN_f {N : Nat} (hN : N ≤ 1073741824) {x : Int32} (h : inN N x = false) : x < 0 ∨ ∃ i, i < 2147483648 ∧ x = nI i ∧ N ≤ i := by
  by_cases h0 : x < 0
  · exact .inl h0
  · obtain ⟨i, hi, rfl⟩ := nn_of h0
    refine .inr ⟨i, hi, rfl, ?_⟩
    rcases Nat.lt_or_ge i N with z | z
    · rw [inN_n z hN] at h; cases h
    · exact z
theorem energiesOfRows_ok {n : Nat} {σ : XS} {g : GD} {gT gP : GH} {st : Nat} (hn : n ≤ 512) (H : IV n σ g gT gP st) {r : Nat} (hr : r < g.2.1) : ∃ τ E c m, f_X11_energiesOfRows σ 1 (nI r) = some (E, τ) ∧ IV n τ g gT gP st ∧ EnO τ E c m ∧ 2 ^ (g.1 * (r + 1)) ≤ m ∧ (∀ s, s < 2 ^ (g.1 * (r + 1)) → xI τ c s = iI (eP g (zR (xI σ 191)) (g.1 * (r + 1)) s)) ∧ ∀ a k, (a < 157 ∨ (183 ≤ a ∧ a ≤ 206)) → xI τ a k = xI σ a k := by
  have hS := H.shp
  have hG := H.grd
  have hg := hG.1
  have hb := gAll_b g hg
  have hk := gRow3 g hg (r + 1) (by omega) (by omega)
  have e1l : nI g.2.1 - (1 : Int32) = nI (g.2.1 - 1) := by rw [show (1 : Int32) = nI 1 from rfl, nn_sub (by omega)]
  have hcmp : (nI r = nI (g.2.1 - 1)) = (r = g.2.1 - 1) := nn_eq (by omega) (by omega)
  by_cases hlast : r = g.2.1 - 1
  · obtain ⟨τ, e1, H1, K1, u1, -⟩ := energiesNow_ok hn H
    obtain ⟨c, a, hE, ha, hcn⟩ := H1.en157
    have rτ : xI τ 191 = xI σ 191 := by funext k; exact u1 191 k (by omega)
    rw [rτ] at K1
    have hkn : g.1 * (r + 1) = gSz g := by unfold gSz; rw [show r + 1 = g.2.1 by omega]
    have hm := K1.1
    rw [hE.2.1] at hm
    unfold xlen at hm
    rw [hE.2.2.1] at hm
    refine ⟨τ, 157, c, 2 ^ a, ?_, H1, hE, by rw [hkn]; exact hm, fun s hs => ?_, fun a k h => u1 a k (by omega)⟩
    · show f_X11_energiesOfRows (xw σ (xI σ)) 1 (nI r) = _
      unfold f_X11_energiesOfRows f_X11_energiesOfRows_j17
      have e1' : f_X11_energiesNow (xw σ (xI σ)) 1 = some (157, τ) := e1
      simp (disch := first | assumption | omega) only [Option.bind_some, Option.map_some, xw_gR, xw_gN, xw_al, xw_ck, xw_uI, xw_ur, xup_at, xur_at, if_true, if_false, reduceIte, and_true, true_and, and_false, false_and, not_true_eq_false, not_false_eq_true, Nat.reduceEqDiff, eq_self, Nat.reduceAdd, Nat.reduceMul, kC1, kG1, kP1, kR1_0, kR1_1, kR1_2, kR1_3, kR1_4, kR1_5, kR1_6, kR1_7, kR1_8, kR1_9, kR1_10, kR1_11, kR1_12, kR1_13, kC2, kG2, kP2, kR2_0, kR2_1, kC3, kG3, kP3, kR3_0, kR3_1, kR3_2, kR3_3, kL4, kA4, kS4, kL5, kA5, kS5, kL6, kA6, kS6, kL7, kA7, kS7, kC8, kG8, kP8, kR8_0, kR8_1, kL9, kA9, kS9, kL10, kA10, kS10, kC11, kG11, kP11, kR11_0, kR11_1, kR11_2, kR11_3, kL12, kA12, kS12, kL13, kA13, kS13, kL14, kA14, kS14, kL15, kA15, kS15, kC16, kG16, kP16, kR16_0, kR16_1, kL17, kA17, kS17, kL18, kA18, kS18, kC19, kG19, kP19, kR19_0, kL20, kL141, kL146, kA146, kS146, kL151, kA151, kS151, kL156, kA156, kS156, kC157, kG157, kP157, kR157_0, kR157_1, kL158, kA158, kS158, kL159, kA159, kS159, kC161, kG161, kP161, kR161_0, kR161_1, kL162, kA162, kS162, kL163, kA163, kS163, kC165, kG165, kP165, kR165_0, kR165_1, kR165_2, kR165_3, kL166, kA166, kS166, kL167, kA167, kS167, kL168, kA168, kS168, kL169, kA169, kS169, kC170, kG170, kP170, kR170_0, kR170_1, kR170_2, kL171, kA171, kS171, kL172, kA172, kS172, kL173, kA173, kS173, kC174, kG174, kP174, kR174_0, kR174_1, kR174_2, kR174_3, kR174_4, kL175, kA175, kS175, kL176, kA176, kS176, kL177, kA177, kS177, kL178, kA178, kS178, kL179, kC180, kG180, kP180, kL181, kL182, kA182, kS182, kC183, kG183, kP183, kR183_1, kR183_3, kR183_5, kR183_6, kR183_7, kR183_8, kR183_9, kR183_21, kR183_26, kR183_27, kR183_30, kR183_31, kR183_33, kR183_34, kR183_36, kR183_37, kR183_38, kR183_39, kR183_40, kR183_41, kR183_42, kR183_43, kR183_44, kL184, kA184, kS184, kL185, kA185, kS185, kL186, kA186, kS186, kL187, kA187, kS187, kL188, kA188, kS188, kL189, kL190, kL191, kA191, kS191, kL192, kA192, kS192, kL193, kA193, kS193, kL194, kA194, kS194, kL195, kA195, kS195, kL196, kA196, kS196, kL197, kA197, kS197, kL198, kA198, kS198, kL199, kA199, kS199, kL200, kA200, kS200, kL201, kL202, kA202, kS202, kL203, kA203, kS203, kL204, kA204, kS204, kL205, kL206, kA206, kS206, hG.2.2.1, e1l, hcmp, hlast, e1', xnz_ok]
    · rw [hkn] at hs ⊢
      have := K1.2 s hs
      rw [hE.2.1] at this
      rw [this, eP_all hg]
  · obtain ⟨c, b, hE, hbb, hcn⟩ := H.en161
    have hEb := hE.b
    have K17 : σ.1 17 = (20, 32) := xw_K hS (by decide) (by decide) (by decide)
    have K18 : σ.1 18 = (20, 16) := xw_K hS (by decide) (by decide) (by decide)
    have hf := SR_fill hg H.now.1 H.now.2.1
    obtain ⟨τ, e1, hτ⟩ := fill11_ok (I := xI σ) (k := g.1 * (r + 1)) hS hG hE hbb hcn K17 K18 (by omega) (by omega) (by omega) (by omega) (by omega) (by omega) hk hf.1 hf.2
    have HA := H.aside hE (fun a k h => rfl) hτ
    obtain ⟨hτS, ⟨c', b', hE', f1, f2, f3, f4, f5, f6, f7, f8, f9⟩, f10, f11, f12, f13⟩ := hτ
    have hEb' := hE'.b
    have h206 := hS.1
    refine ⟨τ, 161, c', 2 ^ b', ?_, HA, hE', Nat.pow_le_pow_right (by decide) f3, f8, fun a k h => f9 a k (by omega) (by omega) (by omega)⟩
    show f_X11_energiesOfRows (xw σ (xI σ)) 1 (nI r) = _
    unfold f_X11_energiesOfRows f_X11_energiesOfRows_j54
    have hmul : (nI r + (1 : Int32)) * nI g.1 = nI (g.1 * (r + 1)) := by rw [show (1 : Int32) = nI 1 from rfl, nn_add, nn_mul, Nat.mul_comm]
    simp (disch := first | assumption | omega) only [Option.bind_some, Option.map_some, xw_gR, xw_gN, xw_al, xw_ck, xw_uI, xw_ur, xup_at, xur_at, if_true, if_false, reduceIte, and_true, true_and, and_false, false_and, not_true_eq_false, not_false_eq_true, Nat.reduceEqDiff, eq_self, Nat.reduceAdd, Nat.reduceMul, kC1, kG1, kP1, kR1_0, kR1_1, kR1_2, kR1_3, kR1_4, kR1_5, kR1_6, kR1_7, kR1_8, kR1_9, kR1_10, kR1_11, kR1_12, kR1_13, kC2, kG2, kP2, kR2_0, kR2_1, kC3, kG3, kP3, kR3_0, kR3_1, kR3_2, kR3_3, kL4, kA4, kS4, kL5, kA5, kS5, kL6, kA6, kS6, kL7, kA7, kS7, kC8, kG8, kP8, kR8_0, kR8_1, kL9, kA9, kS9, kL10, kA10, kS10, kC11, kG11, kP11, kR11_0, kR11_1, kR11_2, kR11_3, kL12, kA12, kS12, kL13, kA13, kS13, kL14, kA14, kS14, kL15, kA15, kS15, kC16, kG16, kP16, kR16_0, kR16_1, kL17, kA17, kS17, kL18, kA18, kS18, kC19, kG19, kP19, kR19_0, kL20, kL141, kL146, kA146, kS146, kL151, kA151, kS151, kL156, kA156, kS156, kC157, kG157, kP157, kR157_0, kR157_1, kL158, kA158, kS158, kL159, kA159, kS159, kC161, kG161, kP161, kR161_0, kR161_1, kL162, kA162, kS162, kL163, kA163, kS163, kC165, kG165, kP165, kR165_0, kR165_1, kR165_2, kR165_3, kL166, kA166, kS166, kL167, kA167, kS167, kL168, kA168, kS168, kL169, kA169, kS169, kC170, kG170, kP170, kR170_0, kR170_1, kR170_2, kL171, kA171, kS171, kL172, kA172, kS172, kL173, kA173, kS173, kC174, kG174, kP174, kR174_0, kR174_1, kR174_2, kR174_3, kR174_4, kL175, kA175, kS175, kL176, kA176, kS176, kL177, kA177, kS177, kL178, kA178, kS178, kL179, kC180, kG180, kP180, kL181, kL182, kA182, kS182, kC183, kG183, kP183, kR183_1, kR183_3, kR183_5, kR183_6, kR183_7, kR183_8, kR183_9, kR183_21, kR183_26, kR183_27, kR183_30, kR183_31, kR183_33, kR183_34, kR183_36, kR183_37, kR183_38, kR183_39, kR183_40, kR183_41, kR183_42, kR183_43, kR183_44, kL184, kA184, kS184, kL185, kA185, kS185, kL186, kA186, kS186, kL187, kA187, kS187, kL188, kA188, kS188, kL189, kL190, kL191, kA191, kS191, kL192, kA192, kS192, kL193, kA193, kS193, kL194, kA194, kS194, kL195, kA195, kS195, kL196, kA196, kS196, kL197, kA197, kS197, kL198, kA198, kS198, kL199, kA199, kS199, kL200, kA200, kS200, kL201, kL202, kA202, kS202, kL203, kA203, kS203, kL204, kA204, kS204, kL205, kL206, kA206, kS206, hG.2.2.1, hG.2.1, e1l, hcmp, hlast, hmul, e1]
    rw [xnz_ok (by decide)]
    rfl
/-- the lawful states of the first k sites -/
def lwk (F : Nat → Int32) (k s : Nat) : Bool := (List.range k).all (fun i => decide (F (48 + i) = 0) || (s.testBit i == decide (F (48 + i) = 1)))
theorem lwk_iff {F : Nat → Int32} {k s : Nat} : lwk F k s = true ↔ ∀ i, i < k → F (48 + i) ≠ 0 → s.testBit i = decide (F (48 + i) = 1) := by
  unfold lwk
  rw [List.all_eq_true]
  constructor
  · intro h i hi hne
    have := h i (List.mem_range.mpr hi)
    simp only [hne, decide_false, Bool.false_or, beq_iff_eq] at this
    exact this
  · intro h i hi
    by_cases hne : F (48 + i) = 0
    · simp [hne]
    · have := h i (List.mem_range.mp hi) hne
      simp [hne, this]
theorem op_rows : Op_rows INV := by
  intro n σ hn ⟨g, gT, gP, st, H⟩ x y z
  have hS := H.shp
  have hG := H.grd
  have hg := hG.1
  have hb := gAll_b g hg
  have hpw : 2 ^ g.1 ≤ 2 ^ 4 := Nat.pow_le_pow_right (by decide) hb.1
  have h24 : (2 : Nat) ^ 4 = 16 := by decide
  by_cases hx1 : inN g.2.1 x = true
  · obtain ⟨r, hr, rfl⟩ := inN_t hx1
    have x0 : ¬ nI r < 0 := nI_pos (by omega)
    have x1 : ¬ g.2.1 ≤ r := by omega
    by_cases hy1 : inN (2 ^ g.1) y = true
    · obtain ⟨w, hw, rfl⟩ := inN_t hy1
      obtain ⟨τ, E, c, m, e1, H1, hE, hm, hv, fr⟩ := energiesOfRows_ok (by omega) H hr
      have hSτ := H1.shp
      have hGτ := H1.grd
      obtain ⟨F, hF⟩ : ∃ F, F = xI σ 191 := ⟨_, rfl⟩
      have rτ : xI τ 191 = F := by rw [hF]; funext k; exact fr 191 k (by omega)
      have hSR := H1.now.1
      have ho := H1.now.2.1
      rw [rτ] at hSR ho
      rw [← hF] at hv
      obtain ⟨-, -, ⟨p, u, e3, e4, e5, e6⟩, -, -⟩ := id hSR
      have hk := gRow3 g hg (r + 1) (by omega) (by omega)
      obtain ⟨k, hkd⟩ : ∃ k, k = g.1 * (r + 1) := ⟨_, rfl⟩
      obtain ⟨at0, had⟩ : ∃ a, a = g.1 * r := ⟨_, rfl⟩
      have hka : k = at0 + g.1 := by rw [hkd, had, Nat.mul_succ]
      rw [← hkd] at hm hv hk
      have hpk : 2 ^ k ≤ 2 ^ 16 := Nat.pow_le_pow_right (by decide) (by omega)
      have h65 : (2 : Nat) ^ 16 = 65536 := by decide
      have hpk2 : 2 ^ k = 2 ^ at0 * 2 ^ g.1 := by rw [hka, Nat.pow_add]
      have hpa : 0 < 2 ^ at0 := Nat.two_pow_pos _
      have hbase : w * 2 ^ at0 + 2 ^ at0 ≤ 2 ^ k := by
        rw [hpk2, Nat.mul_comm (2 ^ at0), ← Nat.succ_mul]
        exact Nat.mul_le_mul_right _ hw
      obtain ⟨q, hq⟩ : ∃ q : Nat → Bool, q = fun low => lwk F k (w * 2 ^ at0 + low) && decide (iI (eP g (zR F) k (w * 2 ^ at0 + low)) = z) := ⟨_, rfl⟩
      have hp : p < 65536 := Nat.lt_pow_two_of_testBit (n := 16) p (fun j hj => by rw [e5]; simp; omega)
      have hu : u < 65536 := Nat.lt_pow_two_of_testBit (n := 16) u (fun j hj => by rw [e6]; simp; omega)
      refine ⟨nI (fb_ct q (2 ^ at0)), τ, ?_, ?_, INV_i H1.nop⟩
      · show f_X11_rows (xw σ (xI σ)) 1 (nI r) (nI w) z = _
        unfold f_X11_rows
        have e1' : f_X11_energiesOfRows (xw σ (xI σ)) 1 (nI r) = some (E, τ) := e1
        have y0 : ¬ nI w < 0 := nI_pos (by omega)
        have hE0 : E ≠ 0 := by rcases hE.1 with z | z <;> omega
        have hwl : (nI w < nI (2 ^ g.1)) = True := by rw [nn_lt (by omega) (by omega)]; exact eq_true hw
        simp (disch := first | assumption | omega) only [Option.bind_some, Option.map_some, xw_gR, xw_gN, xw_al, xw_ck, xw_uI, xw_ur, xup_at, xur_at, if_true, if_false, reduceIte, and_true, true_and, and_false, false_and, not_true_eq_false, not_false_eq_true, Nat.reduceEqDiff, eq_self, Nat.reduceAdd, Nat.reduceMul, kC1, kG1, kP1, kR1_0, kR1_1, kR1_2, kR1_3, kR1_4, kR1_5, kR1_6, kR1_7, kR1_8, kR1_9, kR1_10, kR1_11, kR1_12, kR1_13, kC2, kG2, kP2, kR2_0, kR2_1, kC3, kG3, kP3, kR3_0, kR3_1, kR3_2, kR3_3, kL4, kA4, kS4, kL5, kA5, kS5, kL6, kA6, kS6, kL7, kA7, kS7, kC8, kG8, kP8, kR8_0, kR8_1, kL9, kA9, kS9, kL10, kA10, kS10, kC11, kG11, kP11, kR11_0, kR11_1, kR11_2, kR11_3, kL12, kA12, kS12, kL13, kA13, kS13, kL14, kA14, kS14, kL15, kA15, kS15, kC16, kG16, kP16, kR16_0, kR16_1, kL17, kA17, kS17, kL18, kA18, kS18, kC19, kG19, kP19, kR19_0, kL20, kL141, kL146, kA146, kS146, kL151, kA151, kS151, kL156, kA156, kS156, kC157, kG157, kP157, kR157_0, kR157_1, kL158, kA158, kS158, kL159, kA159, kS159, kC161, kG161, kP161, kR161_0, kR161_1, kL162, kA162, kS162, kL163, kA163, kS163, kC165, kG165, kP165, kR165_0, kR165_1, kR165_2, kR165_3, kL166, kA166, kS166, kL167, kA167, kS167, kL168, kA168, kS168, kL169, kA169, kS169, kC170, kG170, kP170, kR170_0, kR170_1, kR170_2, kL171, kA171, kS171, kL172, kA172, kS172, kL173, kA173, kS173, kC174, kG174, kP174, kR174_0, kR174_1, kR174_2, kR174_3, kR174_4, kL175, kA175, kS175, kL176, kA176, kS176, kL177, kA177, kS177, kL178, kA178, kS178, kL179, kC180, kG180, kP180, kL181, kL182, kA182, kS182, kC183, kG183, kP183, kR183_1, kR183_3, kR183_5, kR183_6, kR183_7, kR183_8, kR183_9, kR183_21, kR183_26, kR183_27, kR183_30, kR183_31, kR183_33, kR183_34, kR183_36, kR183_37, kR183_38, kR183_39, kR183_40, kR183_41, kR183_42, kR183_43, kR183_44, kL184, kA184, kS184, kL185, kA185, kS185, kL186, kA186, kS186, kL187, kA187, kS187, kL188, kA188, kS188, kL189, kL190, kL191, kA191, kS191, kL192, kA192, kS192, kL193, kA193, kS193, kL194, kA194, kS194, kL195, kA195, kS195, kL196, kA196, kS196, kL197, kA197, kS197, kL198, kA198, kS198, kL199, kA199, kS199, kL200, kA200, kS200, kL201, kL202, kA202, kS202, kL203, kA203, kS203, kL204, kA204, kS204, kL205, kL206, kA206, kS206, x0, hG.2.2.1, nn_le, x1, y0, hG.2.1, nn_one, hwl, e1', xnz_ok hE0]
        show f_X11_rows_j39 (xw τ (xI τ)) 1 (nI r) (nI w) z E = _
        unfold f_X11_rows_j39
        have m1 : nI r * nI g.1 = nI at0 := by rw [nn_mul, had, Nat.mul_comm]
        have m2 : nI at0 + nI g.1 = nI k := by rw [nn_add, hka]
        simp (disch := first | assumption | omega) only [Option.bind_some, Option.map_some, xw_gR, xw_gN, xw_al, xw_ck, xw_uI, xw_ur, xup_at, xur_at, if_true, if_false, reduceIte, and_true, true_and, and_false, false_and, not_true_eq_false, not_false_eq_true, Nat.reduceEqDiff, eq_self, Nat.reduceAdd, Nat.reduceMul, kC1, kG1, kP1, kR1_0, kR1_1, kR1_2, kR1_3, kR1_4, kR1_5, kR1_6, kR1_7, kR1_8, kR1_9, kR1_10, kR1_11, kR1_12, kR1_13, kC2, kG2, kP2, kR2_0, kR2_1, kC3, kG3, kP3, kR3_0, kR3_1, kR3_2, kR3_3, kL4, kA4, kS4, kL5, kA5, kS5, kL6, kA6, kS6, kL7, kA7, kS7, kC8, kG8, kP8, kR8_0, kR8_1, kL9, kA9, kS9, kL10, kA10, kS10, kC11, kG11, kP11, kR11_0, kR11_1, kR11_2, kR11_3, kL12, kA12, kS12, kL13, kA13, kS13, kL14, kA14, kS14, kL15, kA15, kS15, kC16, kG16, kP16, kR16_0, kR16_1, kL17, kA17, kS17, kL18, kA18, kS18, kC19, kG19, kP19, kR19_0, kL20, kL141, kL146, kA146, kS146, kL151, kA151, kS151, kL156, kA156, kS156, kC157, kG157, kP157, kR157_0, kR157_1, kL158, kA158, kS158, kL159, kA159, kS159, kC161, kG161, kP161, kR161_0, kR161_1, kL162, kA162, kS162, kL163, kA163, kS163, kC165, kG165, kP165, kR165_0, kR165_1, kR165_2, kR165_3, kL166, kA166, kS166, kL167, kA167, kS167, kL168, kA168, kS168, kL169, kA169, kS169, kC170, kG170, kP170, kR170_0, kR170_1, kR170_2, kL171, kA171, kS171, kL172, kA172, kS172, kL173, kA173, kS173, kC174, kG174, kP174, kR174_0, kR174_1, kR174_2, kR174_3, kR174_4, kL175, kA175, kS175, kL176, kA176, kS176, kL177, kA177, kS177, kL178, kA178, kS178, kL179, kC180, kG180, kP180, kL181, kL182, kA182, kS182, kC183, kG183, kP183, kR183_1, kR183_3, kR183_5, kR183_6, kR183_7, kR183_8, kR183_9, kR183_21, kR183_26, kR183_27, kR183_30, kR183_31, kR183_33, kR183_34, kR183_36, kR183_37, kR183_38, kR183_39, kR183_40, kR183_41, kR183_42, kR183_43, kR183_44, kL184, kA184, kS184, kL185, kA185, kS185, kL186, kA186, kS186, kL187, kA187, kS187, kL188, kA188, kS188, kL189, kL190, kL191, kA191, kS191, kL192, kA192, kS192, kL193, kA193, kS193, kL194, kA194, kS194, kL195, kA195, kS195, kL196, kA196, kS196, kL197, kA197, kS197, kL198, kA198, kS198, kL199, kA199, kS199, kL200, kA200, kS200, kL201, kL202, kA202, kS202, kL203, kA203, kS203, kL204, kA204, kS204, kL205, kL206, kA206, kS206, hGτ.2.1, m1, m2, nn_one, nn_shl]
        have kn1 : nI (2 ^ k) - (1 : Int32) = nI (2 ^ k - 1) := by rw [show (1 : Int32) = nI 1 from rfl, nn_sub (Nat.two_pow_pos k)]
        rw [kn1, nn_add]
        refine xforE (fun low : Nat => (nI (fb_ct q low), nI (w * 2 ^ at0 + low))) (2 ^ at0) rfl (fun low hlow => ?_) ?_
        · simp only [f_X11_rows_b90]
          have hlt : w * 2 ^ at0 + low < 2 ^ k := by omega
          rw [if_neg (by rw [nn_le (by omega) (by omega)]; omega)]
          have hof : f_X2_of (xw τ (xI τ)) E (nI (w * 2 ^ at0 + low)) = some (iI (eP g (zR F) k (w * 2 ^ at0 + low))) := by
            rw [of_at hSτ hE (by omega), hv _ hlt]
          have hlw : (nI ((w * 2 ^ at0 + low) &&& p) = nI (u &&& (2 ^ k - 1))) = (lwk F k (w * 2 ^ at0 + low) = true) := by
            have b1 : (w * 2 ^ at0 + low) &&& p < 65536 := Nat.lt_of_le_of_lt Nat.and_le_right hp
            have b2 : u &&& (2 ^ k - 1) < 65536 := Nat.lt_of_le_of_lt Nat.and_le_left hu
            rw [nn_eq (by omega) (by omega), lwk_iff]
            apply propext
            constructor
            · intro h i hi hne
              have := congrArg (fun x => Nat.testBit x i) h
              have hi2 : i < gSz g := by omega
              simp [Nat.testBit_and, Nat.testBit_two_pow_sub_one, e5, e6, hi, hi2, hne] at this
              exact this
            · intro h
              apply Nat.eq_of_testBit_eq
              intro i
              rw [Nat.testBit_and, Nat.testBit_and, Nat.testBit_two_pow_sub_one, e5, e6]
              by_cases hi : i < k
              · have hi2 : i < gSz g := by omega
                by_cases hne : F (48 + i) = 0
                · simp [hi, hi2, hne]
                · rw [h i hi hne]; simp [hi, hi2, hne]
              · have : (w * 2 ^ at0 + low).testBit i = false := Nat.testBit_lt_two_pow (Nat.lt_of_lt_of_le hlt (Nat.pow_le_pow_right (by decide) (by omega)))
                simp [hi, this]
          simp (disch := first | assumption | omega) only [Option.bind_some, Option.map_some, xw_gR, xw_gN, xw_al, xw_ck, xw_uI, xw_ur, xup_at, xur_at, if_true, if_false, reduceIte, and_true, true_and, and_false, false_and, not_true_eq_false, not_false_eq_true, Nat.reduceEqDiff, eq_self, Nat.reduceAdd, Nat.reduceMul, kC1, kG1, kP1, kR1_0, kR1_1, kR1_2, kR1_3, kR1_4, kR1_5, kR1_6, kR1_7, kR1_8, kR1_9, kR1_10, kR1_11, kR1_12, kR1_13, kC2, kG2, kP2, kR2_0, kR2_1, kC3, kG3, kP3, kR3_0, kR3_1, kR3_2, kR3_3, kL4, kA4, kS4, kL5, kA5, kS5, kL6, kA6, kS6, kL7, kA7, kS7, kC8, kG8, kP8, kR8_0, kR8_1, kL9, kA9, kS9, kL10, kA10, kS10, kC11, kG11, kP11, kR11_0, kR11_1, kR11_2, kR11_3, kL12, kA12, kS12, kL13, kA13, kS13, kL14, kA14, kS14, kL15, kA15, kS15, kC16, kG16, kP16, kR16_0, kR16_1, kL17, kA17, kS17, kL18, kA18, kS18, kC19, kG19, kP19, kR19_0, kL20, kL141, kL146, kA146, kS146, kL151, kA151, kS151, kL156, kA156, kS156, kC157, kG157, kP157, kR157_0, kR157_1, kL158, kA158, kS158, kL159, kA159, kS159, kC161, kG161, kP161, kR161_0, kR161_1, kL162, kA162, kS162, kL163, kA163, kS163, kC165, kG165, kP165, kR165_0, kR165_1, kR165_2, kR165_3, kL166, kA166, kS166, kL167, kA167, kS167, kL168, kA168, kS168, kL169, kA169, kS169, kC170, kG170, kP170, kR170_0, kR170_1, kR170_2, kL171, kA171, kS171, kL172, kA172, kS172, kL173, kA173, kS173, kC174, kG174, kP174, kR174_0, kR174_1, kR174_2, kR174_3, kR174_4, kL175, kA175, kS175, kL176, kA176, kS176, kL177, kA177, kS177, kL178, kA178, kS178, kL179, kC180, kG180, kP180, kL181, kL182, kA182, kS182, kC183, kG183, kP183, kR183_1, kR183_3, kR183_5, kR183_6, kR183_7, kR183_8, kR183_9, kR183_21, kR183_26, kR183_27, kR183_30, kR183_31, kR183_33, kR183_34, kR183_36, kR183_37, kR183_38, kR183_39, kR183_40, kR183_41, kR183_42, kR183_43, kR183_44, kL184, kA184, kS184, kL185, kA185, kS185, kL186, kA186, kS186, kL187, kA187, kS187, kL188, kA188, kS188, kL189, kL190, kL191, kA191, kS191, kL192, kA192, kS192, kL193, kA193, kS193, kL194, kA194, kS194, kL195, kA195, kS195, kL196, kA196, kS196, kL197, kA197, kS197, kL198, kA198, kS198, kL199, kA199, kS199, kL200, kA200, kS200, kL201, kL202, kA202, kS202, kL203, kA203, kS203, kL204, kA204, kS204, kL205, kL206, kA206, kS206, e3, e4, fa_and, hlw]
          rw [xck_ok (hE.T hSτ), Option.bind_some, hof, Option.bind_some, fb_ct_succ, ← nI_succ, ← nI_succ]
          have vq : q low = (lwk F k (w * 2 ^ at0 + low) && decide (iI (eP g (zR F) k (w * 2 ^ at0 + low)) = z)) := by rw [hq]
          rw [vq]
          by_cases h1 : lwk F k (w * 2 ^ at0 + low) = true
          · rw [if_pos h1]
            by_cases h2 : iI (eP g (zR F) k (w * 2 ^ at0 + low)) = z
            · rw [if_pos h2]; simp [h1, h2]; rfl
            · rw [if_neg h2]; simp [h2]; rfl
          · rw [if_neg h1]; simp [h1]; rfl
        · simp only [f_X11_rows_b90]
          rw [if_pos (by rw [nn_le (by omega) (by omega)]; exact Nat.le_refl _)]
          rfl
      · show f_X12_rows (xw τ (xI τ)) 183 (nI r) (nI w) z = _
        unfold f_X12_rows
        have hKK : τ.1 191 = (20, 66) := xw_K hSτ (by decide) (by decide) (by decide)
        have m1 : nI g.1 * nI r = nI at0 := by rw [nn_mul, had]
        have in1 := inN_in (N := g.2.1) (by omega) (nI r)
        have in2 := inN_in (N := 2 ^ g.1) (by omega) (nI w)
        rw [hx1, if_pos rfl] at in1
        rw [hy1, if_pos rfl] at in2
        simp (disch := first | assumption | omega) only [Option.bind_some, Option.map_some, xw_gR, xw_gN, xw_al, xw_ck, xw_uI, xw_ur, xup_at, xur_at, if_true, if_false, reduceIte, and_true, true_and, and_false, false_and, not_true_eq_false, not_false_eq_true, Nat.reduceEqDiff, eq_self, Nat.reduceAdd, Nat.reduceMul, kC1, kG1, kP1, kR1_0, kR1_1, kR1_2, kR1_3, kR1_4, kR1_5, kR1_6, kR1_7, kR1_8, kR1_9, kR1_10, kR1_11, kR1_12, kR1_13, kC2, kG2, kP2, kR2_0, kR2_1, kC3, kG3, kP3, kR3_0, kR3_1, kR3_2, kR3_3, kL4, kA4, kS4, kL5, kA5, kS5, kL6, kA6, kS6, kL7, kA7, kS7, kC8, kG8, kP8, kR8_0, kR8_1, kL9, kA9, kS9, kL10, kA10, kS10, kC11, kG11, kP11, kR11_0, kR11_1, kR11_2, kR11_3, kL12, kA12, kS12, kL13, kA13, kS13, kL14, kA14, kS14, kL15, kA15, kS15, kC16, kG16, kP16, kR16_0, kR16_1, kL17, kA17, kS17, kL18, kA18, kS18, kC19, kG19, kP19, kR19_0, kL20, kL141, kL146, kA146, kS146, kL151, kA151, kS151, kL156, kA156, kS156, kC157, kG157, kP157, kR157_0, kR157_1, kL158, kA158, kS158, kL159, kA159, kS159, kC161, kG161, kP161, kR161_0, kR161_1, kL162, kA162, kS162, kL163, kA163, kS163, kC165, kG165, kP165, kR165_0, kR165_1, kR165_2, kR165_3, kL166, kA166, kS166, kL167, kA167, kS167, kL168, kA168, kS168, kL169, kA169, kS169, kC170, kG170, kP170, kR170_0, kR170_1, kR170_2, kL171, kA171, kS171, kL172, kA172, kS172, kL173, kA173, kS173, kC174, kG174, kP174, kR174_0, kR174_1, kR174_2, kR174_3, kR174_4, kL175, kA175, kS175, kL176, kA176, kS176, kL177, kA177, kS177, kL178, kA178, kS178, kL179, kC180, kG180, kP180, kL181, kL182, kA182, kS182, kC183, kG183, kP183, kR183_1, kR183_3, kR183_5, kR183_6, kR183_7, kR183_8, kR183_9, kR183_21, kR183_26, kR183_27, kR183_30, kR183_31, kR183_33, kR183_34, kR183_36, kR183_37, kR183_38, kR183_39, kR183_40, kR183_41, kR183_42, kR183_43, kR183_44, kL184, kA184, kS184, kL185, kA185, kS185, kL186, kA186, kS186, kL187, kA187, kS187, kL188, kA188, kS188, kL189, kL190, kL191, kA191, kS191, kL192, kA192, kS192, kL193, kA193, kS193, kL194, kA194, kS194, kL195, kA195, kS195, kL196, kA196, kS196, kL197, kA197, kS197, kL198, kA198, kS198, kL199, kA199, kS199, kL200, kA200, kS200, kL201, kL202, kA202, kS202, kL203, kA203, kS203, kL204, kA204, kS204, kL205, kL206, kA206, kS206, hGτ.2.2.2.2.2.2.2.2.1, hGτ.2.2.2.2.2.2.2.2.2.1, in1, one0, nn_one, in2, m1]
        refine xforE (fun low : Nat => (nI (fb_ct q low), nI low)) (2 ^ at0) rfl (fun low hlow => ?_) ?_
        · simp only [f_X12_rows_b46]
          have hlt : w * 2 ^ at0 + low < 2 ^ k := by omega
          have hor : nI low ||| nI (w * 2 ^ at0) = nI (w * 2 ^ at0 + low) := by
            have := fa_or_sum (a := low) (k := at0) w hlow
            rw [fa_or, Nat.or_comm, ← fa_or, Nat.mul_comm w]
            exact this
          rw [nn_one (by omega), if_neg (by rw [nn_le (by omega) (by omega)]; omega), nn_shl (by omega), hor]
          have m2 : nI at0 + nI g.1 = nI k := by rw [nn_add, hka]
          have hlb := lawfulBy_ok (σ := τ) (I := xI τ) (a := 191) (s := w * 2 ^ at0 + low) (k := k) hSτ hKK (by omega) (by omega) (fun i hi => by rw [rτ]; exact (ho.2.1 i (by omega)).1)
          rw [rτ] at hlb
          have hen := energy12_ok (σ := τ) (I := xI τ) (a := 191) (s := w * 2 ^ at0 + low) (r := r + 1) hSτ hGτ hKK (by omega) (by omega)
          rw [rτ, ← hkd] at hen
          have r1 : nI r + (1 : Int32) = nI (r + 1) := (nI_succ r).symm
          simp (disch := first | assumption | omega) only [Option.bind_some, Option.map_some, xw_gR, xw_gN, xw_al, xw_ck, xw_uI, xw_ur, xup_at, xur_at, if_true, if_false, reduceIte, and_true, true_and, and_false, false_and, not_true_eq_false, not_false_eq_true, Nat.reduceEqDiff, eq_self, Nat.reduceAdd, Nat.reduceMul, kC1, kG1, kP1, kR1_0, kR1_1, kR1_2, kR1_3, kR1_4, kR1_5, kR1_6, kR1_7, kR1_8, kR1_9, kR1_10, kR1_11, kR1_12, kR1_13, kC2, kG2, kP2, kR2_0, kR2_1, kC3, kG3, kP3, kR3_0, kR3_1, kR3_2, kR3_3, kL4, kA4, kS4, kL5, kA5, kS5, kL6, kA6, kS6, kL7, kA7, kS7, kC8, kG8, kP8, kR8_0, kR8_1, kL9, kA9, kS9, kL10, kA10, kS10, kC11, kG11, kP11, kR11_0, kR11_1, kR11_2, kR11_3, kL12, kA12, kS12, kL13, kA13, kS13, kL14, kA14, kS14, kL15, kA15, kS15, kC16, kG16, kP16, kR16_0, kR16_1, kL17, kA17, kS17, kL18, kA18, kS18, kC19, kG19, kP19, kR19_0, kL20, kL141, kL146, kA146, kS146, kL151, kA151, kS151, kL156, kA156, kS156, kC157, kG157, kP157, kR157_0, kR157_1, kL158, kA158, kS158, kL159, kA159, kS159, kC161, kG161, kP161, kR161_0, kR161_1, kL162, kA162, kS162, kL163, kA163, kS163, kC165, kG165, kP165, kR165_0, kR165_1, kR165_2, kR165_3, kL166, kA166, kS166, kL167, kA167, kS167, kL168, kA168, kS168, kL169, kA169, kS169, kC170, kG170, kP170, kR170_0, kR170_1, kR170_2, kL171, kA171, kS171, kL172, kA172, kS172, kL173, kA173, kS173, kC174, kG174, kP174, kR174_0, kR174_1, kR174_2, kR174_3, kR174_4, kL175, kA175, kS175, kL176, kA176, kS176, kL177, kA177, kS177, kL178, kA178, kS178, kL179, kC180, kG180, kP180, kL181, kL182, kA182, kS182, kC183, kG183, kP183, kR183_1, kR183_3, kR183_5, kR183_6, kR183_7, kR183_8, kR183_9, kR183_21, kR183_26, kR183_27, kR183_30, kR183_31, kR183_33, kR183_34, kR183_36, kR183_37, kR183_38, kR183_39, kR183_40, kR183_41, kR183_42, kR183_43, kR183_44, kL184, kA184, kS184, kL185, kA185, kS185, kL186, kA186, kS186, kL187, kA187, kS187, kL188, kA188, kS188, kL189, kL190, kL191, kA191, kS191, kL192, kA192, kS192, kL193, kA193, kS193, kL194, kA194, kS194, kL195, kA195, kS195, kL196, kA196, kS196, kL197, kA197, kS197, kL198, kA198, kS198, kL199, kA199, kS199, kL200, kA200, kS200, kL201, kL202, kA202, kS202, kL203, kA203, kS203, kL204, kA204, kS204, kL205, kL206, kA206, kS206, hGτ.2.2.2.2.2.2.2.2.1, m2, hlb, r1, hen]
          rw [fb_ct_succ, ← nI_succ, ← nI_succ]
          have vq : q low = (lwk F k (w * 2 ^ at0 + low) && decide (iI (eP g (zR F) k (w * 2 ^ at0 + low)) = z)) := by rw [hq]
          rw [vq]
          show (if (if lwk F k (w * 2 ^ at0 + low) = true then (1 : Int32) else 0) = 0 then _ else _) = _
          by_cases h1 : lwk F k (w * 2 ^ at0 + low) = true
          · rw [if_pos h1, if_neg (by decide)]
            by_cases h2 : iI (eP g (zR F) k (w * 2 ^ at0 + low)) = z
            · rw [if_pos h2]; simp [h1, h2]
            · rw [if_neg h2]; simp [h2]
          · rw [if_neg h1, if_pos rfl]; simp [h1]
        · simp only [f_X12_rows_b46]
          rw [nn_one (by omega), if_pos (by rw [nn_le (by omega) (by omega)]; exact Nat.le_refl _)]
          rfl
    · refine ⟨-1, σ, ?_, ?_, INV_i H.nop⟩
      · show f_X11_rows (xw σ (xI σ)) 1 (nI r) y z = _
        unfold f_X11_rows
        simp (disch := first | assumption | omega) only [Option.bind_some, Option.map_some, xw_gR, xw_gN, xw_al, xw_ck, xw_uI, xw_ur, xup_at, xur_at, if_true, if_false, reduceIte, and_true, true_and, and_false, false_and, not_true_eq_false, not_false_eq_true, Nat.reduceEqDiff, eq_self, Nat.reduceAdd, Nat.reduceMul, kC1, kG1, kP1, kR1_0, kR1_1, kR1_2, kR1_3, kR1_4, kR1_5, kR1_6, kR1_7, kR1_8, kR1_9, kR1_10, kR1_11, kR1_12, kR1_13, kC2, kG2, kP2, kR2_0, kR2_1, kC3, kG3, kP3, kR3_0, kR3_1, kR3_2, kR3_3, kL4, kA4, kS4, kL5, kA5, kS5, kL6, kA6, kS6, kL7, kA7, kS7, kC8, kG8, kP8, kR8_0, kR8_1, kL9, kA9, kS9, kL10, kA10, kS10, kC11, kG11, kP11, kR11_0, kR11_1, kR11_2, kR11_3, kL12, kA12, kS12, kL13, kA13, kS13, kL14, kA14, kS14, kL15, kA15, kS15, kC16, kG16, kP16, kR16_0, kR16_1, kL17, kA17, kS17, kL18, kA18, kS18, kC19, kG19, kP19, kR19_0, kL20, kL141, kL146, kA146, kS146, kL151, kA151, kS151, kL156, kA156, kS156, kC157, kG157, kP157, kR157_0, kR157_1, kL158, kA158, kS158, kL159, kA159, kS159, kC161, kG161, kP161, kR161_0, kR161_1, kL162, kA162, kS162, kL163, kA163, kS163, kC165, kG165, kP165, kR165_0, kR165_1, kR165_2, kR165_3, kL166, kA166, kS166, kL167, kA167, kS167, kL168, kA168, kS168, kL169, kA169, kS169, kC170, kG170, kP170, kR170_0, kR170_1, kR170_2, kL171, kA171, kS171, kL172, kA172, kS172, kL173, kA173, kS173, kC174, kG174, kP174, kR174_0, kR174_1, kR174_2, kR174_3, kR174_4, kL175, kA175, kS175, kL176, kA176, kS176, kL177, kA177, kS177, kL178, kA178, kS178, kL179, kC180, kG180, kP180, kL181, kL182, kA182, kS182, kC183, kG183, kP183, kR183_1, kR183_3, kR183_5, kR183_6, kR183_7, kR183_8, kR183_9, kR183_21, kR183_26, kR183_27, kR183_30, kR183_31, kR183_33, kR183_34, kR183_36, kR183_37, kR183_38, kR183_39, kR183_40, kR183_41, kR183_42, kR183_43, kR183_44, kL184, kA184, kS184, kL185, kA185, kS185, kL186, kA186, kS186, kL187, kA187, kS187, kL188, kA188, kS188, kL189, kL190, kL191, kA191, kS191, kL192, kA192, kS192, kL193, kA193, kS193, kL194, kA194, kS194, kL195, kA195, kS195, kL196, kA196, kS196, kL197, kA197, kS197, kL198, kA198, kS198, kL199, kA199, kS199, kL200, kA200, kS200, kL201, kL202, kA202, kS202, kL203, kA203, kS203, kL204, kA204, kS204, kL205, kL206, kA206, kS206, x0, hG.2.2.1, nn_le, x1, hG.2.1, nn_one]
        rcases inN_f (by omega) (Bool.not_eq_true _ ▸ hy1) with q | ⟨i, hi, rfl, hge⟩
        · rw [if_pos q]; rfl
        · rw [if_neg (nI_pos (by omega)), if_neg (by rw [nn_lt (by omega) (by omega)]; omega)]; rfl
      · show f_X12_rows (xw σ (xI σ)) 183 (nI r) y z = _
        unfold f_X12_rows
        have in1 := inN_in (N := g.2.1) (by omega) (nI r)
        have in2 := inN_in (N := 2 ^ g.1) (by omega) y
        rw [hx1, if_pos rfl] at in1
        have hy2 : inN (2 ^ g.1) y = false := Bool.not_eq_true _ ▸ hy1
        rw [hy2, if_neg (by decide)] at in2
        simp (disch := first | assumption | omega) only [Option.bind_some, Option.map_some, xw_gR, xw_gN, xw_al, xw_ck, xw_uI, xw_ur, xup_at, xur_at, if_true, if_false, reduceIte, and_true, true_and, and_false, false_and, not_true_eq_false, not_false_eq_true, Nat.reduceEqDiff, eq_self, Nat.reduceAdd, Nat.reduceMul, kC1, kG1, kP1, kR1_0, kR1_1, kR1_2, kR1_3, kR1_4, kR1_5, kR1_6, kR1_7, kR1_8, kR1_9, kR1_10, kR1_11, kR1_12, kR1_13, kC2, kG2, kP2, kR2_0, kR2_1, kC3, kG3, kP3, kR3_0, kR3_1, kR3_2, kR3_3, kL4, kA4, kS4, kL5, kA5, kS5, kL6, kA6, kS6, kL7, kA7, kS7, kC8, kG8, kP8, kR8_0, kR8_1, kL9, kA9, kS9, kL10, kA10, kS10, kC11, kG11, kP11, kR11_0, kR11_1, kR11_2, kR11_3, kL12, kA12, kS12, kL13, kA13, kS13, kL14, kA14, kS14, kL15, kA15, kS15, kC16, kG16, kP16, kR16_0, kR16_1, kL17, kA17, kS17, kL18, kA18, kS18, kC19, kG19, kP19, kR19_0, kL20, kL141, kL146, kA146, kS146, kL151, kA151, kS151, kL156, kA156, kS156, kC157, kG157, kP157, kR157_0, kR157_1, kL158, kA158, kS158, kL159, kA159, kS159, kC161, kG161, kP161, kR161_0, kR161_1, kL162, kA162, kS162, kL163, kA163, kS163, kC165, kG165, kP165, kR165_0, kR165_1, kR165_2, kR165_3, kL166, kA166, kS166, kL167, kA167, kS167, kL168, kA168, kS168, kL169, kA169, kS169, kC170, kG170, kP170, kR170_0, kR170_1, kR170_2, kL171, kA171, kS171, kL172, kA172, kS172, kL173, kA173, kS173, kC174, kG174, kP174, kR174_0, kR174_1, kR174_2, kR174_3, kR174_4, kL175, kA175, kS175, kL176, kA176, kS176, kL177, kA177, kS177, kL178, kA178, kS178, kL179, kC180, kG180, kP180, kL181, kL182, kA182, kS182, kC183, kG183, kP183, kR183_1, kR183_3, kR183_5, kR183_6, kR183_7, kR183_8, kR183_9, kR183_21, kR183_26, kR183_27, kR183_30, kR183_31, kR183_33, kR183_34, kR183_36, kR183_37, kR183_38, kR183_39, kR183_40, kR183_41, kR183_42, kR183_43, kR183_44, kL184, kA184, kS184, kL185, kA185, kS185, kL186, kA186, kS186, kL187, kA187, kS187, kL188, kA188, kS188, kL189, kL190, kL191, kA191, kS191, kL192, kA192, kS192, kL193, kA193, kS193, kL194, kA194, kS194, kL195, kA195, kS195, kL196, kA196, kS196, kL197, kA197, kS197, kL198, kA198, kS198, kL199, kA199, kS199, kL200, kA200, kS200, kL201, kL202, kA202, kS202, kL203, kA203, kS203, kL204, kA204, kS204, kL205, kL206, kA206, kS206, hG.2.2.2.2.2.2.2.2.1, hG.2.2.2.2.2.2.2.2.2.1, in1, one0, nn_one, in2]
  · refine ⟨-1, σ, ?_, ?_, INV_i H.nop⟩
    · show f_X11_rows (xw σ (xI σ)) 1 x y z = _
      unfold f_X11_rows
      simp (disch := first | assumption | omega) only [Option.bind_some, Option.map_some, xw_gR, xw_gN, xw_al, xw_ck, xw_uI, xw_ur, xup_at, xur_at, if_true, if_false, reduceIte, and_true, true_and, and_false, false_and, not_true_eq_false, not_false_eq_true, Nat.reduceEqDiff, eq_self, Nat.reduceAdd, Nat.reduceMul, kC1, kG1, kP1, kR1_0, kR1_1, kR1_2, kR1_3, kR1_4, kR1_5, kR1_6, kR1_7, kR1_8, kR1_9, kR1_10, kR1_11, kR1_12, kR1_13, kC2, kG2, kP2, kR2_0, kR2_1, kC3, kG3, kP3, kR3_0, kR3_1, kR3_2, kR3_3, kL4, kA4, kS4, kL5, kA5, kS5, kL6, kA6, kS6, kL7, kA7, kS7, kC8, kG8, kP8, kR8_0, kR8_1, kL9, kA9, kS9, kL10, kA10, kS10, kC11, kG11, kP11, kR11_0, kR11_1, kR11_2, kR11_3, kL12, kA12, kS12, kL13, kA13, kS13, kL14, kA14, kS14, kL15, kA15, kS15, kC16, kG16, kP16, kR16_0, kR16_1, kL17, kA17, kS17, kL18, kA18, kS18, kC19, kG19, kP19, kR19_0, kL20, kL141, kL146, kA146, kS146, kL151, kA151, kS151, kL156, kA156, kS156, kC157, kG157, kP157, kR157_0, kR157_1, kL158, kA158, kS158, kL159, kA159, kS159, kC161, kG161, kP161, kR161_0, kR161_1, kL162, kA162, kS162, kL163, kA163, kS163, kC165, kG165, kP165, kR165_0, kR165_1, kR165_2, kR165_3, kL166, kA166, kS166, kL167, kA167, kS167, kL168, kA168, kS168, kL169, kA169, kS169, kC170, kG170, kP170, kR170_0, kR170_1, kR170_2, kL171, kA171, kS171, kL172, kA172, kS172, kL173, kA173, kS173, kC174, kG174, kP174, kR174_0, kR174_1, kR174_2, kR174_3, kR174_4, kL175, kA175, kS175, kL176, kA176, kS176, kL177, kA177, kS177, kL178, kA178, kS178, kL179, kC180, kG180, kP180, kL181, kL182, kA182, kS182, kC183, kG183, kP183, kR183_1, kR183_3, kR183_5, kR183_6, kR183_7, kR183_8, kR183_9, kR183_21, kR183_26, kR183_27, kR183_30, kR183_31, kR183_33, kR183_34, kR183_36, kR183_37, kR183_38, kR183_39, kR183_40, kR183_41, kR183_42, kR183_43, kR183_44, kL184, kA184, kS184, kL185, kA185, kS185, kL186, kA186, kS186, kL187, kA187, kS187, kL188, kA188, kS188, kL189, kL190, kL191, kA191, kS191, kL192, kA192, kS192, kL193, kA193, kS193, kL194, kA194, kS194, kL195, kA195, kS195, kL196, kA196, kS196, kL197, kA197, kS197, kL198, kA198, kS198, kL199, kA199, kS199, kL200, kA200, kS200, kL201, kL202, kA202, kS202, kL203, kA203, kS203, kL204, kA204, kS204, kL205, kL206, kA206, kS206, hG.2.2.1]
      rcases inN_f (by omega) (Bool.not_eq_true _ ▸ hx1) with q | ⟨i, hi, rfl, hge⟩
      · rw [if_pos q]; rfl
      · rw [if_neg (nI_pos (by omega)), if_pos (by rw [nn_le (by omega) (by omega)]; omega)]; rfl
    · show f_X12_rows (xw σ (xI σ)) 183 x y z = _
      unfold f_X12_rows
      have in1 := inN_in (N := g.2.1) (by omega) x
      have hx2 : inN g.2.1 x = false := Bool.not_eq_true _ ▸ hx1
      rw [hx2, if_neg (by decide)] at in1
      simp (disch := first | assumption | omega) only [Option.bind_some, Option.map_some, xw_gR, xw_gN, xw_al, xw_ck, xw_uI, xw_ur, xup_at, xur_at, if_true, if_false, reduceIte, and_true, true_and, and_false, false_and, not_true_eq_false, not_false_eq_true, Nat.reduceEqDiff, eq_self, Nat.reduceAdd, Nat.reduceMul, kC1, kG1, kP1, kR1_0, kR1_1, kR1_2, kR1_3, kR1_4, kR1_5, kR1_6, kR1_7, kR1_8, kR1_9, kR1_10, kR1_11, kR1_12, kR1_13, kC2, kG2, kP2, kR2_0, kR2_1, kC3, kG3, kP3, kR3_0, kR3_1, kR3_2, kR3_3, kL4, kA4, kS4, kL5, kA5, kS5, kL6, kA6, kS6, kL7, kA7, kS7, kC8, kG8, kP8, kR8_0, kR8_1, kL9, kA9, kS9, kL10, kA10, kS10, kC11, kG11, kP11, kR11_0, kR11_1, kR11_2, kR11_3, kL12, kA12, kS12, kL13, kA13, kS13, kL14, kA14, kS14, kL15, kA15, kS15, kC16, kG16, kP16, kR16_0, kR16_1, kL17, kA17, kS17, kL18, kA18, kS18, kC19, kG19, kP19, kR19_0, kL20, kL141, kL146, kA146, kS146, kL151, kA151, kS151, kL156, kA156, kS156, kC157, kG157, kP157, kR157_0, kR157_1, kL158, kA158, kS158, kL159, kA159, kS159, kC161, kG161, kP161, kR161_0, kR161_1, kL162, kA162, kS162, kL163, kA163, kS163, kC165, kG165, kP165, kR165_0, kR165_1, kR165_2, kR165_3, kL166, kA166, kS166, kL167, kA167, kS167, kL168, kA168, kS168, kL169, kA169, kS169, kC170, kG170, kP170, kR170_0, kR170_1, kR170_2, kL171, kA171, kS171, kL172, kA172, kS172, kL173, kA173, kS173, kC174, kG174, kP174, kR174_0, kR174_1, kR174_2, kR174_3, kR174_4, kL175, kA175, kS175, kL176, kA176, kS176, kL177, kA177, kS177, kL178, kA178, kS178, kL179, kC180, kG180, kP180, kL181, kL182, kA182, kS182, kC183, kG183, kP183, kR183_1, kR183_3, kR183_5, kR183_6, kR183_7, kR183_8, kR183_9, kR183_21, kR183_26, kR183_27, kR183_30, kR183_31, kR183_33, kR183_34, kR183_36, kR183_37, kR183_38, kR183_39, kR183_40, kR183_41, kR183_42, kR183_43, kR183_44, kL184, kA184, kS184, kL185, kA185, kS185, kL186, kA186, kS186, kL187, kA187, kS187, kL188, kA188, kS188, kL189, kL190, kL191, kA191, kS191, kL192, kA192, kS192, kL193, kA193, kS193, kL194, kA194, kS194, kL195, kA195, kS195, kL196, kA196, kS196, kL197, kA197, kS197, kL198, kA198, kS198, kL199, kA199, kS199, kL200, kA200, kS200, kL201, kL202, kA202, kS202, kL203, kA203, kS203, kL204, kA204, kS204, kL205, kL206, kA206, kS206, hG.2.2.2.2.2.2.2.2.2.1, in1]
end
section
/-! clusters -/
def sub (S T : Nat) : Prop := ∀ i, S.testBit i = true → T.testBit i = true
/-- one tie's step of growing -/
def clS (g : GD) (b t S : Nat) : Nat := match gTo g t with
  | none => S
  | some e => if b.testBit (gFr t) = b.testBit e ∧ (S.testBit (gFr t) = true ∨ S.testBit e = true) then S ||| (2 ^ gFr t ||| 2 ^ e) else S
theorem clS_up (g : GD) (b t S : Nat) : sub S (clS g b t S) := by
  intro i h
  unfold clS
  split
  · exact h
  · split
    · rw [Nat.testBit_or, h]; rfl
    · exact h
theorem clS_in {g : GD} {b t S T : Nat} (h : sub S T) (hT : clS g b t T = T) : sub (clS g b t S) T := by
  intro i hi
  unfold clS at hi hT
  cases he : gTo g t with
  | none => rw [he] at hi; exact h i hi
  | some e =>
    rw [he] at hi hT
    dsimp only at hi hT
    split at hi
    · next hc =>
      rw [if_pos ⟨hc.1, by rcases hc.2 with z | z; exact .inl (h _ z); exact .inr (h _ z)⟩] at hT
      rw [Nat.testBit_or, Bool.or_eq_true] at hi
      rcases hi with z | z
      · exact h i z
      · rw [← hT, Nat.testBit_or, z]; simp
    · exact h i hi
theorem clS_b {g : GD} (hg : g ∈ gAll) {b t S : Nat} (ht : t < 32) (h : S < 65536) : clS g b t S < 65536 := by
  have h16 := (gAll_b g hg).2.2.1
  unfold clS
  cases he : gTo g t with
  | none => exact h
  | some e =>
    have heb := gTo_b g hg t ht e he
    dsimp only
    split
    · exact Nat.or_lt_two_pow (n := 16) h (Nat.or_lt_two_pow (Nat.pow_lt_pow_right (by decide) (by omega)) (Nat.pow_lt_pow_right (by decide) (by omega)))
    · exact h
/-- a pass over ties in some order -/
def clP (g : GD) (b : Nat) (f : Nat → Nat) (S : Nat) : Nat → Nat
  | 0 => S
  | k + 1 => clS g b (f k) (clP g b f S k)
theorem clP_up (g : GD) (b : Nat) (f : Nat → Nat) (S : Nat) : ∀ k, sub S (clP g b f S k)
  | 0 => fun _ h => h
  | k + 1 => fun i h => clS_up g b (f k) _ i (clP_up g b f S k i h)
theorem clP_in {g : GD} {b : Nat} {f : Nat → Nat} {S T : Nat} (h : sub S T) : ∀ k, (∀ j, j < k → clS g b (f j) T = T) → sub (clP g b f S k) T
  | 0, _ => h
  | k + 1, hT => clS_in (clP_in h k (fun j hj => hT j (by omega))) (hT k (by omega))
theorem clP_b {g : GD} (hg : g ∈ gAll) {b : Nat} {f : Nat → Nat} {S : Nat} (h : S < 65536) : ∀ k, (∀ j, j < k → f j < 32) → clP g b f S k < 65536
  | 0, _ => h
  | k + 1, hf => clS_b hg (hf k (by omega)) (clP_b hg h k (fun j hj => hf j (by omega)))
theorem sub_anti {S T : Nat} (h1 : sub S T) (h2 : sub T S) : S = T := by
  apply Nat.eq_of_testBit_eq
  intro i
  rw [Bool.eq_iff_iff]
  exact ⟨h1 i, h2 i⟩
theorem clP_fix {g : GD} {b : Nat} {f : Nat → Nat} {S : Nat} : ∀ k, clP g b f S k = S → ∀ j, j < k → clS g b (f j) S = S
  | 0, _ => fun j hj => by omega
  | k + 1, h => fun j hj => by
    have h1 : clP g b f S k = S := by
      apply sub_anti _ (clP_up g b f S k)
      intro i hi
      rw [← h]
      exact clS_up g b (f k) _ i hi
    have h2 : clS g b (f k) S = S := by
      have h' : clS g b (f k) (clP g b f S k) = S := h
      rw [h1] at h'; exact h'
    by_cases hjk : j = k
    · rw [hjk]; exact h2
    · exact clP_fix k h1 j (by omega)
theorem pC_sub {S T : Nat} (h : sub S T) (hT : T < 65536) (hne : S ≠ T) : pC S < pC T := by
  have key : ∀ n, fb_ct (fun i => S.testBit i) n ≤ fb_ct (fun i => T.testBit i) n ∧ (fb_ct (fun i => S.testBit i) n = fb_ct (fun i => T.testBit i) n → ∀ i, i < n → S.testBit i = T.testBit i) := by
    intro n
    induction n with
    | zero => exact ⟨Nat.le_refl _, fun _ i hi => by omega⟩
    | succ n ih =>
      rw [fb_ct_succ, fb_ct_succ]
      have hn := h n
      cases hS : S.testBit n with
      | false =>
        cases hTn : T.testBit n with
        | false =>
          simp only [Bool.false_eq_true, if_false]
          refine ⟨ih.1, fun e i hi => ?_⟩
          by_cases z : i = n
          · rw [z, hS, hTn]
          · exact ih.2 e i (by omega)
        | true =>
          simp only [Bool.false_eq_true, if_false, if_true]
          exact ⟨by omega, fun e => by omega⟩
      | true =>
        rw [hn hS]
        simp only [if_true]
        refine ⟨by omega, fun e i hi => ?_⟩
        by_cases z : i = n
        · rw [z, hS, hn hS]
        · exact ih.2 (by omega) i (by omega)
  have k := key 16
  unfold pC
  rcases Nat.lt_or_ge (fb_ct (fun i => S.testBit i) 16) (fb_ct (fun i => T.testBit i) 16) with z | z
  · exact z
  · exfalso
    apply hne
    have e := k.2 (by omega)
    apply Nat.eq_of_testBit_eq
    intro i
    by_cases hi : i < 16
    · exact e i hi
    · have h2 : T.testBit i = false := Nat.testBit_lt_two_pow (Nat.lt_of_lt_of_le hT (show 2 ^ 16 ≤ 2 ^ i from Nat.pow_le_pow_right (by decide) (by omega)))
      cases hS : S.testBit i with
      | false => rw [h2]
      | true => rw [h i hS] at h2; cases h2
/-- pass after pass -/
def clI (g : GD) (b : Nat) (f : Nat → Nat) (N S : Nat) : Nat → Nat
  | 0 => S
  | j + 1 => clP g b f (clI g b f N S j) N
theorem clI_b {g : GD} (hg : g ∈ gAll) {b : Nat} {f : Nat → Nat} {N S : Nat} (hf : ∀ j, j < N → f j < 32) (h : S < 65536) : ∀ j, clI g b f N S j < 65536
  | 0 => h
  | j + 1 => clP_b hg (clI_b hg hf h j) N hf
theorem clI_up {g : GD} {b : Nat} {f : Nat → Nat} {N S : Nat} : ∀ j, sub S (clI g b f N S j)
  | 0 => fun _ h => h
  | j + 1 => fun i h => clP_up g b f _ N i (clI_up j i h)
theorem clI_in {g : GD} {b : Nat} {f : Nat → Nat} {N S T : Nat} (h : sub S T) (hT : ∀ j, j < N → clS g b (f j) T = T) : ∀ j, sub (clI g b f N S j) T
  | 0 => h
  | j + 1 => clP_in (clI_in h hT j) N hT
theorem clI_end {g : GD} (hg : g ∈ gAll) {b : Nat} {f : Nat → Nat} {N S : Nat} (hf : ∀ j, j < N → f j < 32) (h : S < 65536) (h0 : S ≠ 0) : ∃ J, J ≤ 15 ∧ clI g b f N S (J + 1) = clI g b f N S J ∧ ∀ j, j < J → clI g b f N S (j + 1) ≠ clI g b f N S j := by
  have hp0 : 0 < pC S := by
    have := pC_sub (S := 0) (T := S) (fun i hi => by rw [Nat.zero_testBit] at hi; cases hi) h (fun z => h0 z.symm)
    omega
  have gr : ∀ m, (∀ j, j < m → clI g b f N S (j + 1) ≠ clI g b f N S j) → m + 1 ≤ pC (clI g b f N S m) := by
    intro m
    induction m with
    | zero => intro _; exact hp0
    | succ m ih =>
      intro hne
      have h1 := ih (fun j hj => hne j (by omega))
      have h2 := pC_sub (S := clI g b f N S m) (T := clI g b f N S (m + 1)) (clP_up g b f _ N) (clI_b hg hf h (m + 1)) (fun z => hne m (by omega) z.symm)
      omega
  have ex : ∃ j, j < 16 ∧ clI g b f N S (j + 1) = clI g b f N S j := by
    apply Classical.byContradiction
    intro hn
    have := gr 16 (fun j hj hz => hn ⟨j, hj, hz⟩)
    have := pC_16 (clI g b f N S 16)
    omega
  obtain ⟨J, h1, h2, h3⟩ := fb_first (p := fun j => clI g b f N S (j + 1) = clI g b f N S j) ex
  exact ⟨J, by omega, h2, h3⟩
def tk (k : Nat) : Nat := k / 2 + 16 * (k % 2)
/-- closed under both orders alike -/
theorem cl_both {g : GD} (hg : g ∈ gAll) {b S : Nat} : (∀ j, j < 32 → clS g b j S = S) ↔ (∀ j, j < 2 * gSz g → clS g b (tk j) S = S) := by
  have h16 := (gAll_b g hg).2.2.1
  constructor
  · intro h j hj
    exact h (tk j) (by unfold tk; omega)
  · intro h t ht
    by_cases hno : gTo g t = none
    · unfold clS; rw [hno]
    · have hlt : gFr t < gSz g := by
        rcases Nat.lt_or_ge (gFr t) (gSz g) with z | z
        · exact z
        · exact absurd (gap g hg t ht z) hno
      unfold gFr at hlt
      by_cases h1 : t < 16
      · rw [if_pos h1] at hlt
        have := h (2 * t) (by omega)
        unfold tk at this
        rw [show 2 * t / 2 + 16 * (2 * t % 2) = t by omega] at this
        exact this
      · rw [if_neg h1] at hlt
        have := h (2 * (t - 16) + 1) (by omega)
        unfold tk at this
        rw [show (2 * (t - 16) + 1) / 2 + 16 * ((2 * (t - 16) + 1) % 2) = t by omega] at this
        exact this
/-- both sides' clusters are one -/
theorem cl_same {g : GD} (hg : g ∈ gAll) {b S J K : Nat} (hJ : clI g b (fun j => j) 32 S (J + 1) = clI g b (fun j => j) 32 S J) (hK : clI g b tk (2 * gSz g) S (K + 1) = clI g b tk (2 * gSz g) S K) : clI g b (fun j => j) 32 S J = clI g b tk (2 * gSz g) S K := by
  have c1 : ∀ j, j < 32 → clS g b j (clI g b (fun j => j) 32 S J) = clI g b (fun j => j) 32 S J := clP_fix (f := fun j => j) 32 hJ
  have c2 : ∀ j, j < 2 * gSz g → clS g b (tk j) (clI g b tk (2 * gSz g) S K) = clI g b tk (2 * gSz g) S K := clP_fix _ hK
  apply sub_anti
  · exact clI_in (clI_up K) ((cl_both hg).mpr c2) J
  · exact clI_in (clI_up J) ((cl_both hg).mp c1) K
section CLUSTER
variable {σ : XS} {I : Nat → Nat → Int32} {g : GD}
theorem bits2 {S a e : Nat} (hS : S < 65536) (ha : a < 16) (he : e < 16) : (nI (S &&& (2 ^ a ||| 2 ^ e)) = 0) = ¬ (S.testBit a = true ∨ S.testBit e = true) := by
  have hb : S &&& (2 ^ a ||| 2 ^ e) < 65536 := Nat.lt_of_le_of_lt Nat.and_le_left hS
  have : (nI (S &&& (2 ^ a ||| 2 ^ e)) = 0) = (S &&& (2 ^ a ||| 2 ^ e) = 0) := nn_eq (b := 0) (by omega) (by decide)
  rw [this, Nat.and_or_distrib_left]
  apply propext
  have z1 := fb_bit_nat S a
  have z2 := fb_bit_nat S e
  constructor
  · intro h
    have h1 : S &&& 2 ^ a = 0 := by
      have := Nat.left_le_or (n := S &&& 2 ^ a) (m := S &&& 2 ^ e); omega
    have h2 : S &&& 2 ^ e = 0 := by
      have := Nat.right_le_or (n := S &&& 2 ^ a) (m := S &&& 2 ^ e); omega
    rw [z1.mp h1, z2.mp h2]; simp
  · intro h
    have h1 : S.testBit a = false := by
      cases q : S.testBit a with
      | false => rfl
      | true => exact absurd (.inl q) h
    have h2 : S.testBit e = false := by
      cases q : S.testBit e with
      | false => rfl
      | true => exact absurd (.inr q) h
    rw [z1.mpr h1, z2.mpr h2]; rfl
theorem grown_ok (hS : Shp σ) (hG : GRD I g) {b S : Nat} (hb : b < 65536) (hs : S < 65536) : f_X3_grownCluster (xw σ I) 11 (nI b) (nI S) = some (nI (clP g b (fun j => j) S 32)) := by
  have hg := hG.1
  have h16 := (gAll_b g hg).2.2.1
  unfold f_X3_grownCluster
  refine xforE (fun t : Nat => (nI (clP g b (fun j => j) S t), nI t)) 32 rfl (fun t ht => ?_) ?_
  · simp only [f_X3_grownCluster_b5]
    obtain ⟨T, hT⟩ : ∃ T, T = clP g b (fun j => j) S t := ⟨_, rfl⟩
    have hTb : T < 65536 := by rw [hT]; exact clP_b hg hs t (fun j hj => by omega)
    have e1 : clP g b (fun j => j) S (t + 1) = clS g b t T := by rw [clP, ← hT]
    rw [← hT, e1, if_neg (by rw [show (32 : Int32) = nI 32 from rfl, nn_le (by omega) (by omega)]; omega)]
    simp (disch := first | assumption | omega) only [Option.bind_some, Option.map_some, xw_gR, xw_gN, xw_al, xw_ck, xw_uI, xw_ur, xup_at, xur_at, if_true, if_false, reduceIte, and_true, true_and, and_false, false_and, not_true_eq_false, not_false_eq_true, Nat.reduceEqDiff, eq_self, Nat.reduceAdd, Nat.reduceMul, kC1, kG1, kP1, kR1_0, kR1_1, kR1_2, kR1_3, kR1_4, kR1_5, kR1_6, kR1_7, kR1_8, kR1_9, kR1_10, kR1_11, kR1_12, kR1_13, kC2, kG2, kP2, kR2_0, kR2_1, kC3, kG3, kP3, kR3_0, kR3_1, kR3_2, kR3_3, kL4, kA4, kS4, kL5, kA5, kS5, kL6, kA6, kS6, kL7, kA7, kS7, kC8, kG8, kP8, kR8_0, kR8_1, kL9, kA9, kS9, kL10, kA10, kS10, kC11, kG11, kP11, kR11_0, kR11_1, kR11_2, kR11_3, kL12, kA12, kS12, kL13, kA13, kS13, kL14, kA14, kS14, kL15, kA15, kS15, kC16, kG16, kP16, kR16_0, kR16_1, kL17, kA17, kS17, kL18, kA18, kS18, kC19, kG19, kP19, kR19_0, kL20, kL141, kL146, kA146, kS146, kL151, kA151, kS151, kL156, kA156, kS156, kC157, kG157, kP157, kR157_0, kR157_1, kL158, kA158, kS158, kL159, kA159, kS159, kC161, kG161, kP161, kR161_0, kR161_1, kL162, kA162, kS162, kL163, kA163, kS163, kC165, kG165, kP165, kR165_0, kR165_1, kR165_2, kR165_3, kL166, kA166, kS166, kL167, kA167, kS167, kL168, kA168, kS168, kL169, kA169, kS169, kC170, kG170, kP170, kR170_0, kR170_1, kR170_2, kL171, kA171, kS171, kL172, kA172, kS172, kL173, kA173, kS173, kC174, kG174, kP174, kR174_0, kR174_1, kR174_2, kR174_3, kR174_4, kL175, kA175, kS175, kL176, kA176, kS176, kL177, kA177, kS177, kL178, kA178, kS178, kL179, kC180, kG180, kP180, kL181, kL182, kA182, kS182, kC183, kG183, kP183, kR183_1, kR183_3, kR183_5, kR183_6, kR183_7, kR183_8, kR183_9, kR183_21, kR183_26, kR183_27, kR183_30, kR183_31, kR183_33, kR183_34, kR183_36, kR183_37, kR183_38, kR183_39, kR183_40, kR183_41, kR183_42, kR183_43, kR183_44, kL184, kA184, kS184, kL185, kA185, kS185, kL186, kA186, kS186, kL187, kA187, kS187, kL188, kA188, kS188, kL189, kL190, kL191, kA191, kS191, kL192, kA192, kS192, kL193, kA193, kS193, kL194, kA194, kS194, kL195, kA195, kS195, kL196, kA196, kS196, kL197, kA197, kS197, kL198, kA198, kS198, kL199, kA199, kS199, kL200, kA200, kS200, kL201, kL202, kA202, kS202, kL203, kA203, kS203, kL204, kA204, kS204, kL205, kL206, kA206, kS206, endAt_ok hS hG ht, oI_none (gTo_s hg ht)]
    rw [← nI_succ]
    unfold clS
    cases he : gTo g t with
    | none => simp
    | some e =>
      have heb := gTo_b g hg t ht e he
      rw [if_neg (by simp), isAlike_ok hS hG (show b < 2147483648 by omega) ht he, Option.bind_some, startOf_ok ht, Option.bind_some]
      simp only [oI, nn_one (show gFr t < 32 by omega), nn_one (show e < 32 by omega), fa_or, fa_and]
      by_cases h1 : b.testBit (gFr t) = b.testBit e
      · rw [if_pos h1, if_neg (by decide)]
        simp only [bits2 hTb (show gFr t < 16 by omega) (show e < 16 by omega)]
        by_cases h2 : T.testBit (gFr t) = true ∨ T.testBit e = true
        · rw [if_neg (fun z => z h2), if_pos ⟨h1, h2⟩]
        · rw [if_pos h2, if_neg (fun z => h2 z.2)]
      · rw [if_neg h1, if_pos (by decide), if_neg (fun z => h1 z.1)]
  · simp only [f_X3_grownCluster_b5]
    rw [if_pos (by decide)]
    rfl
theorem cluster11_ok (hS : Shp σ) (hG : GRD I g) {b i J : Nat} (hb : b < 65536) (hi : i < gSz g) (hJ : J ≤ 15) (h1 : clI g b (fun j => j) 32 (2 ^ i) (J + 1) = clI g b (fun j => j) 32 (2 ^ i) J) (h2 : ∀ j, j < J → clI g b (fun j => j) 32 (2 ^ i) (j + 1) ≠ clI g b (fun j => j) 32 (2 ^ i) j) : f_X3_clusterOf (xw σ I) 11 (nI b) (nI i) = some (nI (clI g b (fun j => j) 32 (2 ^ i) J)) := by
  have hg := hG.1
  have h16 := (gAll_b g hg).2.2.1
  have h2i : 2 ^ i < 65536 := Nat.pow_lt_pow_right (n := 16) (by decide) (by omega)
  have hIb := clI_b (b := b) (f := fun j => j) (N := 32) hg (fun j hj => hj) h2i
  unfold f_X3_clusterOf
  rw [nn_one (by omega)]
  refine xforE (fun j : Nat => (nI (clI g b (fun j => j) 32 (2 ^ i) j), (if j = 0 then (0 : Int32) else nI (clI g b (fun j => j) 32 (2 ^ i) (j - 1))), nI j)) (J + 1) rfl (fun j hj => ?_) ?_
  · simp only [f_X3_clusterOf_b10]
    have hne : ¬ nI (clI g b (fun j => j) 32 (2 ^ i) j) = (if j = 0 then (0 : Int32) else nI (clI g b (fun j => j) 32 (2 ^ i) (j - 1))) := by
      by_cases z : j = 0
      · subst z
        rw [if_pos rfl]
        exact nI_ne0 (Nat.two_pow_pos i) (by show 2 ^ i < 2 ^ 31; omega)
      · rw [if_neg z, nn_eq (by have := hIb j; omega) (by have := hIb (j - 1); omega)]
        have := h2 (j - 1) (by omega)
        rw [show j - 1 + 1 = j by omega] at this
        exact this
    rw [if_neg (by rw [show (16 : Int32) = nI 16 from rfl, nn_le (by omega) (by omega)]; omega), if_neg hne]
    simp (disch := first | assumption | omega) only [Option.bind_some, Option.map_some, xw_gR, xw_gN, xw_al, xw_ck, xw_uI, xw_ur, xup_at, xur_at, if_true, if_false, reduceIte, and_true, true_and, and_false, false_and, not_true_eq_false, not_false_eq_true, Nat.reduceEqDiff, eq_self, Nat.reduceAdd, Nat.reduceMul, kC1, kG1, kP1, kR1_0, kR1_1, kR1_2, kR1_3, kR1_4, kR1_5, kR1_6, kR1_7, kR1_8, kR1_9, kR1_10, kR1_11, kR1_12, kR1_13, kC2, kG2, kP2, kR2_0, kR2_1, kC3, kG3, kP3, kR3_0, kR3_1, kR3_2, kR3_3, kL4, kA4, kS4, kL5, kA5, kS5, kL6, kA6, kS6, kL7, kA7, kS7, kC8, kG8, kP8, kR8_0, kR8_1, kL9, kA9, kS9, kL10, kA10, kS10, kC11, kG11, kP11, kR11_0, kR11_1, kR11_2, kR11_3, kL12, kA12, kS12, kL13, kA13, kS13, kL14, kA14, kS14, kL15, kA15, kS15, kC16, kG16, kP16, kR16_0, kR16_1, kL17, kA17, kS17, kL18, kA18, kS18, kC19, kG19, kP19, kR19_0, kL20, kL141, kL146, kA146, kS146, kL151, kA151, kS151, kL156, kA156, kS156, kC157, kG157, kP157, kR157_0, kR157_1, kL158, kA158, kS158, kL159, kA159, kS159, kC161, kG161, kP161, kR161_0, kR161_1, kL162, kA162, kS162, kL163, kA163, kS163, kC165, kG165, kP165, kR165_0, kR165_1, kR165_2, kR165_3, kL166, kA166, kS166, kL167, kA167, kS167, kL168, kA168, kS168, kL169, kA169, kS169, kC170, kG170, kP170, kR170_0, kR170_1, kR170_2, kL171, kA171, kS171, kL172, kA172, kS172, kL173, kA173, kS173, kC174, kG174, kP174, kR174_0, kR174_1, kR174_2, kR174_3, kR174_4, kL175, kA175, kS175, kL176, kA176, kS176, kL177, kA177, kS177, kL178, kA178, kS178, kL179, kC180, kG180, kP180, kL181, kL182, kA182, kS182, kC183, kG183, kP183, kR183_1, kR183_3, kR183_5, kR183_6, kR183_7, kR183_8, kR183_9, kR183_21, kR183_26, kR183_27, kR183_30, kR183_31, kR183_33, kR183_34, kR183_36, kR183_37, kR183_38, kR183_39, kR183_40, kR183_41, kR183_42, kR183_43, kR183_44, kL184, kA184, kS184, kL185, kA185, kS185, kL186, kA186, kS186, kL187, kA187, kS187, kL188, kA188, kS188, kL189, kL190, kL191, kA191, kS191, kL192, kA192, kS192, kL193, kA193, kS193, kL194, kA194, kS194, kL195, kA195, kS195, kL196, kA196, kS196, kL197, kA197, kS197, kL198, kA198, kS198, kL199, kA199, kS199, kL200, kA200, kS200, kL201, kL202, kA202, kS202, kL203, kA203, kS203, kL204, kA204, kS204, kL205, kL206, kA206, kS206, grown_ok hS hG hb (hIb j)]
    rw [← nI_succ]
    rfl
  · simp only [f_X3_clusterOf_b10]
    by_cases h : (16 : Int32) ≤ nI (J + 1)
    · rw [if_pos h, h1]; rfl
    · rw [if_neg h, if_pos (by rw [if_neg (by omega), Nat.add_sub_cancel, h1]), h1]; rfl
end CLUSTER
end
section
section CLUSTER2
variable {σ : XS} {I : Nat → Nat → Int32} {g : GD}
theorem pass12 (hS : Shp σ) (hG : GRD I g) {b S : Nat} (x3 : Int32) (h64 : I 191 64 = nI b) (hb : b < 65536) (hs : S < 65536) : xloop (f_X12_clusterOf_b16 (xw σ I) 183 x3) (nI S, (0 : Int32)) = some (.inl (nI (clP g b tk S (2 * gSz g)), x3)) := by
  have hg := hG.1
  have h16 := (gAll_b g hg).2.2.1
  refine xforE (fun k : Nat => (nI (clP g b tk S k), nI k)) (2 * gSz g) rfl (fun k hk => ?_) ?_
  · simp only [f_X12_clusterOf_b16]
    obtain ⟨T, hT⟩ : ∃ T, T = clP g b tk S k := ⟨_, rfl⟩
    have hTb : T < 65536 := by rw [hT]; exact clP_b hg hs k (fun j hj => by unfold tk; omega)
    have e1 : clP g b tk S (k + 1) = clS g b (tk k) T := by rw [clP, ← hT]
    rw [← hT, e1]
    obtain ⟨i, hi⟩ : ∃ i, i = k / 2 := ⟨_, rfl⟩
    obtain ⟨d, hd⟩ : ∃ d, d = k % 2 := ⟨_, rfl⟩
    have hi2 : i < gSz g := by omega
    have hd2 : d < 2 := by omega
    have ht : i + 16 * d < 32 := by omega
    have htk : tk k = i + 16 * d := by unfold tk; rw [← hi, ← hd]
    have main : f_X12_clusterOf_j49 (xw σ I) 183 (nI T) x3 (nI k) (nI i) 183 (nI i) (nI d) = some (.inl (nI (clS g b (i + 16 * d) T), nI (k + 1))) := by
      unfold f_X12_clusterOf_j49 f_X12_clusterOf_j107
      have hf : gFr (i + 16 * d) = i := by
        unfold gFr
        rcases (show d = 0 ∨ d = 1 by omega) with z | z
        · rw [z, if_pos (by omega)]; omega
        · rw [z, if_neg (by omega)]; omega
      simp (disch := first | assumption | omega) only [Option.bind_some, Option.map_some, xw_gR, xw_gN, xw_al, xw_ck, xw_uI, xw_ur, xup_at, xur_at, if_true, if_false, reduceIte, and_true, true_and, and_false, false_and, not_true_eq_false, not_false_eq_true, Nat.reduceEqDiff, eq_self, Nat.reduceAdd, Nat.reduceMul, kC1, kG1, kP1, kR1_0, kR1_1, kR1_2, kR1_3, kR1_4, kR1_5, kR1_6, kR1_7, kR1_8, kR1_9, kR1_10, kR1_11, kR1_12, kR1_13, kC2, kG2, kP2, kR2_0, kR2_1, kC3, kG3, kP3, kR3_0, kR3_1, kR3_2, kR3_3, kL4, kA4, kS4, kL5, kA5, kS5, kL6, kA6, kS6, kL7, kA7, kS7, kC8, kG8, kP8, kR8_0, kR8_1, kL9, kA9, kS9, kL10, kA10, kS10, kC11, kG11, kP11, kR11_0, kR11_1, kR11_2, kR11_3, kL12, kA12, kS12, kL13, kA13, kS13, kL14, kA14, kS14, kL15, kA15, kS15, kC16, kG16, kP16, kR16_0, kR16_1, kL17, kA17, kS17, kL18, kA18, kS18, kC19, kG19, kP19, kR19_0, kL20, kL141, kL146, kA146, kS146, kL151, kA151, kS151, kL156, kA156, kS156, kC157, kG157, kP157, kR157_0, kR157_1, kL158, kA158, kS158, kL159, kA159, kS159, kC161, kG161, kP161, kR161_0, kR161_1, kL162, kA162, kS162, kL163, kA163, kS163, kC165, kG165, kP165, kR165_0, kR165_1, kR165_2, kR165_3, kL166, kA166, kS166, kL167, kA167, kS167, kL168, kA168, kS168, kL169, kA169, kS169, kC170, kG170, kP170, kR170_0, kR170_1, kR170_2, kL171, kA171, kS171, kL172, kA172, kS172, kL173, kA173, kS173, kC174, kG174, kP174, kR174_0, kR174_1, kR174_2, kR174_3, kR174_4, kL175, kA175, kS175, kL176, kA176, kS176, kL177, kA177, kS177, kL178, kA178, kS178, kL179, kC180, kG180, kP180, kL181, kL182, kA182, kS182, kC183, kG183, kP183, kR183_1, kR183_3, kR183_5, kR183_6, kR183_7, kR183_8, kR183_9, kR183_21, kR183_26, kR183_27, kR183_30, kR183_31, kR183_33, kR183_34, kR183_36, kR183_37, kR183_38, kR183_39, kR183_40, kR183_41, kR183_42, kR183_43, kR183_44, kL184, kA184, kS184, kL185, kA185, kS185, kL186, kA186, kS186, kL187, kA187, kS187, kL188, kA188, kS188, kL189, kL190, kL191, kA191, kS191, kL192, kA192, kS192, kL193, kA193, kS193, kL194, kA194, kS194, kL195, kA195, kS195, kL196, kA196, kS196, kL197, kA197, kS197, kL198, kA198, kS198, kL199, kA199, kS199, kL200, kA200, kS200, kL201, kL202, kA202, kS202, kL203, kA203, kS203, kL204, kA204, kS204, kL205, kL206, kA206, kS206, tieTo_ok hS hG hd2 hi2, oI_neg (gTo_s hg ht), show (64 : Int32) = nI 64 from rfl, h64]
      rw [← nI_succ]
      unfold clS
      rw [hf]
      cases he : gTo g (i + 16 * d) with
      | none => simp
      | some e =>
        have heb := gTo_b g hg _ ht e he
        rw [if_neg (by simp)]
        simp only [oI, has_ok (show b < 2147483648 by omega) (show i < 32 by omega), has_ok (show b < 2147483648 by omega) (show e < 32 by omega), has_ok (show T < 2147483648 by omega) (show i < 32 by omega), has_ok (show T < 2147483648 by omega) (show e < 32 by omega), Option.bind_some, bI_eq, bI_0, nn_one (show i < 32 by omega), nn_one (show e < 32 by omega), fa_or]
        by_cases h1 : b.testBit i = b.testBit e
        · rw [if_pos h1]
          cases q1 : T.testBit i with
          | true => simp [h1]
          | false =>
            cases q2 : T.testBit e with
            | true => simp [h1]
            | false => simp
        · rw [if_neg h1, if_neg (fun z => h1 z.1)]
    simp (disch := first | assumption | omega) only [Option.bind_some, Option.map_some, xw_gR, xw_gN, xw_al, xw_ck, xw_uI, xw_ur, xup_at, xur_at, if_true, if_false, reduceIte, and_true, true_and, and_false, false_and, not_true_eq_false, not_false_eq_true, Nat.reduceEqDiff, eq_self, Nat.reduceAdd, Nat.reduceMul, kC1, kG1, kP1, kR1_0, kR1_1, kR1_2, kR1_3, kR1_4, kR1_5, kR1_6, kR1_7, kR1_8, kR1_9, kR1_10, kR1_11, kR1_12, kR1_13, kC2, kG2, kP2, kR2_0, kR2_1, kC3, kG3, kP3, kR3_0, kR3_1, kR3_2, kR3_3, kL4, kA4, kS4, kL5, kA5, kS5, kL6, kA6, kS6, kL7, kA7, kS7, kC8, kG8, kP8, kR8_0, kR8_1, kL9, kA9, kS9, kL10, kA10, kS10, kC11, kG11, kP11, kR11_0, kR11_1, kR11_2, kR11_3, kL12, kA12, kS12, kL13, kA13, kS13, kL14, kA14, kS14, kL15, kA15, kS15, kC16, kG16, kP16, kR16_0, kR16_1, kL17, kA17, kS17, kL18, kA18, kS18, kC19, kG19, kP19, kR19_0, kL20, kL141, kL146, kA146, kS146, kL151, kA151, kS151, kL156, kA156, kS156, kC157, kG157, kP157, kR157_0, kR157_1, kL158, kA158, kS158, kL159, kA159, kS159, kC161, kG161, kP161, kR161_0, kR161_1, kL162, kA162, kS162, kL163, kA163, kS163, kC165, kG165, kP165, kR165_0, kR165_1, kR165_2, kR165_3, kL166, kA166, kS166, kL167, kA167, kS167, kL168, kA168, kS168, kL169, kA169, kS169, kC170, kG170, kP170, kR170_0, kR170_1, kR170_2, kL171, kA171, kS171, kL172, kA172, kS172, kL173, kA173, kS173, kC174, kG174, kP174, kR174_0, kR174_1, kR174_2, kR174_3, kR174_4, kL175, kA175, kS175, kL176, kA176, kS176, kL177, kA177, kS177, kL178, kA178, kS178, kL179, kC180, kG180, kP180, kL181, kL182, kA182, kS182, kC183, kG183, kP183, kR183_1, kR183_3, kR183_5, kR183_6, kR183_7, kR183_8, kR183_9, kR183_21, kR183_26, kR183_27, kR183_30, kR183_31, kR183_33, kR183_34, kR183_36, kR183_37, kR183_38, kR183_39, kR183_40, kR183_41, kR183_42, kR183_43, kR183_44, kL184, kA184, kS184, kL185, kA185, kS185, kL186, kA186, kS186, kL187, kA187, kS187, kL188, kA188, kS188, kL189, kL190, kL191, kA191, kS191, kL192, kA192, kS192, kL193, kA193, kS193, kL194, kA194, kS194, kL195, kA195, kS195, kL196, kA196, kS196, kL197, kA197, kS197, kL198, kA198, kS198, kL199, kA199, kS199, kL200, kA200, kS200, kL201, kL202, kA202, kS202, kL203, kA203, kS203, kL204, kA204, kS204, kL205, kL206, kA206, kS206, sites_ok hS hG, show (2 : Int32) = nI 2 from rfl, nn_mul, nn_le, show ¬ (2 * gSz g ≤ k) by omega, nn_rem]
    have e2 : nI k / nI 2 = nI i := by rw [nn_div (by omega) (by omega), hi]
    have er : (nI (k % 2) = 1) = (k % 2 = 1) := nn_eq (b := 1) (by omega) (by decide)
    have er' : nI k - nI k / nI 2 * nI 2 = nI (k % 2) := nn_rem (by omega) (by omega)
    first
      | rw [er']
      | skip
    simp only [e2, er, htk]
    rcases (show d = 0 ∨ d = 1 by omega) with z | z
    · rw [if_neg (by omega)]
      rw [z] at main ⊢
      exact main
    · rw [if_pos (by omega)]
      rw [z] at main ⊢
      exact main
  · simp only [f_X12_clusterOf_b16]
    simp (disch := first | assumption | omega) only [Option.bind_some, Option.map_some, xw_gR, xw_gN, xw_al, xw_ck, xw_uI, xw_ur, xup_at, xur_at, if_true, if_false, reduceIte, and_true, true_and, and_false, false_and, not_true_eq_false, not_false_eq_true, Nat.reduceEqDiff, eq_self, Nat.reduceAdd, Nat.reduceMul, kC1, kG1, kP1, kR1_0, kR1_1, kR1_2, kR1_3, kR1_4, kR1_5, kR1_6, kR1_7, kR1_8, kR1_9, kR1_10, kR1_11, kR1_12, kR1_13, kC2, kG2, kP2, kR2_0, kR2_1, kC3, kG3, kP3, kR3_0, kR3_1, kR3_2, kR3_3, kL4, kA4, kS4, kL5, kA5, kS5, kL6, kA6, kS6, kL7, kA7, kS7, kC8, kG8, kP8, kR8_0, kR8_1, kL9, kA9, kS9, kL10, kA10, kS10, kC11, kG11, kP11, kR11_0, kR11_1, kR11_2, kR11_3, kL12, kA12, kS12, kL13, kA13, kS13, kL14, kA14, kS14, kL15, kA15, kS15, kC16, kG16, kP16, kR16_0, kR16_1, kL17, kA17, kS17, kL18, kA18, kS18, kC19, kG19, kP19, kR19_0, kL20, kL141, kL146, kA146, kS146, kL151, kA151, kS151, kL156, kA156, kS156, kC157, kG157, kP157, kR157_0, kR157_1, kL158, kA158, kS158, kL159, kA159, kS159, kC161, kG161, kP161, kR161_0, kR161_1, kL162, kA162, kS162, kL163, kA163, kS163, kC165, kG165, kP165, kR165_0, kR165_1, kR165_2, kR165_3, kL166, kA166, kS166, kL167, kA167, kS167, kL168, kA168, kS168, kL169, kA169, kS169, kC170, kG170, kP170, kR170_0, kR170_1, kR170_2, kL171, kA171, kS171, kL172, kA172, kS172, kL173, kA173, kS173, kC174, kG174, kP174, kR174_0, kR174_1, kR174_2, kR174_3, kR174_4, kL175, kA175, kS175, kL176, kA176, kS176, kL177, kA177, kS177, kL178, kA178, kS178, kL179, kC180, kG180, kP180, kL181, kL182, kA182, kS182, kC183, kG183, kP183, kR183_1, kR183_3, kR183_5, kR183_6, kR183_7, kR183_8, kR183_9, kR183_21, kR183_26, kR183_27, kR183_30, kR183_31, kR183_33, kR183_34, kR183_36, kR183_37, kR183_38, kR183_39, kR183_40, kR183_41, kR183_42, kR183_43, kR183_44, kL184, kA184, kS184, kL185, kA185, kS185, kL186, kA186, kS186, kL187, kA187, kS187, kL188, kA188, kS188, kL189, kL190, kL191, kA191, kS191, kL192, kA192, kS192, kL193, kA193, kS193, kL194, kA194, kS194, kL195, kA195, kS195, kL196, kA196, kS196, kL197, kA197, kS197, kL198, kA198, kS198, kL199, kA199, kS199, kL200, kA200, kS200, kL201, kL202, kA202, kS202, kL203, kA203, kS203, kL204, kA204, kS204, kL205, kL206, kA206, kS206, sites_ok hS hG, show (2 : Int32) = nI 2 from rfl, nn_mul, nn_le, Nat.le_refl]
theorem cluster12_ok (hS : Shp σ) (hG : GRD I g) {b i K : Nat} (h64 : I 191 64 = nI b) (hb : b < 65536) (hi : i < gSz g) (h1 : clI g b tk (2 * gSz g) (2 ^ i) (K + 1) = clI g b tk (2 * gSz g) (2 ^ i) K) (h2 : ∀ j, j < K → clI g b tk (2 * gSz g) (2 ^ i) (j + 1) ≠ clI g b tk (2 * gSz g) (2 ^ i) j) : f_X12_clusterOf (xw σ I) 183 (nI i) = some (nI (clI g b tk (2 * gSz g) (2 ^ i) K)) := by
  have hg := hG.1
  have h16 := (gAll_b g hg).2.2.1
  have h2i : 2 ^ i < 65536 := Nat.pow_lt_pow_right (n := 16) (by decide) (by omega)
  have hIb := clI_b (b := b) (f := tk) (N := 2 * gSz g) hg (fun j hj => by unfold tk; omega) h2i
  unfold f_X12_clusterOf
  rw [nn_one (by omega)]
  refine xforE (fun j : Nat => (nI (clI g b tk (2 * gSz g) (2 ^ i) j), (if j = 0 then (0 : Int32) else nI (clI g b tk (2 * gSz g) (2 ^ i) (j - 1))))) (K + 1) rfl (fun j hj => ?_) ?_
  · simp only [f_X12_clusterOf_b6]
    have hne : ¬ nI (clI g b tk (2 * gSz g) (2 ^ i) j) = (if j = 0 then (0 : Int32) else nI (clI g b tk (2 * gSz g) (2 ^ i) (j - 1))) := by
      by_cases z : j = 0
      · subst z
        rw [if_pos rfl]
        exact nI_ne0 (Nat.two_pow_pos i) (by show 2 ^ i < 2 ^ 31; omega)
      · rw [if_neg z, nn_eq (by have := hIb j; omega) (by have := hIb (j - 1); omega)]
        have := h2 (j - 1) (by omega)
        rw [show j - 1 + 1 = j by omega] at this
        exact this
    rw [if_neg hne, pass12 hS hG _ h64 hb (hIb j)]
    rfl
  · simp only [f_X12_clusterOf_b6]
    rw [if_pos (by rw [if_neg (by omega), Nat.add_sub_cancel, h1]), h1]
    rfl
/-- the cluster of a site -/
def clR (g : GD) (b i : Nat) : Nat := clI g b tk (2 * gSz g) (2 ^ i) 16
theorem clI_stay {g : GD} {b : Nat} {f : Nat → Nat} {N S J : Nat} (h : clI g b f N S (J + 1) = clI g b f N S J) : ∀ m, clI g b f N S (J + m) = clI g b f N S J
  | 0 => rfl
  | m + 1 => by
    show clP g b f (clI g b f N S (J + m)) N = _
    rw [clI_stay h m]
    exact h
theorem cluster_two (hS : Shp σ) (hG : GRD I g) {b i : Nat} (hb : b < 65536) (hi : i < gSz g) : f_X3_clusterOf (xw σ I) 11 (nI b) (nI i) = some (nI (clR g b i)) ∧ (I 191 64 = nI b → f_X12_clusterOf (xw σ I) 183 (nI i) = some (nI (clR g b i))) ∧ clR g b i < 65536 := by
  have hg := hG.1
  have h16 := (gAll_b g hg).2.2.1
  have h2i : 2 ^ i < 65536 := Nat.pow_lt_pow_right (n := 16) (by decide) (by omega)
  have h20 : 2 ^ i ≠ 0 := Nat.pos_iff_ne_zero.mp (Nat.two_pow_pos i)
  obtain ⟨J, j1, j2, j3⟩ := clI_end (b := b) (f := fun j => j) (N := 32) hg (fun j hj => hj) h2i h20
  obtain ⟨K, k1, k2, k3⟩ := clI_end (b := b) (f := tk) (N := 2 * gSz g) hg (fun j hj => by unfold tk; omega) h2i h20
  have e2 : clI g b tk (2 * gSz g) (2 ^ i) K = clR g b i := by
    unfold clR
    have := clI_stay k2 (16 - K)
    rw [show K + (16 - K) = 16 by omega] at this
    exact this.symm
  have e1 := cl_same hg j2 k2
  refine ⟨?_, fun h64 => ?_, ?_⟩
  · rw [cluster11_ok hS hG hb hi j1 j2 j3, e1, e2]
  · rw [cluster12_ok hS hG h64 hb hi k2 k3, e2]
  · exact clI_b hg (fun j hj => by unfold tk; omega) h2i 16
end CLUSTER2
theorem op_cluster : Op_cluster INV := by
  intro n σ hn ⟨g, gT, gP, st, H⟩ x
  have hS := H.shp
  have hG := H.grd
  have h16 := (gAll_b g hG.1).2.2.1
  by_cases hs : isS g x = true
  · obtain ⟨i, hi, rfl⟩ := isS_t hs
    obtain ⟨b, o3, o4, o5⟩ := H.now.2.1.2.2.1
    have hb : b < 65536 := Nat.lt_of_lt_of_le o3 (Nat.pow_le_pow_right (n := 2) (by decide) h16)
    have hb4 : xI σ 16 4 = nI b := H.now.1.2.2.2.1.trans o4
    obtain ⟨c1, c2, c3⟩ := cluster_two (σ := σ) (I := xI σ) hS hG hb hi
    refine ⟨nI (clR g b i), ?_, ?_, g, gT, gP, st, H.nop⟩
    · show f_X11_cluster (xw σ (xI σ)) 1 (nI i) = _
      unfold f_X11_cluster
      simp (disch := first | assumption | omega) only [Option.bind_some, Option.map_some, xw_gR, xw_gN, xw_al, xw_ck, xw_uI, xw_ur, xup_at, xur_at, if_true, if_false, reduceIte, and_true, true_and, and_false, false_and, not_true_eq_false, not_false_eq_true, Nat.reduceEqDiff, eq_self, Nat.reduceAdd, Nat.reduceMul, kC1, kG1, kP1, kR1_0, kR1_1, kR1_2, kR1_3, kR1_4, kR1_5, kR1_6, kR1_7, kR1_8, kR1_9, kR1_10, kR1_11, kR1_12, kR1_13, kC2, kG2, kP2, kR2_0, kR2_1, kC3, kG3, kP3, kR3_0, kR3_1, kR3_2, kR3_3, kL4, kA4, kS4, kL5, kA5, kS5, kL6, kA6, kS6, kL7, kA7, kS7, kC8, kG8, kP8, kR8_0, kR8_1, kL9, kA9, kS9, kL10, kA10, kS10, kC11, kG11, kP11, kR11_0, kR11_1, kR11_2, kR11_3, kL12, kA12, kS12, kL13, kA13, kS13, kL14, kA14, kS14, kL15, kA15, kS15, kC16, kG16, kP16, kR16_0, kR16_1, kL17, kA17, kS17, kL18, kA18, kS18, kC19, kG19, kP19, kR19_0, kL20, kL141, kL146, kA146, kS146, kL151, kA151, kS151, kL156, kA156, kS156, kC157, kG157, kP157, kR157_0, kR157_1, kL158, kA158, kS158, kL159, kA159, kS159, kC161, kG161, kP161, kR161_0, kR161_1, kL162, kA162, kS162, kL163, kA163, kS163, kC165, kG165, kP165, kR165_0, kR165_1, kR165_2, kR165_3, kL166, kA166, kS166, kL167, kA167, kS167, kL168, kA168, kS168, kL169, kA169, kS169, kC170, kG170, kP170, kR170_0, kR170_1, kR170_2, kL171, kA171, kS171, kL172, kA172, kS172, kL173, kA173, kS173, kC174, kG174, kP174, kR174_0, kR174_1, kR174_2, kR174_3, kR174_4, kL175, kA175, kS175, kL176, kA176, kS176, kL177, kA177, kS177, kL178, kA178, kS178, kL179, kC180, kG180, kP180, kL181, kL182, kA182, kS182, kC183, kG183, kP183, kR183_1, kR183_3, kR183_5, kR183_6, kR183_7, kR183_8, kR183_9, kR183_21, kR183_26, kR183_27, kR183_30, kR183_31, kR183_33, kR183_34, kR183_36, kR183_37, kR183_38, kR183_39, kR183_40, kR183_41, kR183_42, kR183_43, kR183_44, kL184, kA184, kS184, kL185, kA185, kS185, kL186, kA186, kS186, kL187, kA187, kS187, kL188, kA188, kS188, kL189, kL190, kL191, kA191, kS191, kL192, kA192, kS192, kL193, kA193, kS193, kL194, kA194, kS194, kL195, kA195, kS195, kL196, kA196, kS196, kL197, kA197, kS197, kL198, kA198, kS198, kL199, kA199, kS199, kL200, kA200, kS200, kL201, kL202, kA202, kS202, kL203, kA203, kS203, kL204, kA204, kS204, kL205, kL206, kA206, kS206, hasSite_ok hS hG, hs, one0, hb4, c1]
    · show f_X12_cluster (xw σ (xI σ)) 183 (nI i) = _
      unfold f_X12_cluster
      simp (disch := first | assumption | omega) only [Option.bind_some, Option.map_some, xw_gR, xw_gN, xw_al, xw_ck, xw_uI, xw_ur, xup_at, xur_at, if_true, if_false, reduceIte, and_true, true_and, and_false, false_and, not_true_eq_false, not_false_eq_true, Nat.reduceEqDiff, eq_self, Nat.reduceAdd, Nat.reduceMul, kC1, kG1, kP1, kR1_0, kR1_1, kR1_2, kR1_3, kR1_4, kR1_5, kR1_6, kR1_7, kR1_8, kR1_9, kR1_10, kR1_11, kR1_12, kR1_13, kC2, kG2, kP2, kR2_0, kR2_1, kC3, kG3, kP3, kR3_0, kR3_1, kR3_2, kR3_3, kL4, kA4, kS4, kL5, kA5, kS5, kL6, kA6, kS6, kL7, kA7, kS7, kC8, kG8, kP8, kR8_0, kR8_1, kL9, kA9, kS9, kL10, kA10, kS10, kC11, kG11, kP11, kR11_0, kR11_1, kR11_2, kR11_3, kL12, kA12, kS12, kL13, kA13, kS13, kL14, kA14, kS14, kL15, kA15, kS15, kC16, kG16, kP16, kR16_0, kR16_1, kL17, kA17, kS17, kL18, kA18, kS18, kC19, kG19, kP19, kR19_0, kL20, kL141, kL146, kA146, kS146, kL151, kA151, kS151, kL156, kA156, kS156, kC157, kG157, kP157, kR157_0, kR157_1, kL158, kA158, kS158, kL159, kA159, kS159, kC161, kG161, kP161, kR161_0, kR161_1, kL162, kA162, kS162, kL163, kA163, kS163, kC165, kG165, kP165, kR165_0, kR165_1, kR165_2, kR165_3, kL166, kA166, kS166, kL167, kA167, kS167, kL168, kA168, kS168, kL169, kA169, kS169, kC170, kG170, kP170, kR170_0, kR170_1, kR170_2, kL171, kA171, kS171, kL172, kA172, kS172, kL173, kA173, kS173, kC174, kG174, kP174, kR174_0, kR174_1, kR174_2, kR174_3, kR174_4, kL175, kA175, kS175, kL176, kA176, kS176, kL177, kA177, kS177, kL178, kA178, kS178, kL179, kC180, kG180, kP180, kL181, kL182, kA182, kS182, kC183, kG183, kP183, kR183_1, kR183_3, kR183_5, kR183_6, kR183_7, kR183_8, kR183_9, kR183_21, kR183_26, kR183_27, kR183_30, kR183_31, kR183_33, kR183_34, kR183_36, kR183_37, kR183_38, kR183_39, kR183_40, kR183_41, kR183_42, kR183_43, kR183_44, kL184, kA184, kS184, kL185, kA185, kS185, kL186, kA186, kS186, kL187, kA187, kS187, kL188, kA188, kS188, kL189, kL190, kL191, kA191, kS191, kL192, kA192, kS192, kL193, kA193, kS193, kL194, kA194, kS194, kL195, kA195, kS195, kL196, kA196, kS196, kL197, kA197, kS197, kL198, kA198, kS198, kL199, kA199, kS199, kL200, kA200, kS200, kL201, kL202, kA202, kS202, kL203, kA203, kS203, kL204, kA204, kS204, kL205, kL206, kA206, kS206, isSite_ok hS hG, hs, one0, c2 o4]
  · refine ⟨-1, ?_, ?_, g, gT, gP, st, H.nop⟩
    · show f_X11_cluster (xw σ (xI σ)) 1 x = _
      unfold f_X11_cluster
      simp (disch := first | assumption | omega) only [Option.bind_some, Option.map_some, xw_gR, xw_gN, xw_al, xw_ck, xw_uI, xw_ur, xup_at, xur_at, if_true, if_false, reduceIte, and_true, true_and, and_false, false_and, not_true_eq_false, not_false_eq_true, Nat.reduceEqDiff, eq_self, Nat.reduceAdd, Nat.reduceMul, kC1, kG1, kP1, kR1_0, kR1_1, kR1_2, kR1_3, kR1_4, kR1_5, kR1_6, kR1_7, kR1_8, kR1_9, kR1_10, kR1_11, kR1_12, kR1_13, kC2, kG2, kP2, kR2_0, kR2_1, kC3, kG3, kP3, kR3_0, kR3_1, kR3_2, kR3_3, kL4, kA4, kS4, kL5, kA5, kS5, kL6, kA6, kS6, kL7, kA7, kS7, kC8, kG8, kP8, kR8_0, kR8_1, kL9, kA9, kS9, kL10, kA10, kS10, kC11, kG11, kP11, kR11_0, kR11_1, kR11_2, kR11_3, kL12, kA12, kS12, kL13, kA13, kS13, kL14, kA14, kS14, kL15, kA15, kS15, kC16, kG16, kP16, kR16_0, kR16_1, kL17, kA17, kS17, kL18, kA18, kS18, kC19, kG19, kP19, kR19_0, kL20, kL141, kL146, kA146, kS146, kL151, kA151, kS151, kL156, kA156, kS156, kC157, kG157, kP157, kR157_0, kR157_1, kL158, kA158, kS158, kL159, kA159, kS159, kC161, kG161, kP161, kR161_0, kR161_1, kL162, kA162, kS162, kL163, kA163, kS163, kC165, kG165, kP165, kR165_0, kR165_1, kR165_2, kR165_3, kL166, kA166, kS166, kL167, kA167, kS167, kL168, kA168, kS168, kL169, kA169, kS169, kC170, kG170, kP170, kR170_0, kR170_1, kR170_2, kL171, kA171, kS171, kL172, kA172, kS172, kL173, kA173, kS173, kC174, kG174, kP174, kR174_0, kR174_1, kR174_2, kR174_3, kR174_4, kL175, kA175, kS175, kL176, kA176, kS176, kL177, kA177, kS177, kL178, kA178, kS178, kL179, kC180, kG180, kP180, kL181, kL182, kA182, kS182, kC183, kG183, kP183, kR183_1, kR183_3, kR183_5, kR183_6, kR183_7, kR183_8, kR183_9, kR183_21, kR183_26, kR183_27, kR183_30, kR183_31, kR183_33, kR183_34, kR183_36, kR183_37, kR183_38, kR183_39, kR183_40, kR183_41, kR183_42, kR183_43, kR183_44, kL184, kA184, kS184, kL185, kA185, kS185, kL186, kA186, kS186, kL187, kA187, kS187, kL188, kA188, kS188, kL189, kL190, kL191, kA191, kS191, kL192, kA192, kS192, kL193, kA193, kS193, kL194, kA194, kS194, kL195, kA195, kS195, kL196, kA196, kS196, kL197, kA197, kS197, kL198, kA198, kS198, kL199, kA199, kS199, kL200, kA200, kS200, kL201, kL202, kA202, kS202, kL203, kA203, kS203, kL204, kA204, kS204, kL205, kL206, kA206, kS206, hasSite_ok hS hG, hs]
      rfl
    · show f_X12_cluster (xw σ (xI σ)) 183 x = _
      unfold f_X12_cluster
      simp (disch := first | assumption | omega) only [Option.bind_some, Option.map_some, xw_gR, xw_gN, xw_al, xw_ck, xw_uI, xw_ur, xup_at, xur_at, if_true, if_false, reduceIte, and_true, true_and, and_false, false_and, not_true_eq_false, not_false_eq_true, Nat.reduceEqDiff, eq_self, Nat.reduceAdd, Nat.reduceMul, kC1, kG1, kP1, kR1_0, kR1_1, kR1_2, kR1_3, kR1_4, kR1_5, kR1_6, kR1_7, kR1_8, kR1_9, kR1_10, kR1_11, kR1_12, kR1_13, kC2, kG2, kP2, kR2_0, kR2_1, kC3, kG3, kP3, kR3_0, kR3_1, kR3_2, kR3_3, kL4, kA4, kS4, kL5, kA5, kS5, kL6, kA6, kS6, kL7, kA7, kS7, kC8, kG8, kP8, kR8_0, kR8_1, kL9, kA9, kS9, kL10, kA10, kS10, kC11, kG11, kP11, kR11_0, kR11_1, kR11_2, kR11_3, kL12, kA12, kS12, kL13, kA13, kS13, kL14, kA14, kS14, kL15, kA15, kS15, kC16, kG16, kP16, kR16_0, kR16_1, kL17, kA17, kS17, kL18, kA18, kS18, kC19, kG19, kP19, kR19_0, kL20, kL141, kL146, kA146, kS146, kL151, kA151, kS151, kL156, kA156, kS156, kC157, kG157, kP157, kR157_0, kR157_1, kL158, kA158, kS158, kL159, kA159, kS159, kC161, kG161, kP161, kR161_0, kR161_1, kL162, kA162, kS162, kL163, kA163, kS163, kC165, kG165, kP165, kR165_0, kR165_1, kR165_2, kR165_3, kL166, kA166, kS166, kL167, kA167, kS167, kL168, kA168, kS168, kL169, kA169, kS169, kC170, kG170, kP170, kR170_0, kR170_1, kR170_2, kL171, kA171, kS171, kL172, kA172, kS172, kL173, kA173, kS173, kC174, kG174, kP174, kR174_0, kR174_1, kR174_2, kR174_3, kR174_4, kL175, kA175, kS175, kL176, kA176, kS176, kL177, kA177, kS177, kL178, kA178, kS178, kL179, kC180, kG180, kP180, kL181, kL182, kA182, kS182, kC183, kG183, kP183, kR183_1, kR183_3, kR183_5, kR183_6, kR183_7, kR183_8, kR183_9, kR183_21, kR183_26, kR183_27, kR183_30, kR183_31, kR183_33, kR183_34, kR183_36, kR183_37, kR183_38, kR183_39, kR183_40, kR183_41, kR183_42, kR183_43, kR183_44, kL184, kA184, kS184, kL185, kA185, kS185, kL186, kA186, kS186, kL187, kA187, kS187, kL188, kA188, kS188, kL189, kL190, kL191, kA191, kS191, kL192, kA192, kS192, kL193, kA193, kS193, kL194, kA194, kS194, kL195, kA195, kS195, kL196, kA196, kS196, kL197, kA197, kS197, kL198, kA198, kS198, kL199, kA199, kS199, kL200, kA200, kS200, kL201, kL202, kA202, kS202, kL203, kA203, kS203, kL204, kA204, kS204, kL205, kL206, kA206, kS206, isSite_ok hS hG, hs]
      rfl
end
section
/-! counts of the strip -/
/-- how many lawful states -/
def npin (F : Nat → Int32) (k : Nat) : Nat := fb_ct (fun i => decide (F (48 + i) ≠ 0)) k
theorem npin_le (F : Nat → Int32) (k : Nat) : npin F k ≤ k := fb_ct_le _ _
theorem lwk_s {F : Nat → Int32} {k s : Nat} : lwk F (k + 1) s = (lwk F k s && (decide (F (48 + k) = 0) || (s.testBit k == decide (F (48 + k) = 1)))) := by
  unfold lwk
  rw [List.range_succ, List.all_append]
  simp
theorem lwk_cong {F : Nat → Int32} {k s s' : Nat} (h : ∀ i, i < k → s'.testBit i = s.testBit i) : lwk F k s' = lwk F k s := by
  rw [Bool.eq_iff_iff, lwk_iff, lwk_iff]
  constructor
  · intro q i hi hne; rw [← h i hi]; exact q i hi hne
  · intro q i hi hne; rw [h i hi]; exact q i hi hne
theorem lawful_ct {F : Nat → Int32} : ∀ k, (∀ i, i < k → F (48 + i) = 0 ∨ F (48 + i) = 1 ∨ F (48 + i) = 2) → fb_ct (lwk F k) (2 ^ k) = 2 ^ (k - npin F k)
  | 0, _ => rfl
  | k + 1, hp => by
    have ih := lawful_ct k (fun i hi => hp i (by omega))
    have hle := npin_le F k
    have hsp : 2 ^ (k + 1) = 2 ^ k + 2 ^ k := by rw [Nat.pow_succ]; omega
    rw [hsp, fb_ct_split]
    have lo : ∀ s, s < 2 ^ k → lwk F (k + 1) s = (lwk F k s && (decide (F (48 + k) = 0) || !decide (F (48 + k) = 1))) := fun s hs => by
      rw [lwk_s, Nat.testBit_lt_two_pow hs]
      cases decide (F (48 + k) = 1) <;> rfl
    have hi : ∀ s, s < 2 ^ k → lwk F (k + 1) (2 ^ k + s) = (lwk F k s && (decide (F (48 + k) = 0) || decide (F (48 + k) = 1))) := fun s hs => by
      rw [lwk_s, lwk_cong (s := s) (fun i hi => Nat.testBit_two_pow_add_gt hi s), Nat.testBit_two_pow_add_eq, Nat.testBit_lt_two_pow hs]
      cases decide (F (48 + k) = 1) <;> rfl
    rw [fb_ct_cong lo, fb_ct_cong hi]
    have np : npin F (k + 1) = npin F k + (if F (48 + k) = 0 then 0 else 1) := by
      unfold npin
      rw [fb_ct_succ]
      by_cases z : F (48 + k) = 0 <;> simp [z]
    have no : fb_ct (fun _ => false) (2 ^ k) = 0 := fb_ct_zero.mpr (fun _ _ => rfl)
    rcases hp k (by omega) with z | z | z
    · rw [np, if_pos z]
      simp only [z, decide_true, Bool.true_or, Bool.and_true]
      have e1 : fb_ct (fun k_1 => lwk F k k_1) (2 ^ k) = 2 ^ (k - npin F k) := ih
      rw [e1, show k + 1 - (npin F k + 0) = (k - npin F k) + 1 by omega, Nat.pow_succ]
      omega
    · have z0 : ¬ ((1 : Int32) = 0) := by decide
      rw [np, if_neg (by rw [z]; decide)]
      simp only [z, z0, decide_true, decide_false, Bool.false_or, Bool.not_true, Bool.and_false, Bool.and_true]
      have e1 : fb_ct (fun k_1 => lwk F k k_1) (2 ^ k) = 2 ^ (k - npin F k) := ih
      rw [no, e1, show k + 1 - (npin F k + 1) = k - npin F k by omega]
      omega
    · have z0 : ¬ ((2 : Int32) = 0) := by decide
      have z1 : ¬ ((2 : Int32) = 1) := by decide
      rw [np, if_neg (by rw [z]; decide)]
      simp only [z, z0, z1, decide_false, Bool.false_or, Bool.not_false, Bool.and_false, Bool.and_true]
      have e1 : fb_ct (fun k_1 => lwk F k k_1) (2 ^ k) = 2 ^ (k - npin F k) := ih
      rw [no, e1, show k + 1 - (npin F k + 1) = k - npin F k by omega]
      omega
section COUNTS
variable {σ : XS} {I : Nat → Nat → Int32} {g : GD} {F : Nat → Int32}
theorem pC_pin (hg : g ∈ gAll) {p : Nat} (e5 : ∀ i, p.testBit i = (decide (i < gSz g) && decide (F (48 + i) ≠ 0))) : pC p = npin F (gSz g) := by
  have h16 := (gAll_b g hg).2.2.1
  unfold pC npin
  have h1 := fb_ct_split (fun i => p.testBit i) (gSz g) (16 - gSz g)
  rw [show gSz g + (16 - gSz g) = 16 by omega] at h1
  have z : fb_ct (fun k => p.testBit (gSz g + k)) (16 - gSz g) = 0 := fb_ct_zero.mpr (fun j hj => by
    show p.testBit (gSz g + j) = false
    rw [e5]
    have : ¬ (gSz g + j < gSz g) := by omega
    simp [this])
  rw [h1, z, Nat.add_zero]
  exact fb_ct_cong (fun i hi => by
    show p.testBit i = _
    rw [e5]; simp [hi])
theorem countStates_ok (hS : Shp σ) (hG : GRD I g) (ho : RO g F) (hSR : SR g I 16 F) : f_X11_countStates (xw σ I) 1 = some (nI (fb_ct (lW g F) (gSt g))) := by
  have hg := hG.1
  have h16 := (gAll_b g hg).2.2.1
  obtain ⟨-, -, ⟨p, u, e3, e4, e5, e6⟩, -, -⟩ := id hSR
  have hp : p < 65536 := Nat.lt_pow_two_of_testBit (n := 16) p (fun j hj => by rw [e5]; simp; omega)
  have hle := npin_le F (gSz g)
  unfold f_X11_countStates
  have e : (nI (gSz g) = 0) = (gSz g = 0) := nn_eq (b := 0) (by omega) (by decide)
  simp (disch := first | assumption | omega) only [Option.bind_some, Option.map_some, xw_gR, xw_gN, xw_al, xw_ck, xw_uI, xw_ur, xup_at, xur_at, if_true, if_false, reduceIte, and_true, true_and, and_false, false_and, not_true_eq_false, not_false_eq_true, Nat.reduceEqDiff, eq_self, Nat.reduceAdd, Nat.reduceMul, kC1, kG1, kP1, kR1_0, kR1_1, kR1_2, kR1_3, kR1_4, kR1_5, kR1_6, kR1_7, kR1_8, kR1_9, kR1_10, kR1_11, kR1_12, kR1_13, kC2, kG2, kP2, kR2_0, kR2_1, kC3, kG3, kP3, kR3_0, kR3_1, kR3_2, kR3_3, kL4, kA4, kS4, kL5, kA5, kS5, kL6, kA6, kS6, kL7, kA7, kS7, kC8, kG8, kP8, kR8_0, kR8_1, kL9, kA9, kS9, kL10, kA10, kS10, kC11, kG11, kP11, kR11_0, kR11_1, kR11_2, kR11_3, kL12, kA12, kS12, kL13, kA13, kS13, kL14, kA14, kS14, kL15, kA15, kS15, kC16, kG16, kP16, kR16_0, kR16_1, kL17, kA17, kS17, kL18, kA18, kS18, kC19, kG19, kP19, kR19_0, kL20, kL141, kL146, kA146, kS146, kL151, kA151, kS151, kL156, kA156, kS156, kC157, kG157, kP157, kR157_0, kR157_1, kL158, kA158, kS158, kL159, kA159, kS159, kC161, kG161, kP161, kR161_0, kR161_1, kL162, kA162, kS162, kL163, kA163, kS163, kC165, kG165, kP165, kR165_0, kR165_1, kR165_2, kR165_3, kL166, kA166, kS166, kL167, kA167, kS167, kL168, kA168, kS168, kL169, kA169, kS169, kC170, kG170, kP170, kR170_0, kR170_1, kR170_2, kL171, kA171, kS171, kL172, kA172, kS172, kL173, kA173, kS173, kC174, kG174, kP174, kR174_0, kR174_1, kR174_2, kR174_3, kR174_4, kL175, kA175, kS175, kL176, kA176, kS176, kL177, kA177, kS177, kL178, kA178, kS178, kL179, kC180, kG180, kP180, kL181, kL182, kA182, kS182, kC183, kG183, kP183, kR183_1, kR183_3, kR183_5, kR183_6, kR183_7, kR183_8, kR183_9, kR183_21, kR183_26, kR183_27, kR183_30, kR183_31, kR183_33, kR183_34, kR183_36, kR183_37, kR183_38, kR183_39, kR183_40, kR183_41, kR183_42, kR183_43, kR183_44, kL184, kA184, kS184, kL185, kA185, kS185, kL186, kA186, kS186, kL187, kA187, kS187, kL188, kA188, kS188, kL189, kL190, kL191, kA191, kS191, kL192, kA192, kS192, kL193, kA193, kS193, kL194, kA194, kS194, kL195, kA195, kS195, kL196, kA196, kS196, kL197, kA197, kS197, kL198, kA198, kS198, kL199, kA199, kS199, kL200, kA200, kS200, kL201, kL202, kA202, kS202, kL203, kA203, kS203, kL204, kA204, kS204, kL205, kL206, kA206, kS206, hG.2.2.2.2.1, e, e3, bitCount_ok hp]
  by_cases h0 : gSz g = 0
  · rw [if_pos h0]
    have : gSt g = 0 := by unfold gSt; rw [if_pos h0]
    rw [this]; rfl
  · rw [if_neg h0, pC_pin hg e5, nn_sub hle, nn_one (by omega)]
    have hN : gSt g = 2 ^ gSz g := by unfold gSt; rw [if_neg h0]
    rw [hN]
    have := lawful_ct (F := F) (gSz g) (fun i hi => (ho.2.1 i (by omega)).1)
    rw [← this]
    rfl
theorem lawfulMany_ok (hS : Shp σ) (hG : GRD I g) (hr : I 191 = F) (ho : RO g F) : f_X12_lawfulMany (xw σ I) 183 = some (nI (fb_ct (lW g F) (gSt g))) := by
  have hg := hG.1
  have hSt := (gSt_b hg).1
  unfold f_X12_lawfulMany
  refine xforE (fun s : Nat => (nI (fb_ct (lW g F) s), nI s)) (gSt g) rfl (fun s hs => ?_) ?_
  · simp only [f_X12_lawfulMany_b4]
    have hl := isLawful12_ok (σ := σ) (I := I) hS hG (by rw [hr]; exact ho) (nI s)
    rw [hr, isB_n hg hs] at hl
    simp (disch := first | assumption | omega) only [Option.bind_some, Option.map_some, xw_gR, xw_gN, xw_al, xw_ck, xw_uI, xw_ur, xup_at, xur_at, if_true, if_false, reduceIte, and_true, true_and, and_false, false_and, not_true_eq_false, not_false_eq_true, Nat.reduceEqDiff, eq_self, Nat.reduceAdd, Nat.reduceMul, kC1, kG1, kP1, kR1_0, kR1_1, kR1_2, kR1_3, kR1_4, kR1_5, kR1_6, kR1_7, kR1_8, kR1_9, kR1_10, kR1_11, kR1_12, kR1_13, kC2, kG2, kP2, kR2_0, kR2_1, kC3, kG3, kP3, kR3_0, kR3_1, kR3_2, kR3_3, kL4, kA4, kS4, kL5, kA5, kS5, kL6, kA6, kS6, kL7, kA7, kS7, kC8, kG8, kP8, kR8_0, kR8_1, kL9, kA9, kS9, kL10, kA10, kS10, kC11, kG11, kP11, kR11_0, kR11_1, kR11_2, kR11_3, kL12, kA12, kS12, kL13, kA13, kS13, kL14, kA14, kS14, kL15, kA15, kS15, kC16, kG16, kP16, kR16_0, kR16_1, kL17, kA17, kS17, kL18, kA18, kS18, kC19, kG19, kP19, kR19_0, kL20, kL141, kL146, kA146, kS146, kL151, kA151, kS151, kL156, kA156, kS156, kC157, kG157, kP157, kR157_0, kR157_1, kL158, kA158, kS158, kL159, kA159, kS159, kC161, kG161, kP161, kR161_0, kR161_1, kL162, kA162, kS162, kL163, kA163, kS163, kC165, kG165, kP165, kR165_0, kR165_1, kR165_2, kR165_3, kL166, kA166, kS166, kL167, kA167, kS167, kL168, kA168, kS168, kL169, kA169, kS169, kC170, kG170, kP170, kR170_0, kR170_1, kR170_2, kL171, kA171, kS171, kL172, kA172, kS172, kL173, kA173, kS173, kC174, kG174, kP174, kR174_0, kR174_1, kR174_2, kR174_3, kR174_4, kL175, kA175, kS175, kL176, kA176, kS176, kL177, kA177, kS177, kL178, kA178, kS178, kL179, kC180, kG180, kP180, kL181, kL182, kA182, kS182, kC183, kG183, kP183, kR183_1, kR183_3, kR183_5, kR183_6, kR183_7, kR183_8, kR183_9, kR183_21, kR183_26, kR183_27, kR183_30, kR183_31, kR183_33, kR183_34, kR183_36, kR183_37, kR183_38, kR183_39, kR183_40, kR183_41, kR183_42, kR183_43, kR183_44, kL184, kA184, kS184, kL185, kA185, kS185, kL186, kA186, kS186, kL187, kA187, kS187, kL188, kA188, kS188, kL189, kL190, kL191, kA191, kS191, kL192, kA192, kS192, kL193, kA193, kS193, kL194, kA194, kS194, kL195, kA195, kS195, kL196, kA196, kS196, kL197, kA197, kS197, kL198, kA198, kS198, kL199, kA199, kS199, kL200, kA200, kS200, kL201, kL202, kA202, kS202, kL203, kA203, kS203, kL204, kA204, kS204, kL205, kL206, kA206, kS206, states12_ok hS hG, nn_le, show ¬ (gSt g ≤ s) by omega, hl]
    rw [fb_ct_succ, ← nI_succ, ← nI_succ]
    cases lW g F s <;> rfl
  · simp only [f_X12_lawfulMany_b4]
    simp (disch := first | assumption | omega) only [Option.bind_some, Option.map_some, xw_gR, xw_gN, xw_al, xw_ck, xw_uI, xw_ur, xup_at, xur_at, if_true, if_false, reduceIte, and_true, true_and, and_false, false_and, not_true_eq_false, not_false_eq_true, Nat.reduceEqDiff, eq_self, Nat.reduceAdd, Nat.reduceMul, kC1, kG1, kP1, kR1_0, kR1_1, kR1_2, kR1_3, kR1_4, kR1_5, kR1_6, kR1_7, kR1_8, kR1_9, kR1_10, kR1_11, kR1_12, kR1_13, kC2, kG2, kP2, kR2_0, kR2_1, kC3, kG3, kP3, kR3_0, kR3_1, kR3_2, kR3_3, kL4, kA4, kS4, kL5, kA5, kS5, kL6, kA6, kS6, kL7, kA7, kS7, kC8, kG8, kP8, kR8_0, kR8_1, kL9, kA9, kS9, kL10, kA10, kS10, kC11, kG11, kP11, kR11_0, kR11_1, kR11_2, kR11_3, kL12, kA12, kS12, kL13, kA13, kS13, kL14, kA14, kS14, kL15, kA15, kS15, kC16, kG16, kP16, kR16_0, kR16_1, kL17, kA17, kS17, kL18, kA18, kS18, kC19, kG19, kP19, kR19_0, kL20, kL141, kL146, kA146, kS146, kL151, kA151, kS151, kL156, kA156, kS156, kC157, kG157, kP157, kR157_0, kR157_1, kL158, kA158, kS158, kL159, kA159, kS159, kC161, kG161, kP161, kR161_0, kR161_1, kL162, kA162, kS162, kL163, kA163, kS163, kC165, kG165, kP165, kR165_0, kR165_1, kR165_2, kR165_3, kL166, kA166, kS166, kL167, kA167, kS167, kL168, kA168, kS168, kL169, kA169, kS169, kC170, kG170, kP170, kR170_0, kR170_1, kR170_2, kL171, kA171, kS171, kL172, kA172, kS172, kL173, kA173, kS173, kC174, kG174, kP174, kR174_0, kR174_1, kR174_2, kR174_3, kR174_4, kL175, kA175, kS175, kL176, kA176, kS176, kL177, kA177, kS177, kL178, kA178, kS178, kL179, kC180, kG180, kP180, kL181, kL182, kA182, kS182, kC183, kG183, kP183, kR183_1, kR183_3, kR183_5, kR183_6, kR183_7, kR183_8, kR183_9, kR183_21, kR183_26, kR183_27, kR183_30, kR183_31, kR183_33, kR183_34, kR183_36, kR183_37, kR183_38, kR183_39, kR183_40, kR183_41, kR183_42, kR183_43, kR183_44, kL184, kA184, kS184, kL185, kA185, kS185, kL186, kA186, kS186, kL187, kA187, kS187, kL188, kA188, kS188, kL189, kL190, kL191, kA191, kS191, kL192, kA192, kS192, kL193, kA193, kS193, kL194, kA194, kS194, kL195, kA195, kS195, kL196, kA196, kS196, kL197, kA197, kS197, kL198, kA198, kS198, kL199, kA199, kS199, kL200, kA200, kS200, kL201, kL202, kA202, kS202, kL203, kA203, kS203, kL204, kA204, kS204, kL205, kL206, kA206, kS206, states12_ok hS hG, nn_le, Nat.le_refl]
def pnM (F : Nat → Int32) : Nat → Nat
  | 0 => 0
  | i + 1 => if F (48 + i) = 0 then pnM F i else pnM F i ||| 2 ^ i
theorem pnM_b (F : Nat → Int32) : ∀ k i, (pnM F k).testBit i = (decide (i < k) && decide (F (48 + i) ≠ 0))
  | 0, i => by rw [pnM, Nat.zero_testBit]; simp
  | k + 1, i => by
    rw [pnM]
    have ih := pnM_b F k i
    by_cases h : F (48 + k) = 0
    · rw [if_pos h, ih]
      by_cases z : i = k
      · subst z; simp [h]
      · have : (i < k + 1) ↔ (i < k) := by omega
        simp only [this]
    · rw [if_neg h, fb_bit_set, ih]
      by_cases z : i = k
      · subst z; simp [h]
      · have : (i < k + 1) ↔ (i < k) := by omega
        simp [this, z]
theorem pinned12_ok (hS : Shp σ) (hG : GRD I g) (hr : I 191 = F) (ho : RO g F) {p : Nat} (e5 : ∀ i, p.testBit i = (decide (i < gSz g) && decide (F (48 + i) ≠ 0))) : f_X12_pinned (xw σ I) 183 = some (nI p) := by
  have hg := hG.1
  have h16 := (gAll_b g hg).2.2.1
  have hp : p = pnM F (gSz g) := Nat.eq_of_testBit_eq (fun i => by rw [e5, pnM_b])
  rw [hp]
  unfold f_X12_pinned
  refine xforE (fun i : Nat => (nI (pnM F i), nI i)) (gSz g) rfl (fun i hi => ?_) ?_
  · simp only [f_X12_pinned_b4]
    have hp3 := (ho.2.1 i (by omega)).1
    have hpc : (F (48 + i) ≤ 0) = (F (48 + i) = 0) := by
      rcases hp3 with z | z | z <;> rw [z] <;> decide
    have hv : I 191 (48 + i) = F (48 + i) := by rw [hr]
    simp (disch := first | assumption | omega) only [Option.bind_some, Option.map_some, xw_gR, xw_gN, xw_al, xw_ck, xw_uI, xw_ur, xup_at, xur_at, if_true, if_false, reduceIte, and_true, true_and, and_false, false_and, not_true_eq_false, not_false_eq_true, Nat.reduceEqDiff, eq_self, Nat.reduceAdd, Nat.reduceMul, kC1, kG1, kP1, kR1_0, kR1_1, kR1_2, kR1_3, kR1_4, kR1_5, kR1_6, kR1_7, kR1_8, kR1_9, kR1_10, kR1_11, kR1_12, kR1_13, kC2, kG2, kP2, kR2_0, kR2_1, kC3, kG3, kP3, kR3_0, kR3_1, kR3_2, kR3_3, kL4, kA4, kS4, kL5, kA5, kS5, kL6, kA6, kS6, kL7, kA7, kS7, kC8, kG8, kP8, kR8_0, kR8_1, kL9, kA9, kS9, kL10, kA10, kS10, kC11, kG11, kP11, kR11_0, kR11_1, kR11_2, kR11_3, kL12, kA12, kS12, kL13, kA13, kS13, kL14, kA14, kS14, kL15, kA15, kS15, kC16, kG16, kP16, kR16_0, kR16_1, kL17, kA17, kS17, kL18, kA18, kS18, kC19, kG19, kP19, kR19_0, kL20, kL141, kL146, kA146, kS146, kL151, kA151, kS151, kL156, kA156, kS156, kC157, kG157, kP157, kR157_0, kR157_1, kL158, kA158, kS158, kL159, kA159, kS159, kC161, kG161, kP161, kR161_0, kR161_1, kL162, kA162, kS162, kL163, kA163, kS163, kC165, kG165, kP165, kR165_0, kR165_1, kR165_2, kR165_3, kL166, kA166, kS166, kL167, kA167, kS167, kL168, kA168, kS168, kL169, kA169, kS169, kC170, kG170, kP170, kR170_0, kR170_1, kR170_2, kL171, kA171, kS171, kL172, kA172, kS172, kL173, kA173, kS173, kC174, kG174, kP174, kR174_0, kR174_1, kR174_2, kR174_3, kR174_4, kL175, kA175, kS175, kL176, kA176, kS176, kL177, kA177, kS177, kL178, kA178, kS178, kL179, kC180, kG180, kP180, kL181, kL182, kA182, kS182, kC183, kG183, kP183, kR183_1, kR183_3, kR183_5, kR183_6, kR183_7, kR183_8, kR183_9, kR183_21, kR183_26, kR183_27, kR183_30, kR183_31, kR183_33, kR183_34, kR183_36, kR183_37, kR183_38, kR183_39, kR183_40, kR183_41, kR183_42, kR183_43, kR183_44, kL184, kA184, kS184, kL185, kA185, kS185, kL186, kA186, kS186, kL187, kA187, kS187, kL188, kA188, kS188, kL189, kL190, kL191, kA191, kS191, kL192, kA192, kS192, kL193, kA193, kS193, kL194, kA194, kS194, kL195, kA195, kS195, kL196, kA196, kS196, kL197, kA197, kS197, kL198, kA198, kS198, kL199, kA199, kS199, kL200, kA200, kS200, kL201, kL202, kA202, kS202, kL203, kA203, kS203, kL204, kA204, kS204, kL205, kL206, kA206, kS206, sites_ok hS hG, nn_le, show ¬ (gSz g ≤ i) by omega, show (48 : Int32) = nI 48 from rfl, nn_add, hv, hpc, nn_one, fa_or]
    rw [← nI_succ, pnM]
    by_cases z : F (48 + i) = 0
    · rw [if_pos z, if_pos z]
    · rw [if_neg z, if_neg z]
  · simp only [f_X12_pinned_b4]
    simp (disch := first | assumption | omega) only [Option.bind_some, Option.map_some, xw_gR, xw_gN, xw_al, xw_ck, xw_uI, xw_ur, xup_at, xur_at, if_true, if_false, reduceIte, and_true, true_and, and_false, false_and, not_true_eq_false, not_false_eq_true, Nat.reduceEqDiff, eq_self, Nat.reduceAdd, Nat.reduceMul, kC1, kG1, kP1, kR1_0, kR1_1, kR1_2, kR1_3, kR1_4, kR1_5, kR1_6, kR1_7, kR1_8, kR1_9, kR1_10, kR1_11, kR1_12, kR1_13, kC2, kG2, kP2, kR2_0, kR2_1, kC3, kG3, kP3, kR3_0, kR3_1, kR3_2, kR3_3, kL4, kA4, kS4, kL5, kA5, kS5, kL6, kA6, kS6, kL7, kA7, kS7, kC8, kG8, kP8, kR8_0, kR8_1, kL9, kA9, kS9, kL10, kA10, kS10, kC11, kG11, kP11, kR11_0, kR11_1, kR11_2, kR11_3, kL12, kA12, kS12, kL13, kA13, kS13, kL14, kA14, kS14, kL15, kA15, kS15, kC16, kG16, kP16, kR16_0, kR16_1, kL17, kA17, kS17, kL18, kA18, kS18, kC19, kG19, kP19, kR19_0, kL20, kL141, kL146, kA146, kS146, kL151, kA151, kS151, kL156, kA156, kS156, kC157, kG157, kP157, kR157_0, kR157_1, kL158, kA158, kS158, kL159, kA159, kS159, kC161, kG161, kP161, kR161_0, kR161_1, kL162, kA162, kS162, kL163, kA163, kS163, kC165, kG165, kP165, kR165_0, kR165_1, kR165_2, kR165_3, kL166, kA166, kS166, kL167, kA167, kS167, kL168, kA168, kS168, kL169, kA169, kS169, kC170, kG170, kP170, kR170_0, kR170_1, kR170_2, kL171, kA171, kS171, kL172, kA172, kS172, kL173, kA173, kS173, kC174, kG174, kP174, kR174_0, kR174_1, kR174_2, kR174_3, kR174_4, kL175, kA175, kS175, kL176, kA176, kS176, kL177, kA177, kS177, kL178, kA178, kS178, kL179, kC180, kG180, kP180, kL181, kL182, kA182, kS182, kC183, kG183, kP183, kR183_1, kR183_3, kR183_5, kR183_6, kR183_7, kR183_8, kR183_9, kR183_21, kR183_26, kR183_27, kR183_30, kR183_31, kR183_33, kR183_34, kR183_36, kR183_37, kR183_38, kR183_39, kR183_40, kR183_41, kR183_42, kR183_43, kR183_44, kL184, kA184, kS184, kL185, kA185, kS185, kL186, kA186, kS186, kL187, kA187, kS187, kL188, kA188, kS188, kL189, kL190, kL191, kA191, kS191, kL192, kA192, kS192, kL193, kA193, kS193, kL194, kA194, kS194, kL195, kA195, kS195, kL196, kA196, kS196, kL197, kA197, kS197, kL198, kA198, kS198, kL199, kA199, kS199, kL200, kA200, kS200, kL201, kL202, kA202, kS202, kL203, kA203, kS203, kL204, kA204, kS204, kL205, kL206, kA206, kS206, sites_ok hS hG, nn_le, Nat.le_refl]
theorem ties11_ok (hS : Shp σ) (hG : GRD I g) : f_X3_countTies (xw σ I) 11 = some (nI (fb_ct (fun t => (gTo g t).isSome) 32)) := by
  unfold f_X3_countTies
  refine xforE (fun t : Nat => (nI (fb_ct (fun t => (gTo g t).isSome) t), nI t)) 32 rfl (fun t ht => ?_) ?_
  · simp only [f_X3_countTies_b4]
    rw [if_neg (by rw [show (32 : Int32) = nI 32 from rfl, nn_le (by omega) (by omega)]; omega)]
    simp (disch := first | assumption | omega) only [Option.bind_some, Option.map_some, xw_gR, xw_gN, xw_al, xw_ck, xw_uI, xw_ur, xup_at, xur_at, if_true, if_false, reduceIte, and_true, true_and, and_false, false_and, not_true_eq_false, not_false_eq_true, Nat.reduceEqDiff, eq_self, Nat.reduceAdd, Nat.reduceMul, kC1, kG1, kP1, kR1_0, kR1_1, kR1_2, kR1_3, kR1_4, kR1_5, kR1_6, kR1_7, kR1_8, kR1_9, kR1_10, kR1_11, kR1_12, kR1_13, kC2, kG2, kP2, kR2_0, kR2_1, kC3, kG3, kP3, kR3_0, kR3_1, kR3_2, kR3_3, kL4, kA4, kS4, kL5, kA5, kS5, kL6, kA6, kS6, kL7, kA7, kS7, kC8, kG8, kP8, kR8_0, kR8_1, kL9, kA9, kS9, kL10, kA10, kS10, kC11, kG11, kP11, kR11_0, kR11_1, kR11_2, kR11_3, kL12, kA12, kS12, kL13, kA13, kS13, kL14, kA14, kS14, kL15, kA15, kS15, kC16, kG16, kP16, kR16_0, kR16_1, kL17, kA17, kS17, kL18, kA18, kS18, kC19, kG19, kP19, kR19_0, kL20, kL141, kL146, kA146, kS146, kL151, kA151, kS151, kL156, kA156, kS156, kC157, kG157, kP157, kR157_0, kR157_1, kL158, kA158, kS158, kL159, kA159, kS159, kC161, kG161, kP161, kR161_0, kR161_1, kL162, kA162, kS162, kL163, kA163, kS163, kC165, kG165, kP165, kR165_0, kR165_1, kR165_2, kR165_3, kL166, kA166, kS166, kL167, kA167, kS167, kL168, kA168, kS168, kL169, kA169, kS169, kC170, kG170, kP170, kR170_0, kR170_1, kR170_2, kL171, kA171, kS171, kL172, kA172, kS172, kL173, kA173, kS173, kC174, kG174, kP174, kR174_0, kR174_1, kR174_2, kR174_3, kR174_4, kL175, kA175, kS175, kL176, kA176, kS176, kL177, kA177, kS177, kL178, kA178, kS178, kL179, kC180, kG180, kP180, kL181, kL182, kA182, kS182, kC183, kG183, kP183, kR183_1, kR183_3, kR183_5, kR183_6, kR183_7, kR183_8, kR183_9, kR183_21, kR183_26, kR183_27, kR183_30, kR183_31, kR183_33, kR183_34, kR183_36, kR183_37, kR183_38, kR183_39, kR183_40, kR183_41, kR183_42, kR183_43, kR183_44, kL184, kA184, kS184, kL185, kA185, kS185, kL186, kA186, kS186, kL187, kA187, kS187, kL188, kA188, kS188, kL189, kL190, kL191, kA191, kS191, kL192, kA192, kS192, kL193, kA193, kS193, kL194, kA194, kS194, kL195, kA195, kS195, kL196, kA196, kS196, kL197, kA197, kS197, kL198, kA198, kS198, kL199, kA199, kS199, kL200, kA200, kS200, kL201, kL202, kA202, kS202, kL203, kA203, kS203, kL204, kA204, kS204, kL205, kL206, kA206, kS206, endAt_ok hS hG ht, oI_none (gTo_s hG.1 ht)]
    rw [fb_ct_succ, ← nI_succ, ← nI_succ]
    cases gTo g t <;> simp
  · simp only [f_X3_countTies_b4]
    rw [if_pos (by decide)]
    rfl
theorem ties12_ok (hS : Shp σ) (hG : GRD I g) : f_X12_ties (xw σ I) 183 = some (nI (fb_ct (fun t => (gTo g t).isSome) 32)) := by
  have hg := hG.1
  have h16 := (gAll_b g hg).2.2.1
  rw [← ct_ties hg (fun t => (gTo g t).isSome) (fun t ht h => by rw [h]; rfl)]
  unfold f_X12_ties
  refine xforE (fun k : Nat => (nI (fb_ct (fun k => (gTo g (k / 2 + 16 * (k % 2))).isSome) k), nI k)) (2 * gSz g) rfl (fun k hk => ?_) ?_
  · simp only [f_X12_ties_b4]
    obtain ⟨i, hi⟩ : ∃ i, i = k / 2 := ⟨_, rfl⟩
    obtain ⟨d, hd⟩ : ∃ d, d = k % 2 := ⟨_, rfl⟩
    have hi2 : i < gSz g := by omega
    have hd2 : d < 2 := by omega
    have ht : i + 16 * d < 32 := by omega
    have main : f_X12_ties_j30 (xw σ I) 183 (nI (fb_ct (fun k => (gTo g (k / 2 + 16 * (k % 2))).isSome) k)) (nI k) 183 (nI i) (nI d) = some (.inl (nI (fb_ct (fun k => (gTo g (k / 2 + 16 * (k % 2))).isSome) (k + 1)), nI (k + 1))) := by
      unfold f_X12_ties_j30
      simp (disch := first | assumption | omega) only [Option.bind_some, Option.map_some, xw_gR, xw_gN, xw_al, xw_ck, xw_uI, xw_ur, xup_at, xur_at, if_true, if_false, reduceIte, and_true, true_and, and_false, false_and, not_true_eq_false, not_false_eq_true, Nat.reduceEqDiff, eq_self, Nat.reduceAdd, Nat.reduceMul, kC1, kG1, kP1, kR1_0, kR1_1, kR1_2, kR1_3, kR1_4, kR1_5, kR1_6, kR1_7, kR1_8, kR1_9, kR1_10, kR1_11, kR1_12, kR1_13, kC2, kG2, kP2, kR2_0, kR2_1, kC3, kG3, kP3, kR3_0, kR3_1, kR3_2, kR3_3, kL4, kA4, kS4, kL5, kA5, kS5, kL6, kA6, kS6, kL7, kA7, kS7, kC8, kG8, kP8, kR8_0, kR8_1, kL9, kA9, kS9, kL10, kA10, kS10, kC11, kG11, kP11, kR11_0, kR11_1, kR11_2, kR11_3, kL12, kA12, kS12, kL13, kA13, kS13, kL14, kA14, kS14, kL15, kA15, kS15, kC16, kG16, kP16, kR16_0, kR16_1, kL17, kA17, kS17, kL18, kA18, kS18, kC19, kG19, kP19, kR19_0, kL20, kL141, kL146, kA146, kS146, kL151, kA151, kS151, kL156, kA156, kS156, kC157, kG157, kP157, kR157_0, kR157_1, kL158, kA158, kS158, kL159, kA159, kS159, kC161, kG161, kP161, kR161_0, kR161_1, kL162, kA162, kS162, kL163, kA163, kS163, kC165, kG165, kP165, kR165_0, kR165_1, kR165_2, kR165_3, kL166, kA166, kS166, kL167, kA167, kS167, kL168, kA168, kS168, kL169, kA169, kS169, kC170, kG170, kP170, kR170_0, kR170_1, kR170_2, kL171, kA171, kS171, kL172, kA172, kS172, kL173, kA173, kS173, kC174, kG174, kP174, kR174_0, kR174_1, kR174_2, kR174_3, kR174_4, kL175, kA175, kS175, kL176, kA176, kS176, kL177, kA177, kS177, kL178, kA178, kS178, kL179, kC180, kG180, kP180, kL181, kL182, kA182, kS182, kC183, kG183, kP183, kR183_1, kR183_3, kR183_5, kR183_6, kR183_7, kR183_8, kR183_9, kR183_21, kR183_26, kR183_27, kR183_30, kR183_31, kR183_33, kR183_34, kR183_36, kR183_37, kR183_38, kR183_39, kR183_40, kR183_41, kR183_42, kR183_43, kR183_44, kL184, kA184, kS184, kL185, kA185, kS185, kL186, kA186, kS186, kL187, kA187, kS187, kL188, kA188, kS188, kL189, kL190, kL191, kA191, kS191, kL192, kA192, kS192, kL193, kA193, kS193, kL194, kA194, kS194, kL195, kA195, kS195, kL196, kA196, kS196, kL197, kA197, kS197, kL198, kA198, kS198, kL199, kA199, kS199, kL200, kA200, kS200, kL201, kL202, kA202, kS202, kL203, kA203, kS203, kL204, kA204, kS204, kL205, kL206, kA206, kS206, tieTo_ok hS hG hd2 hi2, oI_neg (gTo_s hg ht)]
      rw [fb_ct_succ, ← hi, ← hd, ← nI_succ, ← nI_succ]
      cases gTo g (i + 16 * d) <;> simp
    simp (disch := first | assumption | omega) only [Option.bind_some, Option.map_some, xw_gR, xw_gN, xw_al, xw_ck, xw_uI, xw_ur, xup_at, xur_at, if_true, if_false, reduceIte, and_true, true_and, and_false, false_and, not_true_eq_false, not_false_eq_true, Nat.reduceEqDiff, eq_self, Nat.reduceAdd, Nat.reduceMul, kC1, kG1, kP1, kR1_0, kR1_1, kR1_2, kR1_3, kR1_4, kR1_5, kR1_6, kR1_7, kR1_8, kR1_9, kR1_10, kR1_11, kR1_12, kR1_13, kC2, kG2, kP2, kR2_0, kR2_1, kC3, kG3, kP3, kR3_0, kR3_1, kR3_2, kR3_3, kL4, kA4, kS4, kL5, kA5, kS5, kL6, kA6, kS6, kL7, kA7, kS7, kC8, kG8, kP8, kR8_0, kR8_1, kL9, kA9, kS9, kL10, kA10, kS10, kC11, kG11, kP11, kR11_0, kR11_1, kR11_2, kR11_3, kL12, kA12, kS12, kL13, kA13, kS13, kL14, kA14, kS14, kL15, kA15, kS15, kC16, kG16, kP16, kR16_0, kR16_1, kL17, kA17, kS17, kL18, kA18, kS18, kC19, kG19, kP19, kR19_0, kL20, kL141, kL146, kA146, kS146, kL151, kA151, kS151, kL156, kA156, kS156, kC157, kG157, kP157, kR157_0, kR157_1, kL158, kA158, kS158, kL159, kA159, kS159, kC161, kG161, kP161, kR161_0, kR161_1, kL162, kA162, kS162, kL163, kA163, kS163, kC165, kG165, kP165, kR165_0, kR165_1, kR165_2, kR165_3, kL166, kA166, kS166, kL167, kA167, kS167, kL168, kA168, kS168, kL169, kA169, kS169, kC170, kG170, kP170, kR170_0, kR170_1, kR170_2, kL171, kA171, kS171, kL172, kA172, kS172, kL173, kA173, kS173, kC174, kG174, kP174, kR174_0, kR174_1, kR174_2, kR174_3, kR174_4, kL175, kA175, kS175, kL176, kA176, kS176, kL177, kA177, kS177, kL178, kA178, kS178, kL179, kC180, kG180, kP180, kL181, kL182, kA182, kS182, kC183, kG183, kP183, kR183_1, kR183_3, kR183_5, kR183_6, kR183_7, kR183_8, kR183_9, kR183_21, kR183_26, kR183_27, kR183_30, kR183_31, kR183_33, kR183_34, kR183_36, kR183_37, kR183_38, kR183_39, kR183_40, kR183_41, kR183_42, kR183_43, kR183_44, kL184, kA184, kS184, kL185, kA185, kS185, kL186, kA186, kS186, kL187, kA187, kS187, kL188, kA188, kS188, kL189, kL190, kL191, kA191, kS191, kL192, kA192, kS192, kL193, kA193, kS193, kL194, kA194, kS194, kL195, kA195, kS195, kL196, kA196, kS196, kL197, kA197, kS197, kL198, kA198, kS198, kL199, kA199, kS199, kL200, kA200, kS200, kL201, kL202, kA202, kS202, kL203, kA203, kS203, kL204, kA204, kS204, kL205, kL206, kA206, kS206, sites_ok hS hG, show (2 : Int32) = nI 2 from rfl, nn_mul, nn_le, show ¬ (2 * gSz g ≤ k) by omega, nn_rem]
    have e2 : nI k / nI 2 = nI i := by rw [nn_div (by omega) (by omega), hi]
    have er : (nI (k % 2) = 1) = (k % 2 = 1) := nn_eq (b := 1) (by omega) (by decide)
    have er' : nI k - nI k / nI 2 * nI 2 = nI (k % 2) := nn_rem (by omega) (by omega)
    first
      | rw [er']
      | skip
    simp only [e2, er]
    rcases (show d = 0 ∨ d = 1 by omega) with z | z
    · rw [if_neg (by omega)]
      rw [z] at main
      exact main
    · rw [if_pos (by omega)]
      rw [z] at main
      exact main
  · simp only [f_X12_ties_b4]
    simp (disch := first | assumption | omega) only [Option.bind_some, Option.map_some, xw_gR, xw_gN, xw_al, xw_ck, xw_uI, xw_ur, xup_at, xur_at, if_true, if_false, reduceIte, and_true, true_and, and_false, false_and, not_true_eq_false, not_false_eq_true, Nat.reduceEqDiff, eq_self, Nat.reduceAdd, Nat.reduceMul, kC1, kG1, kP1, kR1_0, kR1_1, kR1_2, kR1_3, kR1_4, kR1_5, kR1_6, kR1_7, kR1_8, kR1_9, kR1_10, kR1_11, kR1_12, kR1_13, kC2, kG2, kP2, kR2_0, kR2_1, kC3, kG3, kP3, kR3_0, kR3_1, kR3_2, kR3_3, kL4, kA4, kS4, kL5, kA5, kS5, kL6, kA6, kS6, kL7, kA7, kS7, kC8, kG8, kP8, kR8_0, kR8_1, kL9, kA9, kS9, kL10, kA10, kS10, kC11, kG11, kP11, kR11_0, kR11_1, kR11_2, kR11_3, kL12, kA12, kS12, kL13, kA13, kS13, kL14, kA14, kS14, kL15, kA15, kS15, kC16, kG16, kP16, kR16_0, kR16_1, kL17, kA17, kS17, kL18, kA18, kS18, kC19, kG19, kP19, kR19_0, kL20, kL141, kL146, kA146, kS146, kL151, kA151, kS151, kL156, kA156, kS156, kC157, kG157, kP157, kR157_0, kR157_1, kL158, kA158, kS158, kL159, kA159, kS159, kC161, kG161, kP161, kR161_0, kR161_1, kL162, kA162, kS162, kL163, kA163, kS163, kC165, kG165, kP165, kR165_0, kR165_1, kR165_2, kR165_3, kL166, kA166, kS166, kL167, kA167, kS167, kL168, kA168, kS168, kL169, kA169, kS169, kC170, kG170, kP170, kR170_0, kR170_1, kR170_2, kL171, kA171, kS171, kL172, kA172, kS172, kL173, kA173, kS173, kC174, kG174, kP174, kR174_0, kR174_1, kR174_2, kR174_3, kR174_4, kL175, kA175, kS175, kL176, kA176, kS176, kL177, kA177, kS177, kL178, kA178, kS178, kL179, kC180, kG180, kP180, kL181, kL182, kA182, kS182, kC183, kG183, kP183, kR183_1, kR183_3, kR183_5, kR183_6, kR183_7, kR183_8, kR183_9, kR183_21, kR183_26, kR183_27, kR183_30, kR183_31, kR183_33, kR183_34, kR183_36, kR183_37, kR183_38, kR183_39, kR183_40, kR183_41, kR183_42, kR183_43, kR183_44, kL184, kA184, kS184, kL185, kA185, kS185, kL186, kA186, kS186, kL187, kA187, kS187, kL188, kA188, kS188, kL189, kL190, kL191, kA191, kS191, kL192, kA192, kS192, kL193, kA193, kS193, kL194, kA194, kS194, kL195, kA195, kS195, kL196, kA196, kS196, kL197, kA197, kS197, kL198, kA198, kS198, kL199, kA199, kS199, kL200, kA200, kS200, kL201, kL202, kA202, kS202, kL203, kA203, kS203, kL204, kA204, kS204, kL205, kL206, kA206, kS206, sites_ok hS hG, show (2 : Int32) = nI 2 from rfl, nn_mul, nn_le, Nat.le_refl]
theorem odds11_ok (hS : Shp σ) (hG : GRD I g) (hSR : SR g I 16 F) : f_X3_countOddSquares (xw σ I) 11 16 = some (nI (fb_ct (fun i => decide (sqv g F i = 1)) (gSz g))) := by
  have h16 := (gAll_b g hG.1).2.2.1
  unfold f_X3_countOddSquares
  refine xforE (fun i : Nat => (nI (fb_ct (fun i => decide (sqv g F i = 1)) i), nI i)) (gSz g) rfl (fun i hi => ?_) ?_
  · simp only [f_X3_countOddSquares_b4]
    simp (disch := first | assumption | omega) only [Option.bind_some, Option.map_some, xw_gR, xw_gN, xw_al, xw_ck, xw_uI, xw_ur, xup_at, xur_at, if_true, if_false, reduceIte, and_true, true_and, and_false, false_and, not_true_eq_false, not_false_eq_true, Nat.reduceEqDiff, eq_self, Nat.reduceAdd, Nat.reduceMul, kC1, kG1, kP1, kR1_0, kR1_1, kR1_2, kR1_3, kR1_4, kR1_5, kR1_6, kR1_7, kR1_8, kR1_9, kR1_10, kR1_11, kR1_12, kR1_13, kC2, kG2, kP2, kR2_0, kR2_1, kC3, kG3, kP3, kR3_0, kR3_1, kR3_2, kR3_3, kL4, kA4, kS4, kL5, kA5, kS5, kL6, kA6, kS6, kL7, kA7, kS7, kC8, kG8, kP8, kR8_0, kR8_1, kL9, kA9, kS9, kL10, kA10, kS10, kC11, kG11, kP11, kR11_0, kR11_1, kR11_2, kR11_3, kL12, kA12, kS12, kL13, kA13, kS13, kL14, kA14, kS14, kL15, kA15, kS15, kC16, kG16, kP16, kR16_0, kR16_1, kL17, kA17, kS17, kL18, kA18, kS18, kC19, kG19, kP19, kR19_0, kL20, kL141, kL146, kA146, kS146, kL151, kA151, kS151, kL156, kA156, kS156, kC157, kG157, kP157, kR157_0, kR157_1, kL158, kA158, kS158, kL159, kA159, kS159, kC161, kG161, kP161, kR161_0, kR161_1, kL162, kA162, kS162, kL163, kA163, kS163, kC165, kG165, kP165, kR165_0, kR165_1, kR165_2, kR165_3, kL166, kA166, kS166, kL167, kA167, kS167, kL168, kA168, kS168, kL169, kA169, kS169, kC170, kG170, kP170, kR170_0, kR170_1, kR170_2, kL171, kA171, kS171, kL172, kA172, kS172, kL173, kA173, kS173, kC174, kG174, kP174, kR174_0, kR174_1, kR174_2, kR174_3, kR174_4, kL175, kA175, kS175, kL176, kA176, kS176, kL177, kA177, kS177, kL178, kA178, kS178, kL179, kC180, kG180, kP180, kL181, kL182, kA182, kS182, kC183, kG183, kP183, kR183_1, kR183_3, kR183_5, kR183_6, kR183_7, kR183_8, kR183_9, kR183_21, kR183_26, kR183_27, kR183_30, kR183_31, kR183_33, kR183_34, kR183_36, kR183_37, kR183_38, kR183_39, kR183_40, kR183_41, kR183_42, kR183_43, kR183_44, kL184, kA184, kS184, kL185, kA185, kS185, kL186, kA186, kS186, kL187, kA187, kS187, kL188, kA188, kS188, kL189, kL190, kL191, kA191, kS191, kL192, kA192, kS192, kL193, kA193, kS193, kL194, kA194, kS194, kL195, kA195, kS195, kL196, kA196, kS196, kL197, kA197, kS197, kL198, kA198, kS198, kL199, kA199, kS199, kL200, kA200, kS200, kL201, kL202, kA202, kS202, kL203, kA203, kS203, kL204, kA204, kS204, kL205, kL206, kA206, kS206, hG.2.2.2.2.1, nn_le, show ¬ (gSz g ≤ i) by omega, square11_ok hS hG suA_16 hSR hi]
    rw [fb_ct_succ, ← nI_succ, ← nI_succ]
    by_cases z : sqv g F i = 1
    · rw [if_pos z]; simp [z]
    · rw [if_neg z]; simp [z]
  · simp only [f_X3_countOddSquares_b4]
    simp (disch := first | assumption | omega) only [Option.bind_some, Option.map_some, xw_gR, xw_gN, xw_al, xw_ck, xw_uI, xw_ur, xup_at, xur_at, if_true, if_false, reduceIte, and_true, true_and, and_false, false_and, not_true_eq_false, not_false_eq_true, Nat.reduceEqDiff, eq_self, Nat.reduceAdd, Nat.reduceMul, kC1, kG1, kP1, kR1_0, kR1_1, kR1_2, kR1_3, kR1_4, kR1_5, kR1_6, kR1_7, kR1_8, kR1_9, kR1_10, kR1_11, kR1_12, kR1_13, kC2, kG2, kP2, kR2_0, kR2_1, kC3, kG3, kP3, kR3_0, kR3_1, kR3_2, kR3_3, kL4, kA4, kS4, kL5, kA5, kS5, kL6, kA6, kS6, kL7, kA7, kS7, kC8, kG8, kP8, kR8_0, kR8_1, kL9, kA9, kS9, kL10, kA10, kS10, kC11, kG11, kP11, kR11_0, kR11_1, kR11_2, kR11_3, kL12, kA12, kS12, kL13, kA13, kS13, kL14, kA14, kS14, kL15, kA15, kS15, kC16, kG16, kP16, kR16_0, kR16_1, kL17, kA17, kS17, kL18, kA18, kS18, kC19, kG19, kP19, kR19_0, kL20, kL141, kL146, kA146, kS146, kL151, kA151, kS151, kL156, kA156, kS156, kC157, kG157, kP157, kR157_0, kR157_1, kL158, kA158, kS158, kL159, kA159, kS159, kC161, kG161, kP161, kR161_0, kR161_1, kL162, kA162, kS162, kL163, kA163, kS163, kC165, kG165, kP165, kR165_0, kR165_1, kR165_2, kR165_3, kL166, kA166, kS166, kL167, kA167, kS167, kL168, kA168, kS168, kL169, kA169, kS169, kC170, kG170, kP170, kR170_0, kR170_1, kR170_2, kL171, kA171, kS171, kL172, kA172, kS172, kL173, kA173, kS173, kC174, kG174, kP174, kR174_0, kR174_1, kR174_2, kR174_3, kR174_4, kL175, kA175, kS175, kL176, kA176, kS176, kL177, kA177, kS177, kL178, kA178, kS178, kL179, kC180, kG180, kP180, kL181, kL182, kA182, kS182, kC183, kG183, kP183, kR183_1, kR183_3, kR183_5, kR183_6, kR183_7, kR183_8, kR183_9, kR183_21, kR183_26, kR183_27, kR183_30, kR183_31, kR183_33, kR183_34, kR183_36, kR183_37, kR183_38, kR183_39, kR183_40, kR183_41, kR183_42, kR183_43, kR183_44, kL184, kA184, kS184, kL185, kA185, kS185, kL186, kA186, kS186, kL187, kA187, kS187, kL188, kA188, kS188, kL189, kL190, kL191, kA191, kS191, kL192, kA192, kS192, kL193, kA193, kS193, kL194, kA194, kS194, kL195, kA195, kS195, kL196, kA196, kS196, kL197, kA197, kS197, kL198, kA198, kS198, kL199, kA199, kS199, kL200, kA200, kS200, kL201, kL202, kA202, kS202, kL203, kA203, kS203, kL204, kA204, kS204, kL205, kL206, kA206, kS206, hG.2.2.2.2.1, nn_le, Nat.le_refl]
theorem odds12_ok (hS : Shp σ) (hG : GRD I g) (hr : I 191 = F) : f_X12_odds (xw σ I) 183 = some (nI (fb_ct (fun i => decide (sqv g F i = 1)) (gSz g))) := by
  have h16 := (gAll_b g hG.1).2.2.1
  unfold f_X12_odds
  refine xforE (fun i : Nat => (nI (fb_ct (fun i => decide (sqv g F i = 1)) i), nI i)) (gSz g) rfl (fun i hi => ?_) ?_
  · simp only [f_X12_odds_b4]
    have ho := odd12_ok hS hG hi
    rw [hr] at ho
    simp (disch := first | assumption | omega) only [Option.bind_some, Option.map_some, xw_gR, xw_gN, xw_al, xw_ck, xw_uI, xw_ur, xup_at, xur_at, if_true, if_false, reduceIte, and_true, true_and, and_false, false_and, not_true_eq_false, not_false_eq_true, Nat.reduceEqDiff, eq_self, Nat.reduceAdd, Nat.reduceMul, kC1, kG1, kP1, kR1_0, kR1_1, kR1_2, kR1_3, kR1_4, kR1_5, kR1_6, kR1_7, kR1_8, kR1_9, kR1_10, kR1_11, kR1_12, kR1_13, kC2, kG2, kP2, kR2_0, kR2_1, kC3, kG3, kP3, kR3_0, kR3_1, kR3_2, kR3_3, kL4, kA4, kS4, kL5, kA5, kS5, kL6, kA6, kS6, kL7, kA7, kS7, kC8, kG8, kP8, kR8_0, kR8_1, kL9, kA9, kS9, kL10, kA10, kS10, kC11, kG11, kP11, kR11_0, kR11_1, kR11_2, kR11_3, kL12, kA12, kS12, kL13, kA13, kS13, kL14, kA14, kS14, kL15, kA15, kS15, kC16, kG16, kP16, kR16_0, kR16_1, kL17, kA17, kS17, kL18, kA18, kS18, kC19, kG19, kP19, kR19_0, kL20, kL141, kL146, kA146, kS146, kL151, kA151, kS151, kL156, kA156, kS156, kC157, kG157, kP157, kR157_0, kR157_1, kL158, kA158, kS158, kL159, kA159, kS159, kC161, kG161, kP161, kR161_0, kR161_1, kL162, kA162, kS162, kL163, kA163, kS163, kC165, kG165, kP165, kR165_0, kR165_1, kR165_2, kR165_3, kL166, kA166, kS166, kL167, kA167, kS167, kL168, kA168, kS168, kL169, kA169, kS169, kC170, kG170, kP170, kR170_0, kR170_1, kR170_2, kL171, kA171, kS171, kL172, kA172, kS172, kL173, kA173, kS173, kC174, kG174, kP174, kR174_0, kR174_1, kR174_2, kR174_3, kR174_4, kL175, kA175, kS175, kL176, kA176, kS176, kL177, kA177, kS177, kL178, kA178, kS178, kL179, kC180, kG180, kP180, kL181, kL182, kA182, kS182, kC183, kG183, kP183, kR183_1, kR183_3, kR183_5, kR183_6, kR183_7, kR183_8, kR183_9, kR183_21, kR183_26, kR183_27, kR183_30, kR183_31, kR183_33, kR183_34, kR183_36, kR183_37, kR183_38, kR183_39, kR183_40, kR183_41, kR183_42, kR183_43, kR183_44, kL184, kA184, kS184, kL185, kA185, kS185, kL186, kA186, kS186, kL187, kA187, kS187, kL188, kA188, kS188, kL189, kL190, kL191, kA191, kS191, kL192, kA192, kS192, kL193, kA193, kS193, kL194, kA194, kS194, kL195, kA195, kS195, kL196, kA196, kS196, kL197, kA197, kS197, kL198, kA198, kS198, kL199, kA199, kS199, kL200, kA200, kS200, kL201, kL202, kA202, kS202, kL203, kA203, kS203, kL204, kA204, kS204, kL205, kL206, kA206, kS206, sites_ok hS hG, nn_le, show ¬ (gSz g ≤ i) by omega, ho]
    rw [fb_ct_succ, ← nI_succ, ← nI_succ]
    by_cases z : sqv g F i = 1
    · rw [if_pos z]; simp [z]
    · rw [if_neg z]; simp [z]
  · simp only [f_X12_odds_b4]
    simp (disch := first | assumption | omega) only [Option.bind_some, Option.map_some, xw_gR, xw_gN, xw_al, xw_ck, xw_uI, xw_ur, xup_at, xur_at, if_true, if_false, reduceIte, and_true, true_and, and_false, false_and, not_true_eq_false, not_false_eq_true, Nat.reduceEqDiff, eq_self, Nat.reduceAdd, Nat.reduceMul, kC1, kG1, kP1, kR1_0, kR1_1, kR1_2, kR1_3, kR1_4, kR1_5, kR1_6, kR1_7, kR1_8, kR1_9, kR1_10, kR1_11, kR1_12, kR1_13, kC2, kG2, kP2, kR2_0, kR2_1, kC3, kG3, kP3, kR3_0, kR3_1, kR3_2, kR3_3, kL4, kA4, kS4, kL5, kA5, kS5, kL6, kA6, kS6, kL7, kA7, kS7, kC8, kG8, kP8, kR8_0, kR8_1, kL9, kA9, kS9, kL10, kA10, kS10, kC11, kG11, kP11, kR11_0, kR11_1, kR11_2, kR11_3, kL12, kA12, kS12, kL13, kA13, kS13, kL14, kA14, kS14, kL15, kA15, kS15, kC16, kG16, kP16, kR16_0, kR16_1, kL17, kA17, kS17, kL18, kA18, kS18, kC19, kG19, kP19, kR19_0, kL20, kL141, kL146, kA146, kS146, kL151, kA151, kS151, kL156, kA156, kS156, kC157, kG157, kP157, kR157_0, kR157_1, kL158, kA158, kS158, kL159, kA159, kS159, kC161, kG161, kP161, kR161_0, kR161_1, kL162, kA162, kS162, kL163, kA163, kS163, kC165, kG165, kP165, kR165_0, kR165_1, kR165_2, kR165_3, kL166, kA166, kS166, kL167, kA167, kS167, kL168, kA168, kS168, kL169, kA169, kS169, kC170, kG170, kP170, kR170_0, kR170_1, kR170_2, kL171, kA171, kS171, kL172, kA172, kS172, kL173, kA173, kS173, kC174, kG174, kP174, kR174_0, kR174_1, kR174_2, kR174_3, kR174_4, kL175, kA175, kS175, kL176, kA176, kS176, kL177, kA177, kS177, kL178, kA178, kS178, kL179, kC180, kG180, kP180, kL181, kL182, kA182, kS182, kC183, kG183, kP183, kR183_1, kR183_3, kR183_5, kR183_6, kR183_7, kR183_8, kR183_9, kR183_21, kR183_26, kR183_27, kR183_30, kR183_31, kR183_33, kR183_34, kR183_36, kR183_37, kR183_38, kR183_39, kR183_40, kR183_41, kR183_42, kR183_43, kR183_44, kL184, kA184, kS184, kL185, kA185, kS185, kL186, kA186, kS186, kL187, kA187, kS187, kL188, kA188, kS188, kL189, kL190, kL191, kA191, kS191, kL192, kA192, kS192, kL193, kA193, kS193, kL194, kA194, kS194, kL195, kA195, kS195, kL196, kA196, kS196, kL197, kA197, kS197, kL198, kA198, kS198, kL199, kA199, kS199, kL200, kA200, kS200, kL201, kL202, kA202, kS202, kL203, kA203, kS203, kL204, kA204, kS204, kL205, kL206, kA206, kS206, sites_ok hS hG, nn_le, Nat.le_refl]
end COUNTS
end
section
/-! clusters counted -/
def cd (g : GD) (b T : Nat) : Prop := ∀ t, t < 32 → ∀ e, gTo g t = some e → b.testBit (gFr t) = b.testBit e → T.testBit (gFr t) = T.testBit e
theorem cd_iff {g : GD} {b T : Nat} : (∀ t, t < 32 → clS g b t T = T) ↔ cd g b T := by
  constructor
  · intro h t ht e he hb
    have h1 := h t ht
    unfold clS at h1
    rw [he] at h1
    dsimp only at h1
    cases qa : T.testBit (gFr t) with
    | false =>
      cases qe : T.testBit e with
      | false => rfl
      | true =>
        rw [if_pos ⟨hb, .inr qe⟩] at h1
        have := congrArg (fun x => Nat.testBit x (gFr t)) h1
        simp [Nat.testBit_or, Nat.testBit_two_pow, qa] at this
    | true =>
      cases qe : T.testBit e with
      | true => rfl
      | false =>
        rw [if_pos ⟨hb, .inl qa⟩] at h1
        have := congrArg (fun x => Nat.testBit x e) h1
        simp [Nat.testBit_or, Nat.testBit_two_pow, qe] at this
  · intro h t ht
    unfold clS
    cases he : gTo g t with
    | none => rfl
    | some e =>
      dsimp only
      split
      · next hc =>
        have hq := h t ht e he hc.1
        have ha : T.testBit (gFr t) = true := by
          rcases hc.2 with z | z
          · exact z
          · rw [hq]; exact z
        have hE : T.testBit e = true := by rw [← hq]; exact ha
        apply Nat.eq_of_testBit_eq
        intro i
        rw [Nat.testBit_or, Nat.testBit_or, Nat.testBit_two_pow, Nat.testBit_two_pow]
        by_cases z1 : gFr t = i
        · rw [← z1, ha]; rfl
        · by_cases z2 : e = i
          · rw [← z2, hE]; rfl
          · simp [z1, z2]
      · rfl
theorem clR_props {g : GD} (hg : g ∈ gAll) {b i : Nat} (hi : i < gSz g) : cd g b (clR g b i) ∧ (clR g b i).testBit i = true ∧ (∀ T, T.testBit i = true → cd g b T → sub (clR g b i) T) ∧ clR g b i < 65536 := by
  have h16 := (gAll_b g hg).2.2.1
  have h2i : 2 ^ i < 65536 := Nat.pow_lt_pow_right (n := 16) (by decide) (by omega)
  have h20 : 2 ^ i ≠ 0 := Nat.pos_iff_ne_zero.mp (Nat.two_pow_pos i)
  have hf : ∀ j, j < 2 * gSz g → tk j < 32 := fun j hj => by unfold tk; omega
  obtain ⟨K, k1, k2, k3⟩ := clI_end (b := b) (f := tk) (N := 2 * gSz g) hg hf h2i h20
  have e2 : clI g b tk (2 * gSz g) (2 ^ i) K = clR g b i := by
    unfold clR
    have := clI_stay k2 (16 - K)
    rw [show K + (16 - K) = 16 by omega] at this
    exact this.symm
  have fix : ∀ j, j < 2 * gSz g → clS g b (tk j) (clR g b i) = clR g b i := by
    rw [← e2]
    exact clP_fix _ k2
  refine ⟨cd_iff.mp ((cl_both hg).mpr fix), ?_, fun T hT hc => ?_, ?_⟩
  · exact clI_up 16 i (by rw [Nat.testBit_two_pow]; simp)
  · refine clI_in (fun j hj => ?_) ((cl_both hg).mp (cd_iff.mpr hc)) 16
    rw [Nat.testBit_two_pow, decide_eq_true_eq] at hj
    rw [← hj]; exact hT
  · exact clI_b hg hf h2i 16
theorem cl_sym {g : GD} (hg : g ∈ gAll) {b i j : Nat} (hi : i < gSz g) (hj : j < gSz g) (h : (clR g b i).testBit j = true) : clR g b j = clR g b i := by
  have h16 := (gAll_b g hg).2.2.1
  obtain ⟨a1, a2, a3, a4⟩ := clR_props (b := b) hg hi
  obtain ⟨c1, c2, c3, c4⟩ := clR_props (b := b) hg hj
  have h1 : sub (clR g b j) (clR g b i) := c3 _ h a1
  have hij : (clR g b j).testBit i = true := by
    cases q : (clR g b j).testBit i with
    | true => rfl
    | false =>
      exfalso
      have hcd : cd g b (clR g b i &&& (clR g b j ^^^ 4294967295)) := by
        intro t ht e he hb
        have hb2 := gTo_b g hg t ht e he
        rw [andn_bit _ _ _ (by omega), andn_bit _ _ _ (by omega), a1 t ht e he hb, c1 t ht e he hb]
      have := a3 _ (by rw [andn_bit _ _ _ (by omega), a2, q]; rfl) hcd j h
      rw [andn_bit _ _ _ (by omega), c2] at this
      simp at this
  exact sub_anti h1 (a3 _ hij c1)
def lst (g : GD) (b i : Nat) : Bool := decide (clR g b i &&& (2 ^ i - 1) = 0)
theorem lst_iff {g : GD} {b i : Nat} : lst g b i = true ↔ ∀ j, j < i → (clR g b i).testBit j = false := by
  unfold lst
  rw [decide_eq_true_eq]
  constructor
  · intro h j hj
    have := congrArg (fun x => Nat.testBit x j) h
    simp [Nat.testBit_and, Nat.testBit_two_pow_sub_one, hj] at this
    exact this
  · intro h
    apply Nat.eq_of_testBit_eq
    intro j
    rw [Nat.testBit_and, Nat.testBit_two_pow_sub_one, Nat.zero_testBit]
    by_cases hj : j < i
    · rw [h j hj]; rfl
    · simp [hj]
section CLCOUNT
variable {σ : XS} {I : Nat → Nat → Int32} {g : GD}
theorem clusters11_ok (hS : Shp σ) (hG : GRD I g) {b : Nat} (hb : b < 65536) : f_X3_countClusters (xw σ I) 11 (nI b) = some (nI (fb_ct (lst g b) (gSz g))) := by
  have hg := hG.1
  have h16 := (gAll_b g hg).2.2.1
  unfold f_X3_countClusters
  have key : ∃ r, xloop (f_X3_countClusters_b7 (xw σ I) 11 (nI b)) (nI 0, nI 0, nI 0) = some r ∧ r = nI (fb_ct (lst g b) (gSz g)) := by
    refine xforI (fun i x => ∃ S, x = (nI S, nI (fb_ct (lst g b) i), nI i) ∧ S < 65536 ∧ ∀ t, S.testBit t = true ↔ ∃ j, j < i ∧ (clR g b j).testBit t = true) (gSz g) ⟨0, rfl, by decide, fun t => by rw [Nat.zero_testBit]; constructor; intro h; cases h; rintro ⟨j, hj, _⟩; omega⟩ ?_ ?_
    · rintro i x hi ⟨S, rfl, hS1, hS2⟩
      obtain ⟨a1, a2, a3, a4⟩ := clR_props (b := b) hg hi
      simp only [f_X3_countClusters_b7]
      simp (disch := first | assumption | omega) only [Option.bind_some, Option.map_some, xw_gR, xw_gN, xw_al, xw_ck, xw_uI, xw_ur, xup_at, xur_at, if_true, if_false, reduceIte, and_true, true_and, and_false, false_and, not_true_eq_false, not_false_eq_true, Nat.reduceEqDiff, eq_self, Nat.reduceAdd, Nat.reduceMul, kC1, kG1, kP1, kR1_0, kR1_1, kR1_2, kR1_3, kR1_4, kR1_5, kR1_6, kR1_7, kR1_8, kR1_9, kR1_10, kR1_11, kR1_12, kR1_13, kC2, kG2, kP2, kR2_0, kR2_1, kC3, kG3, kP3, kR3_0, kR3_1, kR3_2, kR3_3, kL4, kA4, kS4, kL5, kA5, kS5, kL6, kA6, kS6, kL7, kA7, kS7, kC8, kG8, kP8, kR8_0, kR8_1, kL9, kA9, kS9, kL10, kA10, kS10, kC11, kG11, kP11, kR11_0, kR11_1, kR11_2, kR11_3, kL12, kA12, kS12, kL13, kA13, kS13, kL14, kA14, kS14, kL15, kA15, kS15, kC16, kG16, kP16, kR16_0, kR16_1, kL17, kA17, kS17, kL18, kA18, kS18, kC19, kG19, kP19, kR19_0, kL20, kL141, kL146, kA146, kS146, kL151, kA151, kS151, kL156, kA156, kS156, kC157, kG157, kP157, kR157_0, kR157_1, kL158, kA158, kS158, kL159, kA159, kS159, kC161, kG161, kP161, kR161_0, kR161_1, kL162, kA162, kS162, kL163, kA163, kS163, kC165, kG165, kP165, kR165_0, kR165_1, kR165_2, kR165_3, kL166, kA166, kS166, kL167, kA167, kS167, kL168, kA168, kS168, kL169, kA169, kS169, kC170, kG170, kP170, kR170_0, kR170_1, kR170_2, kL171, kA171, kS171, kL172, kA172, kS172, kL173, kA173, kS173, kC174, kG174, kP174, kR174_0, kR174_1, kR174_2, kR174_3, kR174_4, kL175, kA175, kS175, kL176, kA176, kS176, kL177, kA177, kS177, kL178, kA178, kS178, kL179, kC180, kG180, kP180, kL181, kL182, kA182, kS182, kC183, kG183, kP183, kR183_1, kR183_3, kR183_5, kR183_6, kR183_7, kR183_8, kR183_9, kR183_21, kR183_26, kR183_27, kR183_30, kR183_31, kR183_33, kR183_34, kR183_36, kR183_37, kR183_38, kR183_39, kR183_40, kR183_41, kR183_42, kR183_43, kR183_44, kL184, kA184, kS184, kL185, kA185, kS185, kL186, kA186, kS186, kL187, kA187, kS187, kL188, kA188, kS188, kL189, kL190, kL191, kA191, kS191, kL192, kA192, kS192, kL193, kA193, kS193, kL194, kA194, kS194, kL195, kA195, kS195, kL196, kA196, kS196, kL197, kA197, kS197, kL198, kA198, kS198, kL199, kA199, kS199, kL200, kA200, kS200, kL201, kL202, kA202, kS202, kL203, kA203, kS203, kL204, kA204, kS204, kL205, kL206, kA206, kS206, hG.2.2.2.2.1, nn_le, show ¬ (gSz g ≤ i) by omega, bitOf_ok (show S < 2147483648 by omega) (show i < 32 by omega), bI_0, (cluster_two hS hG hb hi).1, fa_or]
      rw [← nI_succ, ← nI_succ]
      cases hq : S.testBit i with
      | false =>
        have hno : ∀ j, j < i → (clR g b i).testBit j = false := by
          intro j hj
          cases q : (clR g b i).testBit j with
          | false => rfl
          | true =>
            have e := cl_sym hg hi (show j < gSz g by omega) q
            have := (hS2 i).mpr ⟨j, hj, by rw [e]; exact a2⟩
            rw [hq] at this; cases this
        have hl : lst g b i = true := lst_iff.mpr hno
        rw [if_pos rfl]
        refine ⟨_, rfl, S ||| clR g b i, by rw [fb_ct_succ, hl]; rfl, Nat.or_lt_two_pow (n := 16) hS1 a4, fun t => ?_⟩
        rw [Nat.testBit_or, Bool.or_eq_true, hS2]
        constructor
        · rintro (⟨j, h1, h2⟩ | h)
          · exact ⟨j, by omega, h2⟩
          · exact ⟨i, by omega, h⟩
        · rintro ⟨j, h1, h2⟩
          by_cases z : j = i
          · right; rw [← z]; exact h2
          · left; exact ⟨j, by omega, h2⟩
      | true =>
        obtain ⟨j, hj, hj2⟩ := (hS2 i).mp hq
        have e := cl_sym hg (show j < gSz g by omega) hi hj2
        have hl : lst g b i = false := by
          cases q : lst g b i with
          | false => rfl
          | true =>
            have := lst_iff.mp q j hj
            rw [e, (clR_props (b := b) hg (show j < gSz g by omega)).2.1] at this
            cases this
        rw [if_neg (by decide)]
        refine ⟨_, rfl, S, by rw [fb_ct_succ, hl]; rfl, hS1, fun t => ?_⟩
        rw [hS2]
        constructor
        · rintro ⟨k, h1, h2⟩; exact ⟨k, by omega, h2⟩
        · rintro ⟨k, h1, h2⟩
          by_cases z : k = i
          · rw [z, e] at h2; exact ⟨j, hj, h2⟩
          · exact ⟨k, by omega, h2⟩
    · rintro x ⟨S, rfl, hS1, hS2⟩
      refine ⟨_, ?_, rfl⟩
      simp only [f_X3_countClusters_b7]
      simp (disch := first | assumption | omega) only [Option.bind_some, Option.map_some, xw_gR, xw_gN, xw_al, xw_ck, xw_uI, xw_ur, xup_at, xur_at, if_true, if_false, reduceIte, and_true, true_and, and_false, false_and, not_true_eq_false, not_false_eq_true, Nat.reduceEqDiff, eq_self, Nat.reduceAdd, Nat.reduceMul, kC1, kG1, kP1, kR1_0, kR1_1, kR1_2, kR1_3, kR1_4, kR1_5, kR1_6, kR1_7, kR1_8, kR1_9, kR1_10, kR1_11, kR1_12, kR1_13, kC2, kG2, kP2, kR2_0, kR2_1, kC3, kG3, kP3, kR3_0, kR3_1, kR3_2, kR3_3, kL4, kA4, kS4, kL5, kA5, kS5, kL6, kA6, kS6, kL7, kA7, kS7, kC8, kG8, kP8, kR8_0, kR8_1, kL9, kA9, kS9, kL10, kA10, kS10, kC11, kG11, kP11, kR11_0, kR11_1, kR11_2, kR11_3, kL12, kA12, kS12, kL13, kA13, kS13, kL14, kA14, kS14, kL15, kA15, kS15, kC16, kG16, kP16, kR16_0, kR16_1, kL17, kA17, kS17, kL18, kA18, kS18, kC19, kG19, kP19, kR19_0, kL20, kL141, kL146, kA146, kS146, kL151, kA151, kS151, kL156, kA156, kS156, kC157, kG157, kP157, kR157_0, kR157_1, kL158, kA158, kS158, kL159, kA159, kS159, kC161, kG161, kP161, kR161_0, kR161_1, kL162, kA162, kS162, kL163, kA163, kS163, kC165, kG165, kP165, kR165_0, kR165_1, kR165_2, kR165_3, kL166, kA166, kS166, kL167, kA167, kS167, kL168, kA168, kS168, kL169, kA169, kS169, kC170, kG170, kP170, kR170_0, kR170_1, kR170_2, kL171, kA171, kS171, kL172, kA172, kS172, kL173, kA173, kS173, kC174, kG174, kP174, kR174_0, kR174_1, kR174_2, kR174_3, kR174_4, kL175, kA175, kS175, kL176, kA176, kS176, kL177, kA177, kS177, kL178, kA178, kS178, kL179, kC180, kG180, kP180, kL181, kL182, kA182, kS182, kC183, kG183, kP183, kR183_1, kR183_3, kR183_5, kR183_6, kR183_7, kR183_8, kR183_9, kR183_21, kR183_26, kR183_27, kR183_30, kR183_31, kR183_33, kR183_34, kR183_36, kR183_37, kR183_38, kR183_39, kR183_40, kR183_41, kR183_42, kR183_43, kR183_44, kL184, kA184, kS184, kL185, kA185, kS185, kL186, kA186, kS186, kL187, kA187, kS187, kL188, kA188, kS188, kL189, kL190, kL191, kA191, kS191, kL192, kA192, kS192, kL193, kA193, kS193, kL194, kA194, kS194, kL195, kA195, kS195, kL196, kA196, kS196, kL197, kA197, kS197, kL198, kA198, kS198, kL199, kA199, kS199, kL200, kA200, kS200, kL201, kL202, kA202, kS202, kL203, kA203, kS203, kL204, kA204, kS204, kL205, kL206, kA206, kS206, hG.2.2.2.2.1, nn_le, Nat.le_refl]
  obtain ⟨r, h1, h2⟩ := key
  rw [← h2]
  exact h1
theorem clusters12_ok (hS : Shp σ) (hG : GRD I g) {b : Nat} (h64 : I 191 64 = nI b) (hb : b < 65536) : f_X12_clusters (xw σ I) 183 = some (nI (fb_ct (lst g b) (gSz g))) := by
  have hg := hG.1
  have h16 := (gAll_b g hg).2.2.1
  unfold f_X12_clusters
  refine xforE (fun i : Nat => (nI (fb_ct (lst g b) i), nI i)) (gSz g) rfl (fun i hi => ?_) ?_
  · simp only [f_X12_clusters_b4]
    obtain ⟨c1, c2, c3⟩ := cluster_two (σ := σ) (I := I) hS hG hb hi
    have e1 : nI (2 ^ i) - (1 : Int32) = nI (2 ^ i - 1) := by rw [show (1 : Int32) = nI 1 from rfl, nn_sub (Nat.two_pow_pos i)]
    have hlt : clR g b i &&& (2 ^ i - 1) < 65536 := Nat.lt_of_le_of_lt Nat.and_le_left c3
    have e2 : (nI (clR g b i &&& (2 ^ i - 1)) = 0) = (clR g b i &&& (2 ^ i - 1) = 0) := nn_eq (b := 0) (by omega) (by decide)
    simp (disch := first | assumption | omega) only [Option.bind_some, Option.map_some, xw_gR, xw_gN, xw_al, xw_ck, xw_uI, xw_ur, xup_at, xur_at, if_true, if_false, reduceIte, and_true, true_and, and_false, false_and, not_true_eq_false, not_false_eq_true, Nat.reduceEqDiff, eq_self, Nat.reduceAdd, Nat.reduceMul, kC1, kG1, kP1, kR1_0, kR1_1, kR1_2, kR1_3, kR1_4, kR1_5, kR1_6, kR1_7, kR1_8, kR1_9, kR1_10, kR1_11, kR1_12, kR1_13, kC2, kG2, kP2, kR2_0, kR2_1, kC3, kG3, kP3, kR3_0, kR3_1, kR3_2, kR3_3, kL4, kA4, kS4, kL5, kA5, kS5, kL6, kA6, kS6, kL7, kA7, kS7, kC8, kG8, kP8, kR8_0, kR8_1, kL9, kA9, kS9, kL10, kA10, kS10, kC11, kG11, kP11, kR11_0, kR11_1, kR11_2, kR11_3, kL12, kA12, kS12, kL13, kA13, kS13, kL14, kA14, kS14, kL15, kA15, kS15, kC16, kG16, kP16, kR16_0, kR16_1, kL17, kA17, kS17, kL18, kA18, kS18, kC19, kG19, kP19, kR19_0, kL20, kL141, kL146, kA146, kS146, kL151, kA151, kS151, kL156, kA156, kS156, kC157, kG157, kP157, kR157_0, kR157_1, kL158, kA158, kS158, kL159, kA159, kS159, kC161, kG161, kP161, kR161_0, kR161_1, kL162, kA162, kS162, kL163, kA163, kS163, kC165, kG165, kP165, kR165_0, kR165_1, kR165_2, kR165_3, kL166, kA166, kS166, kL167, kA167, kS167, kL168, kA168, kS168, kL169, kA169, kS169, kC170, kG170, kP170, kR170_0, kR170_1, kR170_2, kL171, kA171, kS171, kL172, kA172, kS172, kL173, kA173, kS173, kC174, kG174, kP174, kR174_0, kR174_1, kR174_2, kR174_3, kR174_4, kL175, kA175, kS175, kL176, kA176, kS176, kL177, kA177, kS177, kL178, kA178, kS178, kL179, kC180, kG180, kP180, kL181, kL182, kA182, kS182, kC183, kG183, kP183, kR183_1, kR183_3, kR183_5, kR183_6, kR183_7, kR183_8, kR183_9, kR183_21, kR183_26, kR183_27, kR183_30, kR183_31, kR183_33, kR183_34, kR183_36, kR183_37, kR183_38, kR183_39, kR183_40, kR183_41, kR183_42, kR183_43, kR183_44, kL184, kA184, kS184, kL185, kA185, kS185, kL186, kA186, kS186, kL187, kA187, kS187, kL188, kA188, kS188, kL189, kL190, kL191, kA191, kS191, kL192, kA192, kS192, kL193, kA193, kS193, kL194, kA194, kS194, kL195, kA195, kS195, kL196, kA196, kS196, kL197, kA197, kS197, kL198, kA198, kS198, kL199, kA199, kS199, kL200, kA200, kS200, kL201, kL202, kA202, kS202, kL203, kA203, kS203, kL204, kA204, kS204, kL205, kL206, kA206, kS206, sites_ok hS hG, nn_le, show ¬ (gSz g ≤ i) by omega, c2 h64, nn_one, e1, fa_and, e2]
    rw [fb_ct_succ, ← nI_succ, ← nI_succ]
    have hl : lst g b i = decide (clR g b i &&& (2 ^ i - 1) = 0) := rfl
    rw [hl]
    by_cases z : clR g b i &&& (2 ^ i - 1) = 0
    · rw [if_pos z, decide_eq_true z]; rfl
    · rw [if_neg z, decide_eq_false z]; rfl
  · simp only [f_X12_clusters_b4]
    simp (disch := first | assumption | omega) only [Option.bind_some, Option.map_some, xw_gR, xw_gN, xw_al, xw_ck, xw_uI, xw_ur, xup_at, xur_at, if_true, if_false, reduceIte, and_true, true_and, and_false, false_and, not_true_eq_false, not_false_eq_true, Nat.reduceEqDiff, eq_self, Nat.reduceAdd, Nat.reduceMul, kC1, kG1, kP1, kR1_0, kR1_1, kR1_2, kR1_3, kR1_4, kR1_5, kR1_6, kR1_7, kR1_8, kR1_9, kR1_10, kR1_11, kR1_12, kR1_13, kC2, kG2, kP2, kR2_0, kR2_1, kC3, kG3, kP3, kR3_0, kR3_1, kR3_2, kR3_3, kL4, kA4, kS4, kL5, kA5, kS5, kL6, kA6, kS6, kL7, kA7, kS7, kC8, kG8, kP8, kR8_0, kR8_1, kL9, kA9, kS9, kL10, kA10, kS10, kC11, kG11, kP11, kR11_0, kR11_1, kR11_2, kR11_3, kL12, kA12, kS12, kL13, kA13, kS13, kL14, kA14, kS14, kL15, kA15, kS15, kC16, kG16, kP16, kR16_0, kR16_1, kL17, kA17, kS17, kL18, kA18, kS18, kC19, kG19, kP19, kR19_0, kL20, kL141, kL146, kA146, kS146, kL151, kA151, kS151, kL156, kA156, kS156, kC157, kG157, kP157, kR157_0, kR157_1, kL158, kA158, kS158, kL159, kA159, kS159, kC161, kG161, kP161, kR161_0, kR161_1, kL162, kA162, kS162, kL163, kA163, kS163, kC165, kG165, kP165, kR165_0, kR165_1, kR165_2, kR165_3, kL166, kA166, kS166, kL167, kA167, kS167, kL168, kA168, kS168, kL169, kA169, kS169, kC170, kG170, kP170, kR170_0, kR170_1, kR170_2, kL171, kA171, kS171, kL172, kA172, kS172, kL173, kA173, kS173, kC174, kG174, kP174, kR174_0, kR174_1, kR174_2, kR174_3, kR174_4, kL175, kA175, kS175, kL176, kA176, kS176, kL177, kA177, kS177, kL178, kA178, kS178, kL179, kC180, kG180, kP180, kL181, kL182, kA182, kS182, kC183, kG183, kP183, kR183_1, kR183_3, kR183_5, kR183_6, kR183_7, kR183_8, kR183_9, kR183_21, kR183_26, kR183_27, kR183_30, kR183_31, kR183_33, kR183_34, kR183_36, kR183_37, kR183_38, kR183_39, kR183_40, kR183_41, kR183_42, kR183_43, kR183_44, kL184, kA184, kS184, kL185, kA185, kS185, kL186, kA186, kS186, kL187, kA187, kS187, kL188, kA188, kS188, kL189, kL190, kL191, kA191, kS191, kL192, kA192, kS192, kL193, kA193, kS193, kL194, kA194, kS194, kL195, kA195, kS195, kL196, kA196, kS196, kL197, kA197, kS197, kL198, kA198, kS198, kL199, kA199, kS199, kL200, kA200, kS200, kL201, kL202, kA202, kS202, kL203, kA203, kS203, kL204, kA204, kS204, kL205, kL206, kA206, kS206, sites_ok hS hG, nn_le, Nat.le_refl]
def mxC (g : GD) (b : Nat) : Nat → Nat
  | 0 => 0
  | i + 1 => max (mxC g b i) (pC (clR g b i))
theorem mxC_b (g : GD) (b : Nat) : ∀ i, mxC g b i ≤ 16
  | 0 => Nat.zero_le _
  | i + 1 => by
    have := mxC_b g b i
    have := pC_16 (clR g b i)
    rw [mxC]; omega
theorem xmax_n {a b : Nat} (ha : a < 2147483648) (hb : b < 2147483648) : xmax (nI a) (nI b) = nI (max a b) := by
  unfold xmax
  simp only [nn_lt ha hb]
  by_cases h : a < b
  · rw [if_pos h, Nat.max_eq_right (by omega)]
  · rw [if_neg h, Nat.max_eq_left (by omega)]
theorem greatest11_ok (hS : Shp σ) (hG : GRD I g) {b : Nat} (hb : b < 65536) : f_X3_greatestCluster (xw σ I) 11 (nI b) = some (nI (mxC g b (gSz g))) := by
  have hg := hG.1
  have h16 := (gAll_b g hg).2.2.1
  unfold f_X3_greatestCluster
  refine xforE (fun i : Nat => (nI (mxC g b i), nI i)) (gSz g) rfl (fun i hi => ?_) ?_
  · simp only [f_X3_greatestCluster_b4]
    obtain ⟨c1, c2, c3⟩ := cluster_two (σ := σ) (I := I) hS hG hb hi
    have m1 := mxC_b g b i
    have p1 := pC_16 (clR g b i)
    obtain ⟨r, hr⟩ : ∃ r, r = pC (clR g b i) := ⟨_, rfl⟩
    obtain ⟨m0, hm0⟩ : ∃ m0, m0 = mxC g b i := ⟨_, rfl⟩
    have bc := bitCount_ok c3
    have e1 : mxC g b (i + 1) = max m0 r := by rw [mxC, ← hr, ← hm0]
    rw [← hr] at bc p1
    rw [← hm0] at m1
    rw [e1, ← hm0]
    obtain ⟨C, hC⟩ : ∃ C, C = clR g b i := ⟨_, rfl⟩
    rw [← hC] at bc c1
    rw [xw_gI (sT11 hS), Option.bind_some, hG.2.2.2.2.1, if_neg (by rw [nn_le (by omega) (by omega)]; omega), xw_ck, xck_ok (sT11 hS), Option.bind_some, c1, Option.bind_some, bc, Option.bind_some, xmax_n (by omega) (by omega), ← nI_succ]
  · simp only [f_X3_greatestCluster_b4]
    simp (disch := first | assumption | omega) only [Option.bind_some, Option.map_some, xw_gR, xw_gN, xw_al, xw_ck, xw_uI, xw_ur, xup_at, xur_at, if_true, if_false, reduceIte, and_true, true_and, and_false, false_and, not_true_eq_false, not_false_eq_true, Nat.reduceEqDiff, eq_self, Nat.reduceAdd, Nat.reduceMul, kC1, kG1, kP1, kR1_0, kR1_1, kR1_2, kR1_3, kR1_4, kR1_5, kR1_6, kR1_7, kR1_8, kR1_9, kR1_10, kR1_11, kR1_12, kR1_13, kC2, kG2, kP2, kR2_0, kR2_1, kC3, kG3, kP3, kR3_0, kR3_1, kR3_2, kR3_3, kL4, kA4, kS4, kL5, kA5, kS5, kL6, kA6, kS6, kL7, kA7, kS7, kC8, kG8, kP8, kR8_0, kR8_1, kL9, kA9, kS9, kL10, kA10, kS10, kC11, kG11, kP11, kR11_0, kR11_1, kR11_2, kR11_3, kL12, kA12, kS12, kL13, kA13, kS13, kL14, kA14, kS14, kL15, kA15, kS15, kC16, kG16, kP16, kR16_0, kR16_1, kL17, kA17, kS17, kL18, kA18, kS18, kC19, kG19, kP19, kR19_0, kL20, kL141, kL146, kA146, kS146, kL151, kA151, kS151, kL156, kA156, kS156, kC157, kG157, kP157, kR157_0, kR157_1, kL158, kA158, kS158, kL159, kA159, kS159, kC161, kG161, kP161, kR161_0, kR161_1, kL162, kA162, kS162, kL163, kA163, kS163, kC165, kG165, kP165, kR165_0, kR165_1, kR165_2, kR165_3, kL166, kA166, kS166, kL167, kA167, kS167, kL168, kA168, kS168, kL169, kA169, kS169, kC170, kG170, kP170, kR170_0, kR170_1, kR170_2, kL171, kA171, kS171, kL172, kA172, kS172, kL173, kA173, kS173, kC174, kG174, kP174, kR174_0, kR174_1, kR174_2, kR174_3, kR174_4, kL175, kA175, kS175, kL176, kA176, kS176, kL177, kA177, kS177, kL178, kA178, kS178, kL179, kC180, kG180, kP180, kL181, kL182, kA182, kS182, kC183, kG183, kP183, kR183_1, kR183_3, kR183_5, kR183_6, kR183_7, kR183_8, kR183_9, kR183_21, kR183_26, kR183_27, kR183_30, kR183_31, kR183_33, kR183_34, kR183_36, kR183_37, kR183_38, kR183_39, kR183_40, kR183_41, kR183_42, kR183_43, kR183_44, kL184, kA184, kS184, kL185, kA185, kS185, kL186, kA186, kS186, kL187, kA187, kS187, kL188, kA188, kS188, kL189, kL190, kL191, kA191, kS191, kL192, kA192, kS192, kL193, kA193, kS193, kL194, kA194, kS194, kL195, kA195, kS195, kL196, kA196, kS196, kL197, kA197, kS197, kL198, kA198, kS198, kL199, kA199, kS199, kL200, kA200, kS200, kL201, kL202, kA202, kS202, kL203, kA203, kS203, kL204, kA204, kS204, kL205, kL206, kA206, kS206, hG.2.2.2.2.1, nn_le, Nat.le_refl]
theorem greatest12_ok (hS : Shp σ) (hG : GRD I g) {b : Nat} (h64 : I 191 64 = nI b) (hb : b < 65536) : f_X12_greatest (xw σ I) 183 = some (nI (mxC g b (gSz g))) := by
  have hg := hG.1
  have h16 := (gAll_b g hg).2.2.1
  unfold f_X12_greatest
  refine xforE (fun i : Nat => (nI (mxC g b i), nI i)) (gSz g) rfl (fun i hi => ?_) ?_
  · simp only [f_X12_greatest_b4]
    obtain ⟨c1, c2, c3⟩ := cluster_two (σ := σ) (I := I) hS hG hb hi
    have m1 := mxC_b g b i
    have p1 := pC_16 (clR g b i)
    have hle : (nI (pC (clR g b i)) ≤ nI (mxC g b i)) = (pC (clR g b i) ≤ mxC g b i) := nn_le (by omega) (by omega)
    simp (disch := first | assumption | omega) only [Option.bind_some, Option.map_some, xw_gR, xw_gN, xw_al, xw_ck, xw_uI, xw_ur, xup_at, xur_at, if_true, if_false, reduceIte, and_true, true_and, and_false, false_and, not_true_eq_false, not_false_eq_true, Nat.reduceEqDiff, eq_self, Nat.reduceAdd, Nat.reduceMul, kC1, kG1, kP1, kR1_0, kR1_1, kR1_2, kR1_3, kR1_4, kR1_5, kR1_6, kR1_7, kR1_8, kR1_9, kR1_10, kR1_11, kR1_12, kR1_13, kC2, kG2, kP2, kR2_0, kR2_1, kC3, kG3, kP3, kR3_0, kR3_1, kR3_2, kR3_3, kL4, kA4, kS4, kL5, kA5, kS5, kL6, kA6, kS6, kL7, kA7, kS7, kC8, kG8, kP8, kR8_0, kR8_1, kL9, kA9, kS9, kL10, kA10, kS10, kC11, kG11, kP11, kR11_0, kR11_1, kR11_2, kR11_3, kL12, kA12, kS12, kL13, kA13, kS13, kL14, kA14, kS14, kL15, kA15, kS15, kC16, kG16, kP16, kR16_0, kR16_1, kL17, kA17, kS17, kL18, kA18, kS18, kC19, kG19, kP19, kR19_0, kL20, kL141, kL146, kA146, kS146, kL151, kA151, kS151, kL156, kA156, kS156, kC157, kG157, kP157, kR157_0, kR157_1, kL158, kA158, kS158, kL159, kA159, kS159, kC161, kG161, kP161, kR161_0, kR161_1, kL162, kA162, kS162, kL163, kA163, kS163, kC165, kG165, kP165, kR165_0, kR165_1, kR165_2, kR165_3, kL166, kA166, kS166, kL167, kA167, kS167, kL168, kA168, kS168, kL169, kA169, kS169, kC170, kG170, kP170, kR170_0, kR170_1, kR170_2, kL171, kA171, kS171, kL172, kA172, kS172, kL173, kA173, kS173, kC174, kG174, kP174, kR174_0, kR174_1, kR174_2, kR174_3, kR174_4, kL175, kA175, kS175, kL176, kA176, kS176, kL177, kA177, kS177, kL178, kA178, kS178, kL179, kC180, kG180, kP180, kL181, kL182, kA182, kS182, kC183, kG183, kP183, kR183_1, kR183_3, kR183_5, kR183_6, kR183_7, kR183_8, kR183_9, kR183_21, kR183_26, kR183_27, kR183_30, kR183_31, kR183_33, kR183_34, kR183_36, kR183_37, kR183_38, kR183_39, kR183_40, kR183_41, kR183_42, kR183_43, kR183_44, kL184, kA184, kS184, kL185, kA185, kS185, kL186, kA186, kS186, kL187, kA187, kS187, kL188, kA188, kS188, kL189, kL190, kL191, kA191, kS191, kL192, kA192, kS192, kL193, kA193, kS193, kL194, kA194, kS194, kL195, kA195, kS195, kL196, kA196, kS196, kL197, kA197, kS197, kL198, kA198, kS198, kL199, kA199, kS199, kL200, kA200, kS200, kL201, kL202, kA202, kS202, kL203, kA203, kS203, kL204, kA204, kS204, kL205, kL206, kA206, kS206, sites_ok hS hG, nn_le, show ¬ (gSz g ≤ i) by omega, c2 h64, bitsOf_ok c3]
    rw [← nI_succ, mxC]
    by_cases z : pC (clR g b i) ≤ mxC g b i
    · rw [if_pos z, show max (mxC g b i) (pC (clR g b i)) = mxC g b i by omega]
    · rw [if_neg z, show max (mxC g b i) (pC (clR g b i)) = pC (clR g b i) by omega]
  · simp only [f_X12_greatest_b4]
    simp (disch := first | assumption | omega) only [Option.bind_some, Option.map_some, xw_gR, xw_gN, xw_al, xw_ck, xw_uI, xw_ur, xup_at, xur_at, if_true, if_false, reduceIte, and_true, true_and, and_false, false_and, not_true_eq_false, not_false_eq_true, Nat.reduceEqDiff, eq_self, Nat.reduceAdd, Nat.reduceMul, kC1, kG1, kP1, kR1_0, kR1_1, kR1_2, kR1_3, kR1_4, kR1_5, kR1_6, kR1_7, kR1_8, kR1_9, kR1_10, kR1_11, kR1_12, kR1_13, kC2, kG2, kP2, kR2_0, kR2_1, kC3, kG3, kP3, kR3_0, kR3_1, kR3_2, kR3_3, kL4, kA4, kS4, kL5, kA5, kS5, kL6, kA6, kS6, kL7, kA7, kS7, kC8, kG8, kP8, kR8_0, kR8_1, kL9, kA9, kS9, kL10, kA10, kS10, kC11, kG11, kP11, kR11_0, kR11_1, kR11_2, kR11_3, kL12, kA12, kS12, kL13, kA13, kS13, kL14, kA14, kS14, kL15, kA15, kS15, kC16, kG16, kP16, kR16_0, kR16_1, kL17, kA17, kS17, kL18, kA18, kS18, kC19, kG19, kP19, kR19_0, kL20, kL141, kL146, kA146, kS146, kL151, kA151, kS151, kL156, kA156, kS156, kC157, kG157, kP157, kR157_0, kR157_1, kL158, kA158, kS158, kL159, kA159, kS159, kC161, kG161, kP161, kR161_0, kR161_1, kL162, kA162, kS162, kL163, kA163, kS163, kC165, kG165, kP165, kR165_0, kR165_1, kR165_2, kR165_3, kL166, kA166, kS166, kL167, kA167, kS167, kL168, kA168, kS168, kL169, kA169, kS169, kC170, kG170, kP170, kR170_0, kR170_1, kR170_2, kL171, kA171, kS171, kL172, kA172, kS172, kL173, kA173, kS173, kC174, kG174, kP174, kR174_0, kR174_1, kR174_2, kR174_3, kR174_4, kL175, kA175, kS175, kL176, kA176, kS176, kL177, kA177, kS177, kL178, kA178, kS178, kL179, kC180, kG180, kP180, kL181, kL182, kA182, kS182, kC183, kG183, kP183, kR183_1, kR183_3, kR183_5, kR183_6, kR183_7, kR183_8, kR183_9, kR183_21, kR183_26, kR183_27, kR183_30, kR183_31, kR183_33, kR183_34, kR183_36, kR183_37, kR183_38, kR183_39, kR183_40, kR183_41, kR183_42, kR183_43, kR183_44, kL184, kA184, kS184, kL185, kA185, kS185, kL186, kA186, kS186, kL187, kA187, kS187, kL188, kA188, kS188, kL189, kL190, kL191, kA191, kS191, kL192, kA192, kS192, kL193, kA193, kS193, kL194, kA194, kS194, kL195, kA195, kS195, kL196, kA196, kS196, kL197, kA197, kS197, kL198, kA198, kS198, kL199, kA199, kS199, kL200, kA200, kS200, kL201, kL202, kA202, kS202, kL203, kA203, kS203, kL204, kA204, kS204, kL205, kL206, kA206, kS206, sites_ok hS hG, nn_le, Nat.le_refl]
end CLCOUNT
end
section
/-! count -/
section FEW
variable {σ : XS} {I : Nat → Nat → Int32} {g : GD} {F : Nat → Int32}
def brC (g : GD) (F : Nat → Int32) (m : Nat) : Nat := fb_ct (fun s => lW g F s && decide (bk g F s = m)) (gSt g)
theorem brC_pos {m : Nat} : 0 < brC g F m ↔ ∃ s, s < gSt g ∧ lW g F s = true ∧ bk g F s = m := by
  unfold brC
  rw [fb_ct_pos]
  constructor
  · rintro ⟨s, h1, h2⟩
    simp only [Bool.and_eq_true, decide_eq_true_eq] at h2
    exact ⟨s, h1, h2⟩
  · rintro ⟨s, h1, h2, h3⟩
    exact ⟨s, h1, by simp [h2, h3]⟩
/-- the fewest broken ties of a lawful state, none if there is no such state -/
def fwR (g : GD) (F : Nat → Int32) (r : Nat) : Prop := (∃ s, s < gSt g ∧ lW g F s = true ∧ bk g F s = r ∧ ∀ t, t < gSt g → lW g F t = true → r ≤ bk g F t) ∨ (r = 0 ∧ ∀ t, t < gSt g → lW g F t = false)
theorem fewest11 (hS : Shp σ) (hg : g ∈ gAll) (hB : BRK I g F) {r : Nat} (hr : fwR g F r) : f_X0_fewest (xw σ I) 170 = some (nI r) := by
  have hSt := (gSt_b hg).1
  have hb : ∀ m, brC g F m ≤ 65536 := fun m => Nat.le_trans (fb_ct_le _ _) hSt
  have hv : ∀ m, m < 33 → I 171 m = nI (brC g F m) := fun m hm => hB m hm
  unfold f_X0_fewest
  rcases hr with ⟨s, h1, h2, h3, h4⟩ | ⟨h1, h2⟩
  · have hrb : r ≤ 32 := by rw [← h3]; exact bk_b g F s
    refine xforE (fun m : Nat => nI m) r rfl (fun m hm => ?_) ?_
    · simp only [f_X0_fewest_b2]
      have hz : brC g F m = 0 := by
        rcases Nat.eq_zero_or_pos (brC g F m) with z | z
        · exact z
        · obtain ⟨t, t1, t2, t3⟩ := brC_pos.mp z
          have := h4 t t1 t2
          omega
      simp (disch := first | assumption | omega) only [Option.bind_some, Option.map_some, xw_gR, xw_gN, xw_al, xw_ck, xw_uI, xw_ur, xup_at, xur_at, if_true, if_false, reduceIte, and_true, true_and, and_false, false_and, not_true_eq_false, not_false_eq_true, Nat.reduceEqDiff, eq_self, Nat.reduceAdd, Nat.reduceMul, kC1, kG1, kP1, kR1_0, kR1_1, kR1_2, kR1_3, kR1_4, kR1_5, kR1_6, kR1_7, kR1_8, kR1_9, kR1_10, kR1_11, kR1_12, kR1_13, kC2, kG2, kP2, kR2_0, kR2_1, kC3, kG3, kP3, kR3_0, kR3_1, kR3_2, kR3_3, kL4, kA4, kS4, kL5, kA5, kS5, kL6, kA6, kS6, kL7, kA7, kS7, kC8, kG8, kP8, kR8_0, kR8_1, kL9, kA9, kS9, kL10, kA10, kS10, kC11, kG11, kP11, kR11_0, kR11_1, kR11_2, kR11_3, kL12, kA12, kS12, kL13, kA13, kS13, kL14, kA14, kS14, kL15, kA15, kS15, kC16, kG16, kP16, kR16_0, kR16_1, kL17, kA17, kS17, kL18, kA18, kS18, kC19, kG19, kP19, kR19_0, kL20, kL141, kL146, kA146, kS146, kL151, kA151, kS151, kL156, kA156, kS156, kC157, kG157, kP157, kR157_0, kR157_1, kL158, kA158, kS158, kL159, kA159, kS159, kC161, kG161, kP161, kR161_0, kR161_1, kL162, kA162, kS162, kL163, kA163, kS163, kC165, kG165, kP165, kR165_0, kR165_1, kR165_2, kR165_3, kL166, kA166, kS166, kL167, kA167, kS167, kL168, kA168, kS168, kL169, kA169, kS169, kC170, kG170, kP170, kR170_0, kR170_1, kR170_2, kL171, kA171, kS171, kL172, kA172, kS172, kL173, kA173, kS173, kC174, kG174, kP174, kR174_0, kR174_1, kR174_2, kR174_3, kR174_4, kL175, kA175, kS175, kL176, kA176, kS176, kL177, kA177, kS177, kL178, kA178, kS178, kL179, kC180, kG180, kP180, kL181, kL182, kA182, kS182, kC183, kG183, kP183, kR183_1, kR183_3, kR183_5, kR183_6, kR183_7, kR183_8, kR183_9, kR183_21, kR183_26, kR183_27, kR183_30, kR183_31, kR183_33, kR183_34, kR183_36, kR183_37, kR183_38, kR183_39, kR183_40, kR183_41, kR183_42, kR183_43, kR183_44, kL184, kA184, kS184, kL185, kA185, kS185, kL186, kA186, kS186, kL187, kA187, kS187, kL188, kA188, kS188, kL189, kL190, kL191, kA191, kS191, kL192, kA192, kS192, kL193, kA193, kS193, kL194, kA194, kS194, kL195, kA195, kS195, kL196, kA196, kS196, kL197, kA197, kS197, kL198, kA198, kS198, kL199, kA199, kS199, kL200, kA200, kS200, kL201, kL202, kA202, kS202, kL203, kA203, kS203, kL204, kA204, kS204, kL205, kL206, kA206, kS206, nn_le, show ¬ (33 ≤ m) by omega, hv m (show m < 33 by omega), hz, show (nI 0 ≤ 0) = True from eq_true (by decide)]
      rw [nI_succ]
    · simp only [f_X0_fewest_b2]
      have hz : 0 < brC g F r := brC_pos.mpr ⟨s, h1, h2, h3⟩
      have := hb r
      simp (disch := first | assumption | omega) only [Option.bind_some, Option.map_some, xw_gR, xw_gN, xw_al, xw_ck, xw_uI, xw_ur, xup_at, xur_at, if_true, if_false, reduceIte, and_true, true_and, and_false, false_and, not_true_eq_false, not_false_eq_true, Nat.reduceEqDiff, eq_self, Nat.reduceAdd, Nat.reduceMul, kC1, kG1, kP1, kR1_0, kR1_1, kR1_2, kR1_3, kR1_4, kR1_5, kR1_6, kR1_7, kR1_8, kR1_9, kR1_10, kR1_11, kR1_12, kR1_13, kC2, kG2, kP2, kR2_0, kR2_1, kC3, kG3, kP3, kR3_0, kR3_1, kR3_2, kR3_3, kL4, kA4, kS4, kL5, kA5, kS5, kL6, kA6, kS6, kL7, kA7, kS7, kC8, kG8, kP8, kR8_0, kR8_1, kL9, kA9, kS9, kL10, kA10, kS10, kC11, kG11, kP11, kR11_0, kR11_1, kR11_2, kR11_3, kL12, kA12, kS12, kL13, kA13, kS13, kL14, kA14, kS14, kL15, kA15, kS15, kC16, kG16, kP16, kR16_0, kR16_1, kL17, kA17, kS17, kL18, kA18, kS18, kC19, kG19, kP19, kR19_0, kL20, kL141, kL146, kA146, kS146, kL151, kA151, kS151, kL156, kA156, kS156, kC157, kG157, kP157, kR157_0, kR157_1, kL158, kA158, kS158, kL159, kA159, kS159, kC161, kG161, kP161, kR161_0, kR161_1, kL162, kA162, kS162, kL163, kA163, kS163, kC165, kG165, kP165, kR165_0, kR165_1, kR165_2, kR165_3, kL166, kA166, kS166, kL167, kA167, kS167, kL168, kA168, kS168, kL169, kA169, kS169, kC170, kG170, kP170, kR170_0, kR170_1, kR170_2, kL171, kA171, kS171, kL172, kA172, kS172, kL173, kA173, kS173, kC174, kG174, kP174, kR174_0, kR174_1, kR174_2, kR174_3, kR174_4, kL175, kA175, kS175, kL176, kA176, kS176, kL177, kA177, kS177, kL178, kA178, kS178, kL179, kC180, kG180, kP180, kL181, kL182, kA182, kS182, kC183, kG183, kP183, kR183_1, kR183_3, kR183_5, kR183_6, kR183_7, kR183_8, kR183_9, kR183_21, kR183_26, kR183_27, kR183_30, kR183_31, kR183_33, kR183_34, kR183_36, kR183_37, kR183_38, kR183_39, kR183_40, kR183_41, kR183_42, kR183_43, kR183_44, kL184, kA184, kS184, kL185, kA185, kS185, kL186, kA186, kS186, kL187, kA187, kS187, kL188, kA188, kS188, kL189, kL190, kL191, kA191, kS191, kL192, kA192, kS192, kL193, kA193, kS193, kL194, kA194, kS194, kL195, kA195, kS195, kL196, kA196, kS196, kL197, kA197, kS197, kL198, kA198, kS198, kL199, kA199, kS199, kL200, kA200, kS200, kL201, kL202, kA202, kS202, kL203, kA203, kS203, kL204, kA204, kS204, kL205, kL206, kA206, kS206, nn_le, show ¬ (33 ≤ r) by omega, hv r (show r < 33 by omega)]
      rw [if_neg (nI_nle hz (by omega))]
  · subst h1
    refine xforE (fun m : Nat => nI m) 33 rfl (fun m hm => ?_) ?_
    · simp only [f_X0_fewest_b2]
      have hz : brC g F m = 0 := by
        rcases Nat.eq_zero_or_pos (brC g F m) with z | z
        · exact z
        · obtain ⟨t, t1, t2, t3⟩ := brC_pos.mp z
          rw [h2 t t1] at t2; cases t2
      simp (disch := first | assumption | omega) only [Option.bind_some, Option.map_some, xw_gR, xw_gN, xw_al, xw_ck, xw_uI, xw_ur, xup_at, xur_at, if_true, if_false, reduceIte, and_true, true_and, and_false, false_and, not_true_eq_false, not_false_eq_true, Nat.reduceEqDiff, eq_self, Nat.reduceAdd, Nat.reduceMul, kC1, kG1, kP1, kR1_0, kR1_1, kR1_2, kR1_3, kR1_4, kR1_5, kR1_6, kR1_7, kR1_8, kR1_9, kR1_10, kR1_11, kR1_12, kR1_13, kC2, kG2, kP2, kR2_0, kR2_1, kC3, kG3, kP3, kR3_0, kR3_1, kR3_2, kR3_3, kL4, kA4, kS4, kL5, kA5, kS5, kL6, kA6, kS6, kL7, kA7, kS7, kC8, kG8, kP8, kR8_0, kR8_1, kL9, kA9, kS9, kL10, kA10, kS10, kC11, kG11, kP11, kR11_0, kR11_1, kR11_2, kR11_3, kL12, kA12, kS12, kL13, kA13, kS13, kL14, kA14, kS14, kL15, kA15, kS15, kC16, kG16, kP16, kR16_0, kR16_1, kL17, kA17, kS17, kL18, kA18, kS18, kC19, kG19, kP19, kR19_0, kL20, kL141, kL146, kA146, kS146, kL151, kA151, kS151, kL156, kA156, kS156, kC157, kG157, kP157, kR157_0, kR157_1, kL158, kA158, kS158, kL159, kA159, kS159, kC161, kG161, kP161, kR161_0, kR161_1, kL162, kA162, kS162, kL163, kA163, kS163, kC165, kG165, kP165, kR165_0, kR165_1, kR165_2, kR165_3, kL166, kA166, kS166, kL167, kA167, kS167, kL168, kA168, kS168, kL169, kA169, kS169, kC170, kG170, kP170, kR170_0, kR170_1, kR170_2, kL171, kA171, kS171, kL172, kA172, kS172, kL173, kA173, kS173, kC174, kG174, kP174, kR174_0, kR174_1, kR174_2, kR174_3, kR174_4, kL175, kA175, kS175, kL176, kA176, kS176, kL177, kA177, kS177, kL178, kA178, kS178, kL179, kC180, kG180, kP180, kL181, kL182, kA182, kS182, kC183, kG183, kP183, kR183_1, kR183_3, kR183_5, kR183_6, kR183_7, kR183_8, kR183_9, kR183_21, kR183_26, kR183_27, kR183_30, kR183_31, kR183_33, kR183_34, kR183_36, kR183_37, kR183_38, kR183_39, kR183_40, kR183_41, kR183_42, kR183_43, kR183_44, kL184, kA184, kS184, kL185, kA185, kS185, kL186, kA186, kS186, kL187, kA187, kS187, kL188, kA188, kS188, kL189, kL190, kL191, kA191, kS191, kL192, kA192, kS192, kL193, kA193, kS193, kL194, kA194, kS194, kL195, kA195, kS195, kL196, kA196, kS196, kL197, kA197, kS197, kL198, kA198, kS198, kL199, kA199, kS199, kL200, kA200, kS200, kL201, kL202, kA202, kS202, kL203, kA203, kS203, kL204, kA204, kS204, kL205, kL206, kA206, kS206, nn_le, show ¬ (33 ≤ m) by omega, hv m hm, hz, show (nI 0 ≤ 0) = True from eq_true (by decide)]
      rw [nI_succ]
    · simp only [f_X0_fewest_b2]
      simp (disch := first | assumption | omega) only [Option.bind_some, Option.map_some, xw_gR, xw_gN, xw_al, xw_ck, xw_uI, xw_ur, xup_at, xur_at, if_true, if_false, reduceIte, and_true, true_and, and_false, false_and, not_true_eq_false, not_false_eq_true, Nat.reduceEqDiff, eq_self, Nat.reduceAdd, Nat.reduceMul, kC1, kG1, kP1, kR1_0, kR1_1, kR1_2, kR1_3, kR1_4, kR1_5, kR1_6, kR1_7, kR1_8, kR1_9, kR1_10, kR1_11, kR1_12, kR1_13, kC2, kG2, kP2, kR2_0, kR2_1, kC3, kG3, kP3, kR3_0, kR3_1, kR3_2, kR3_3, kL4, kA4, kS4, kL5, kA5, kS5, kL6, kA6, kS6, kL7, kA7, kS7, kC8, kG8, kP8, kR8_0, kR8_1, kL9, kA9, kS9, kL10, kA10, kS10, kC11, kG11, kP11, kR11_0, kR11_1, kR11_2, kR11_3, kL12, kA12, kS12, kL13, kA13, kS13, kL14, kA14, kS14, kL15, kA15, kS15, kC16, kG16, kP16, kR16_0, kR16_1, kL17, kA17, kS17, kL18, kA18, kS18, kC19, kG19, kP19, kR19_0, kL20, kL141, kL146, kA146, kS146, kL151, kA151, kS151, kL156, kA156, kS156, kC157, kG157, kP157, kR157_0, kR157_1, kL158, kA158, kS158, kL159, kA159, kS159, kC161, kG161, kP161, kR161_0, kR161_1, kL162, kA162, kS162, kL163, kA163, kS163, kC165, kG165, kP165, kR165_0, kR165_1, kR165_2, kR165_3, kL166, kA166, kS166, kL167, kA167, kS167, kL168, kA168, kS168, kL169, kA169, kS169, kC170, kG170, kP170, kR170_0, kR170_1, kR170_2, kL171, kA171, kS171, kL172, kA172, kS172, kL173, kA173, kS173, kC174, kG174, kP174, kR174_0, kR174_1, kR174_2, kR174_3, kR174_4, kL175, kA175, kS175, kL176, kA176, kS176, kL177, kA177, kS177, kL178, kA178, kS178, kL179, kC180, kG180, kP180, kL181, kL182, kA182, kS182, kC183, kG183, kP183, kR183_1, kR183_3, kR183_5, kR183_6, kR183_7, kR183_8, kR183_9, kR183_21, kR183_26, kR183_27, kR183_30, kR183_31, kR183_33, kR183_34, kR183_36, kR183_37, kR183_38, kR183_39, kR183_40, kR183_41, kR183_42, kR183_43, kR183_44, kL184, kA184, kS184, kL185, kA185, kS185, kL186, kA186, kS186, kL187, kA187, kS187, kL188, kA188, kS188, kL189, kL190, kL191, kA191, kS191, kL192, kA192, kS192, kL193, kA193, kS193, kL194, kA194, kS194, kL195, kA195, kS195, kL196, kA196, kS196, kL197, kA197, kS197, kL198, kA198, kS198, kL199, kA199, kS199, kL200, kA200, kS200, kL201, kL202, kA202, kS202, kL203, kA203, kS203, kL204, kA204, kS204, kL205, kL206, kA206, kS206, nn_le, Nat.le_refl]
      rfl
theorem fewest12 (hS : Shp σ) (hG : GRD I g) (hr : I 191 = F) (ho : RO g F) : ∃ r, fwR g F r ∧ f_X12_fewestBroken (xw σ I) 183 = some (nI r) := by
  have hg := hG.1
  have hSt := (gSt_b hg).1
  have key : ∃ y, xloop (f_X12_fewestBroken_b4 (xw σ I) 183) ((-1 : Int32), nI 0) = some y ∧ ∃ r, y = nI r ∧ fwR g F r := by
    refine xforI (fun s y => ((y = ((-1 : Int32), nI s)) ∧ ∀ t, t < s → lW g F t = false) ∨ ∃ r t0, y = (nI r, nI s) ∧ t0 < s ∧ lW g F t0 = true ∧ bk g F t0 = r ∧ ∀ t, t < s → lW g F t = true → r ≤ bk g F t) (gSt g) (.inl ⟨rfl, fun t ht => by omega⟩) ?_ ?_
    · rintro s y hs hy
      have hl := isLawful12_ok (σ := σ) (I := I) hS hG (by rw [hr]; exact ho) (nI s)
      rw [hr, isB_n hg hs] at hl
      have hb := bk_b g F s
      have hbr := broken12_ok (σ := σ) (J := I) hS hG hr (s := s) (by omega)
      rcases hy with ⟨rfl, h1⟩ | ⟨r, t0, rfl, h1, h2, h3, h4⟩
      · simp only [f_X12_fewestBroken_b4]
        simp (disch := first | assumption | omega) only [Option.bind_some, Option.map_some, xw_gR, xw_gN, xw_al, xw_ck, xw_uI, xw_ur, xup_at, xur_at, if_true, if_false, reduceIte, and_true, true_and, and_false, false_and, not_true_eq_false, not_false_eq_true, Nat.reduceEqDiff, eq_self, Nat.reduceAdd, Nat.reduceMul, kC1, kG1, kP1, kR1_0, kR1_1, kR1_2, kR1_3, kR1_4, kR1_5, kR1_6, kR1_7, kR1_8, kR1_9, kR1_10, kR1_11, kR1_12, kR1_13, kC2, kG2, kP2, kR2_0, kR2_1, kC3, kG3, kP3, kR3_0, kR3_1, kR3_2, kR3_3, kL4, kA4, kS4, kL5, kA5, kS5, kL6, kA6, kS6, kL7, kA7, kS7, kC8, kG8, kP8, kR8_0, kR8_1, kL9, kA9, kS9, kL10, kA10, kS10, kC11, kG11, kP11, kR11_0, kR11_1, kR11_2, kR11_3, kL12, kA12, kS12, kL13, kA13, kS13, kL14, kA14, kS14, kL15, kA15, kS15, kC16, kG16, kP16, kR16_0, kR16_1, kL17, kA17, kS17, kL18, kA18, kS18, kC19, kG19, kP19, kR19_0, kL20, kL141, kL146, kA146, kS146, kL151, kA151, kS151, kL156, kA156, kS156, kC157, kG157, kP157, kR157_0, kR157_1, kL158, kA158, kS158, kL159, kA159, kS159, kC161, kG161, kP161, kR161_0, kR161_1, kL162, kA162, kS162, kL163, kA163, kS163, kC165, kG165, kP165, kR165_0, kR165_1, kR165_2, kR165_3, kL166, kA166, kS166, kL167, kA167, kS167, kL168, kA168, kS168, kL169, kA169, kS169, kC170, kG170, kP170, kR170_0, kR170_1, kR170_2, kL171, kA171, kS171, kL172, kA172, kS172, kL173, kA173, kS173, kC174, kG174, kP174, kR174_0, kR174_1, kR174_2, kR174_3, kR174_4, kL175, kA175, kS175, kL176, kA176, kS176, kL177, kA177, kS177, kL178, kA178, kS178, kL179, kC180, kG180, kP180, kL181, kL182, kA182, kS182, kC183, kG183, kP183, kR183_1, kR183_3, kR183_5, kR183_6, kR183_7, kR183_8, kR183_9, kR183_21, kR183_26, kR183_27, kR183_30, kR183_31, kR183_33, kR183_34, kR183_36, kR183_37, kR183_38, kR183_39, kR183_40, kR183_41, kR183_42, kR183_43, kR183_44, kL184, kA184, kS184, kL185, kA185, kS185, kL186, kA186, kS186, kL187, kA187, kS187, kL188, kA188, kS188, kL189, kL190, kL191, kA191, kS191, kL192, kA192, kS192, kL193, kA193, kS193, kL194, kA194, kS194, kL195, kA195, kS195, kL196, kA196, kS196, kL197, kA197, kS197, kL198, kA198, kS198, kL199, kA199, kS199, kL200, kA200, kS200, kL201, kL202, kA202, kS202, kL203, kA203, kS203, kL204, kA204, kS204, kL205, kL206, kA206, kS206, states12_ok hS hG, nn_le, show ¬ (gSt g ≤ s) by omega, hl, hbr, show ((-1 : Int32) < 0) = True from eq_true (by decide)]
        rw [← nI_succ]
        cases hw : lW g F s with
        | false =>
          exact ⟨_, rfl, .inl ⟨rfl, fun t ht => by
            by_cases z : t = s
            · rw [z]; exact hw
            · exact h1 t (by omega)⟩⟩
        | true =>
          refine ⟨_, rfl, .inr ⟨bk g F s, s, rfl, by omega, hw, rfl, fun t ht htl => ?_⟩⟩
          by_cases z : t = s
          · rw [z]; exact Nat.le_refl _
          · rw [h1 t (by omega)] at htl; cases htl
      · have hrb : r ≤ 32 := by rw [← h3]; exact bk_b g F t0
        have hle : (nI r ≤ nI (bk g F s)) = (r ≤ bk g F s) := nn_le (by omega) (by omega)
        simp only [f_X12_fewestBroken_b4]
        simp (disch := first | assumption | omega) only [Option.bind_some, Option.map_some, xw_gR, xw_gN, xw_al, xw_ck, xw_uI, xw_ur, xup_at, xur_at, if_true, if_false, reduceIte, and_true, true_and, and_false, false_and, not_true_eq_false, not_false_eq_true, Nat.reduceEqDiff, eq_self, Nat.reduceAdd, Nat.reduceMul, kC1, kG1, kP1, kR1_0, kR1_1, kR1_2, kR1_3, kR1_4, kR1_5, kR1_6, kR1_7, kR1_8, kR1_9, kR1_10, kR1_11, kR1_12, kR1_13, kC2, kG2, kP2, kR2_0, kR2_1, kC3, kG3, kP3, kR3_0, kR3_1, kR3_2, kR3_3, kL4, kA4, kS4, kL5, kA5, kS5, kL6, kA6, kS6, kL7, kA7, kS7, kC8, kG8, kP8, kR8_0, kR8_1, kL9, kA9, kS9, kL10, kA10, kS10, kC11, kG11, kP11, kR11_0, kR11_1, kR11_2, kR11_3, kL12, kA12, kS12, kL13, kA13, kS13, kL14, kA14, kS14, kL15, kA15, kS15, kC16, kG16, kP16, kR16_0, kR16_1, kL17, kA17, kS17, kL18, kA18, kS18, kC19, kG19, kP19, kR19_0, kL20, kL141, kL146, kA146, kS146, kL151, kA151, kS151, kL156, kA156, kS156, kC157, kG157, kP157, kR157_0, kR157_1, kL158, kA158, kS158, kL159, kA159, kS159, kC161, kG161, kP161, kR161_0, kR161_1, kL162, kA162, kS162, kL163, kA163, kS163, kC165, kG165, kP165, kR165_0, kR165_1, kR165_2, kR165_3, kL166, kA166, kS166, kL167, kA167, kS167, kL168, kA168, kS168, kL169, kA169, kS169, kC170, kG170, kP170, kR170_0, kR170_1, kR170_2, kL171, kA171, kS171, kL172, kA172, kS172, kL173, kA173, kS173, kC174, kG174, kP174, kR174_0, kR174_1, kR174_2, kR174_3, kR174_4, kL175, kA175, kS175, kL176, kA176, kS176, kL177, kA177, kS177, kL178, kA178, kS178, kL179, kC180, kG180, kP180, kL181, kL182, kA182, kS182, kC183, kG183, kP183, kR183_1, kR183_3, kR183_5, kR183_6, kR183_7, kR183_8, kR183_9, kR183_21, kR183_26, kR183_27, kR183_30, kR183_31, kR183_33, kR183_34, kR183_36, kR183_37, kR183_38, kR183_39, kR183_40, kR183_41, kR183_42, kR183_43, kR183_44, kL184, kA184, kS184, kL185, kA185, kS185, kL186, kA186, kS186, kL187, kA187, kS187, kL188, kA188, kS188, kL189, kL190, kL191, kA191, kS191, kL192, kA192, kS192, kL193, kA193, kS193, kL194, kA194, kS194, kL195, kA195, kS195, kL196, kA196, kS196, kL197, kA197, kS197, kL198, kA198, kS198, kL199, kA199, kS199, kL200, kA200, kS200, kL201, kL202, kA202, kS202, kL203, kA203, kS203, kL204, kA204, kS204, kL205, kL206, kA206, kS206, states12_ok hS hG, nn_le, show ¬ (gSt g ≤ s) by omega, hl, hbr, nn_nneg]
        rw [← nI_succ]
        cases hw : lW g F s with
        | false =>
          refine ⟨_, rfl, .inr ⟨r, t0, rfl, by omega, h2, h3, fun t ht htl => ?_⟩⟩
          by_cases z : t = s
          · rw [z, hw] at htl; cases htl
          · exact h4 t (by omega) htl
        | true =>
          rw [if_pos rfl, if_neg (by decide)]
          by_cases hc : r ≤ bk g F s
          · rw [if_pos hc]
            refine ⟨_, rfl, .inr ⟨r, t0, rfl, by omega, h2, h3, fun t ht htl => ?_⟩⟩
            by_cases z : t = s
            · rw [z]; exact hc
            · exact h4 t (by omega) htl
          · rw [if_neg hc]
            refine ⟨_, rfl, .inr ⟨bk g F s, s, rfl, by omega, hw, rfl, fun t ht htl => ?_⟩⟩
            by_cases z : t = s
            · rw [z]; exact Nat.le_refl _
            · have := h4 t (by omega) htl; omega
    · rintro y hy
      rcases hy with ⟨rfl, h1⟩ | ⟨r, t0, rfl, h1, h2, h3, h4⟩
      · refine ⟨nI 0, ?_, 0, rfl, .inr ⟨rfl, h1⟩⟩
        simp only [f_X12_fewestBroken_b4]
        simp (disch := first | assumption | omega) only [Option.bind_some, Option.map_some, xw_gR, xw_gN, xw_al, xw_ck, xw_uI, xw_ur, xup_at, xur_at, if_true, if_false, reduceIte, and_true, true_and, and_false, false_and, not_true_eq_false, not_false_eq_true, Nat.reduceEqDiff, eq_self, Nat.reduceAdd, Nat.reduceMul, kC1, kG1, kP1, kR1_0, kR1_1, kR1_2, kR1_3, kR1_4, kR1_5, kR1_6, kR1_7, kR1_8, kR1_9, kR1_10, kR1_11, kR1_12, kR1_13, kC2, kG2, kP2, kR2_0, kR2_1, kC3, kG3, kP3, kR3_0, kR3_1, kR3_2, kR3_3, kL4, kA4, kS4, kL5, kA5, kS5, kL6, kA6, kS6, kL7, kA7, kS7, kC8, kG8, kP8, kR8_0, kR8_1, kL9, kA9, kS9, kL10, kA10, kS10, kC11, kG11, kP11, kR11_0, kR11_1, kR11_2, kR11_3, kL12, kA12, kS12, kL13, kA13, kS13, kL14, kA14, kS14, kL15, kA15, kS15, kC16, kG16, kP16, kR16_0, kR16_1, kL17, kA17, kS17, kL18, kA18, kS18, kC19, kG19, kP19, kR19_0, kL20, kL141, kL146, kA146, kS146, kL151, kA151, kS151, kL156, kA156, kS156, kC157, kG157, kP157, kR157_0, kR157_1, kL158, kA158, kS158, kL159, kA159, kS159, kC161, kG161, kP161, kR161_0, kR161_1, kL162, kA162, kS162, kL163, kA163, kS163, kC165, kG165, kP165, kR165_0, kR165_1, kR165_2, kR165_3, kL166, kA166, kS166, kL167, kA167, kS167, kL168, kA168, kS168, kL169, kA169, kS169, kC170, kG170, kP170, kR170_0, kR170_1, kR170_2, kL171, kA171, kS171, kL172, kA172, kS172, kL173, kA173, kS173, kC174, kG174, kP174, kR174_0, kR174_1, kR174_2, kR174_3, kR174_4, kL175, kA175, kS175, kL176, kA176, kS176, kL177, kA177, kS177, kL178, kA178, kS178, kL179, kC180, kG180, kP180, kL181, kL182, kA182, kS182, kC183, kG183, kP183, kR183_1, kR183_3, kR183_5, kR183_6, kR183_7, kR183_8, kR183_9, kR183_21, kR183_26, kR183_27, kR183_30, kR183_31, kR183_33, kR183_34, kR183_36, kR183_37, kR183_38, kR183_39, kR183_40, kR183_41, kR183_42, kR183_43, kR183_44, kL184, kA184, kS184, kL185, kA185, kS185, kL186, kA186, kS186, kL187, kA187, kS187, kL188, kA188, kS188, kL189, kL190, kL191, kA191, kS191, kL192, kA192, kS192, kL193, kA193, kS193, kL194, kA194, kS194, kL195, kA195, kS195, kL196, kA196, kS196, kL197, kA197, kS197, kL198, kA198, kS198, kL199, kA199, kS199, kL200, kA200, kS200, kL201, kL202, kA202, kS202, kL203, kA203, kS203, kL204, kA204, kS204, kL205, kL206, kA206, kS206, states12_ok hS hG, nn_le, Nat.le_refl]
        rfl
      · have hrb : r ≤ 32 := by rw [← h3]; exact bk_b g F t0
        refine ⟨nI r, ?_, r, rfl, .inl ⟨t0, h1, h2, h3, h4⟩⟩
        simp only [f_X12_fewestBroken_b4]
        simp (disch := first | assumption | omega) only [Option.bind_some, Option.map_some, xw_gR, xw_gN, xw_al, xw_ck, xw_uI, xw_ur, xup_at, xur_at, if_true, if_false, reduceIte, and_true, true_and, and_false, false_and, not_true_eq_false, not_false_eq_true, Nat.reduceEqDiff, eq_self, Nat.reduceAdd, Nat.reduceMul, kC1, kG1, kP1, kR1_0, kR1_1, kR1_2, kR1_3, kR1_4, kR1_5, kR1_6, kR1_7, kR1_8, kR1_9, kR1_10, kR1_11, kR1_12, kR1_13, kC2, kG2, kP2, kR2_0, kR2_1, kC3, kG3, kP3, kR3_0, kR3_1, kR3_2, kR3_3, kL4, kA4, kS4, kL5, kA5, kS5, kL6, kA6, kS6, kL7, kA7, kS7, kC8, kG8, kP8, kR8_0, kR8_1, kL9, kA9, kS9, kL10, kA10, kS10, kC11, kG11, kP11, kR11_0, kR11_1, kR11_2, kR11_3, kL12, kA12, kS12, kL13, kA13, kS13, kL14, kA14, kS14, kL15, kA15, kS15, kC16, kG16, kP16, kR16_0, kR16_1, kL17, kA17, kS17, kL18, kA18, kS18, kC19, kG19, kP19, kR19_0, kL20, kL141, kL146, kA146, kS146, kL151, kA151, kS151, kL156, kA156, kS156, kC157, kG157, kP157, kR157_0, kR157_1, kL158, kA158, kS158, kL159, kA159, kS159, kC161, kG161, kP161, kR161_0, kR161_1, kL162, kA162, kS162, kL163, kA163, kS163, kC165, kG165, kP165, kR165_0, kR165_1, kR165_2, kR165_3, kL166, kA166, kS166, kL167, kA167, kS167, kL168, kA168, kS168, kL169, kA169, kS169, kC170, kG170, kP170, kR170_0, kR170_1, kR170_2, kL171, kA171, kS171, kL172, kA172, kS172, kL173, kA173, kS173, kC174, kG174, kP174, kR174_0, kR174_1, kR174_2, kR174_3, kR174_4, kL175, kA175, kS175, kL176, kA176, kS176, kL177, kA177, kS177, kL178, kA178, kS178, kL179, kC180, kG180, kP180, kL181, kL182, kA182, kS182, kC183, kG183, kP183, kR183_1, kR183_3, kR183_5, kR183_6, kR183_7, kR183_8, kR183_9, kR183_21, kR183_26, kR183_27, kR183_30, kR183_31, kR183_33, kR183_34, kR183_36, kR183_37, kR183_38, kR183_39, kR183_40, kR183_41, kR183_42, kR183_43, kR183_44, kL184, kA184, kS184, kL185, kA185, kS185, kL186, kA186, kS186, kL187, kA187, kS187, kL188, kA188, kS188, kL189, kL190, kL191, kA191, kS191, kL192, kA192, kS192, kL193, kA193, kS193, kL194, kA194, kS194, kL195, kA195, kS195, kL196, kA196, kS196, kL197, kA197, kS197, kL198, kA198, kS198, kL199, kA199, kS199, kL200, kA200, kS200, kL201, kL202, kA202, kS202, kL203, kA203, kS203, kL204, kA204, kS204, kL205, kL206, kA206, kS206, states12_ok hS hG, nn_le, Nat.le_refl]
        rw [if_pos (by rw [show (0 : Int32) = nI 0 from rfl, nn_le (by omega) (by omega)]; omega)]
        rfl
  obtain ⟨y, h1, r, rfl, h2⟩ := key
  exact ⟨r, h2, h1⟩
end FEW
theorem op_count : Op_count INV := by
  intro n σ hn ⟨g, gT, gP, st, H⟩ v
  have hS := H.shp
  have hG := H.grd
  have hg := hG.1
  have h16 := (gAll_b g hg).2.2.1
  have hr4 := (gAll_b g hg).2.2.2.1
  obtain ⟨F, hF⟩ : ∃ F, F = xI σ 191 := ⟨_, rfl⟩
  have hSR := H.now.1
  have ho := H.now.2.1
  rw [← hF] at hSR ho
  obtain ⟨b, o3, o4, o5⟩ := ho.2.2.1
  have hb : b < 65536 := Nat.lt_of_lt_of_le o3 (Nat.pow_le_pow_right (n := 2) (by decide) h16)
  have hb4 : xI σ 16 4 = nI b := hSR.2.2.2.1.trans o4
  obtain ⟨-, -, ⟨p, u, e3, e4, e5, e6⟩, e7, e8⟩ := id hSR
  obtain ⟨m, hm, t1, t2, t3⟩ := H.tap
  obtain ⟨q, nx, ea, hq, hnx, hea, p1, p2, p3, p4, p8⟩ := H.pst
  obtain ⟨f0, d0, f01, -, f02, f03, -⟩ := H.slt 0 (by decide)
  obtain ⟨f1, d1, f11, -, f12, f13, -⟩ := H.slt 1 (by decide)
  obtain ⟨f2, d2, f21, -, f22, f23, -⟩ := H.slt 2 (by decide)
  obtain ⟨τ, l1, H1, hB, fr⟩ := breaksNow_ok (by omega) H
  rw [← hF] at hB
  have h64 : xI σ 191 64 = nI b := by rw [← hF]; exact o4
  have fs1 : f_X11_countFullSlots (xw σ (xI σ)) 1 = some (nI (f0 + f1 + f2)) := by
    unfold f_X11_countFullSlots
    have sa : ∀ i, i < 3 → xaR (xw σ (xI σ)) 25 141 (nI i) = some (142 + 5 * i) := fun i hi => slA hS hi
    refine xforE (fun j : Nat => (nI (if j = 0 then 0 else if j = 1 then f0 else if j = 2 then f0 + f1 else f0 + f1 + f2), nI j)) 3 rfl (fun j hj => ?_) ?_
    · have hz : ∀ f : Nat, f < 2 → (nI f = 0) = (f = 0) := fun f hf => nn_eq (b := 0) (by omega) (by decide)
      rcases (show j = 0 ∨ j = 1 ∨ j = 2 by omega) with rfl | rfl | rfl
      · simp only [f_X11_countFullSlots_b4]
        simp (disch := first | assumption | omega) only [Option.bind_some, Option.map_some, xw_gR, xw_gN, xw_al, xw_ck, xw_uI, xw_ur, xup_at, xur_at, if_true, if_false, reduceIte, and_true, true_and, and_false, false_and, not_true_eq_false, not_false_eq_true, Nat.reduceEqDiff, eq_self, Nat.reduceAdd, Nat.reduceMul, kC1, kG1, kP1, kR1_0, kR1_1, kR1_2, kR1_3, kR1_4, kR1_5, kR1_6, kR1_7, kR1_8, kR1_9, kR1_10, kR1_11, kR1_12, kR1_13, kC2, kG2, kP2, kR2_0, kR2_1, kC3, kG3, kP3, kR3_0, kR3_1, kR3_2, kR3_3, kL4, kA4, kS4, kL5, kA5, kS5, kL6, kA6, kS6, kL7, kA7, kS7, kC8, kG8, kP8, kR8_0, kR8_1, kL9, kA9, kS9, kL10, kA10, kS10, kC11, kG11, kP11, kR11_0, kR11_1, kR11_2, kR11_3, kL12, kA12, kS12, kL13, kA13, kS13, kL14, kA14, kS14, kL15, kA15, kS15, kC16, kG16, kP16, kR16_0, kR16_1, kL17, kA17, kS17, kL18, kA18, kS18, kC19, kG19, kP19, kR19_0, kL20, kL141, kL146, kA146, kS146, kL151, kA151, kS151, kL156, kA156, kS156, kC157, kG157, kP157, kR157_0, kR157_1, kL158, kA158, kS158, kL159, kA159, kS159, kC161, kG161, kP161, kR161_0, kR161_1, kL162, kA162, kS162, kL163, kA163, kS163, kC165, kG165, kP165, kR165_0, kR165_1, kR165_2, kR165_3, kL166, kA166, kS166, kL167, kA167, kS167, kL168, kA168, kS168, kL169, kA169, kS169, kC170, kG170, kP170, kR170_0, kR170_1, kR170_2, kL171, kA171, kS171, kL172, kA172, kS172, kL173, kA173, kS173, kC174, kG174, kP174, kR174_0, kR174_1, kR174_2, kR174_3, kR174_4, kL175, kA175, kS175, kL176, kA176, kS176, kL177, kA177, kS177, kL178, kA178, kS178, kL179, kC180, kG180, kP180, kL181, kL182, kA182, kS182, kC183, kG183, kP183, kR183_1, kR183_3, kR183_5, kR183_6, kR183_7, kR183_8, kR183_9, kR183_21, kR183_26, kR183_27, kR183_30, kR183_31, kR183_33, kR183_34, kR183_36, kR183_37, kR183_38, kR183_39, kR183_40, kR183_41, kR183_42, kR183_43, kR183_44, kL184, kA184, kS184, kL185, kA185, kS185, kL186, kA186, kS186, kL187, kA187, kS187, kL188, kA188, kS188, kL189, kL190, kL191, kA191, kS191, kL192, kA192, kS192, kL193, kA193, kS193, kL194, kA194, kS194, kL195, kA195, kS195, kL196, kA196, kS196, kL197, kA197, kS197, kL198, kA198, kS198, kL199, kA199, kS199, kL200, kA200, kS200, kL201, kL202, kA202, kS202, kL203, kA203, kS203, kL204, kA204, kS204, kL205, kL206, kA206, kS206, nn_le, show ¬ (3 ≤ 0) by omega, sa 0 (by decide), slG hS (show 0 < 3 by decide)]
        have g0 : xI σ (142 + 5 * 0) 2 = nI f0 := f02
        have : xI σ 142 2 = nI f0 := g0
        rcases (show f0 = 0 ∨ f0 = 1 by omega) with z | z <;> subst z <;> first | (rw [slG (I := xI σ) hS (i := 0) (by decide), f02]; rfl) | (simp (disch := first | assumption | omega) only [Option.bind_some, Option.map_some, xw_gR, xw_gN, xw_al, xw_ck, xw_uI, xw_ur, xup_at, xur_at, if_true, if_false, reduceIte, and_true, true_and, and_false, false_and, not_true_eq_false, not_false_eq_true, Nat.reduceEqDiff, eq_self, Nat.reduceAdd, Nat.reduceMul, kC1, kG1, kP1, kR1_0, kR1_1, kR1_2, kR1_3, kR1_4, kR1_5, kR1_6, kR1_7, kR1_8, kR1_9, kR1_10, kR1_11, kR1_12, kR1_13, kC2, kG2, kP2, kR2_0, kR2_1, kC3, kG3, kP3, kR3_0, kR3_1, kR3_2, kR3_3, kL4, kA4, kS4, kL5, kA5, kS5, kL6, kA6, kS6, kL7, kA7, kS7, kC8, kG8, kP8, kR8_0, kR8_1, kL9, kA9, kS9, kL10, kA10, kS10, kC11, kG11, kP11, kR11_0, kR11_1, kR11_2, kR11_3, kL12, kA12, kS12, kL13, kA13, kS13, kL14, kA14, kS14, kL15, kA15, kS15, kC16, kG16, kP16, kR16_0, kR16_1, kL17, kA17, kS17, kL18, kA18, kS18, kC19, kG19, kP19, kR19_0, kL20, kL141, kL146, kA146, kS146, kL151, kA151, kS151, kL156, kA156, kS156, kC157, kG157, kP157, kR157_0, kR157_1, kL158, kA158, kS158, kL159, kA159, kS159, kC161, kG161, kP161, kR161_0, kR161_1, kL162, kA162, kS162, kL163, kA163, kS163, kC165, kG165, kP165, kR165_0, kR165_1, kR165_2, kR165_3, kL166, kA166, kS166, kL167, kA167, kS167, kL168, kA168, kS168, kL169, kA169, kS169, kC170, kG170, kP170, kR170_0, kR170_1, kR170_2, kL171, kA171, kS171, kL172, kA172, kS172, kL173, kA173, kS173, kC174, kG174, kP174, kR174_0, kR174_1, kR174_2, kR174_3, kR174_4, kL175, kA175, kS175, kL176, kA176, kS176, kL177, kA177, kS177, kL178, kA178, kS178, kL179, kC180, kG180, kP180, kL181, kL182, kA182, kS182, kC183, kG183, kP183, kR183_1, kR183_3, kR183_5, kR183_6, kR183_7, kR183_8, kR183_9, kR183_21, kR183_26, kR183_27, kR183_30, kR183_31, kR183_33, kR183_34, kR183_36, kR183_37, kR183_38, kR183_39, kR183_40, kR183_41, kR183_42, kR183_43, kR183_44, kL184, kA184, kS184, kL185, kA185, kS185, kL186, kA186, kS186, kL187, kA187, kS187, kL188, kA188, kS188, kL189, kL190, kL191, kA191, kS191, kL192, kA192, kS192, kL193, kA193, kS193, kL194, kA194, kS194, kL195, kA195, kS195, kL196, kA196, kS196, kL197, kA197, kS197, kL198, kA198, kS198, kL199, kA199, kS199, kL200, kA200, kS200, kL201, kL202, kA202, kS202, kL203, kA203, kS203, kL204, kA204, kS204, kL205, kL206, kA206, kS206, xw_gI (slT hS (i := 0) (by decide)), this]; rfl)
      · simp only [f_X11_countFullSlots_b4]
        simp (disch := first | assumption | omega) only [Option.bind_some, Option.map_some, xw_gR, xw_gN, xw_al, xw_ck, xw_uI, xw_ur, xup_at, xur_at, if_true, if_false, reduceIte, and_true, true_and, and_false, false_and, not_true_eq_false, not_false_eq_true, Nat.reduceEqDiff, eq_self, Nat.reduceAdd, Nat.reduceMul, kC1, kG1, kP1, kR1_0, kR1_1, kR1_2, kR1_3, kR1_4, kR1_5, kR1_6, kR1_7, kR1_8, kR1_9, kR1_10, kR1_11, kR1_12, kR1_13, kC2, kG2, kP2, kR2_0, kR2_1, kC3, kG3, kP3, kR3_0, kR3_1, kR3_2, kR3_3, kL4, kA4, kS4, kL5, kA5, kS5, kL6, kA6, kS6, kL7, kA7, kS7, kC8, kG8, kP8, kR8_0, kR8_1, kL9, kA9, kS9, kL10, kA10, kS10, kC11, kG11, kP11, kR11_0, kR11_1, kR11_2, kR11_3, kL12, kA12, kS12, kL13, kA13, kS13, kL14, kA14, kS14, kL15, kA15, kS15, kC16, kG16, kP16, kR16_0, kR16_1, kL17, kA17, kS17, kL18, kA18, kS18, kC19, kG19, kP19, kR19_0, kL20, kL141, kL146, kA146, kS146, kL151, kA151, kS151, kL156, kA156, kS156, kC157, kG157, kP157, kR157_0, kR157_1, kL158, kA158, kS158, kL159, kA159, kS159, kC161, kG161, kP161, kR161_0, kR161_1, kL162, kA162, kS162, kL163, kA163, kS163, kC165, kG165, kP165, kR165_0, kR165_1, kR165_2, kR165_3, kL166, kA166, kS166, kL167, kA167, kS167, kL168, kA168, kS168, kL169, kA169, kS169, kC170, kG170, kP170, kR170_0, kR170_1, kR170_2, kL171, kA171, kS171, kL172, kA172, kS172, kL173, kA173, kS173, kC174, kG174, kP174, kR174_0, kR174_1, kR174_2, kR174_3, kR174_4, kL175, kA175, kS175, kL176, kA176, kS176, kL177, kA177, kS177, kL178, kA178, kS178, kL179, kC180, kG180, kP180, kL181, kL182, kA182, kS182, kC183, kG183, kP183, kR183_1, kR183_3, kR183_5, kR183_6, kR183_7, kR183_8, kR183_9, kR183_21, kR183_26, kR183_27, kR183_30, kR183_31, kR183_33, kR183_34, kR183_36, kR183_37, kR183_38, kR183_39, kR183_40, kR183_41, kR183_42, kR183_43, kR183_44, kL184, kA184, kS184, kL185, kA185, kS185, kL186, kA186, kS186, kL187, kA187, kS187, kL188, kA188, kS188, kL189, kL190, kL191, kA191, kS191, kL192, kA192, kS192, kL193, kA193, kS193, kL194, kA194, kS194, kL195, kA195, kS195, kL196, kA196, kS196, kL197, kA197, kS197, kL198, kA198, kS198, kL199, kA199, kS199, kL200, kA200, kS200, kL201, kL202, kA202, kS202, kL203, kA203, kS203, kL204, kA204, kS204, kL205, kL206, kA206, kS206, nn_le, show ¬ (3 ≤ 1) by omega, sa 1 (by decide)]
        have : xI σ 147 2 = nI f1 := f12
        rcases (show f1 = 0 ∨ f1 = 1 by omega) with z | z <;> subst z <;> (simp (disch := first | assumption | omega) only [Option.bind_some, Option.map_some, xw_gR, xw_gN, xw_al, xw_ck, xw_uI, xw_ur, xup_at, xur_at, if_true, if_false, reduceIte, and_true, true_and, and_false, false_and, not_true_eq_false, not_false_eq_true, Nat.reduceEqDiff, eq_self, Nat.reduceAdd, Nat.reduceMul, kC1, kG1, kP1, kR1_0, kR1_1, kR1_2, kR1_3, kR1_4, kR1_5, kR1_6, kR1_7, kR1_8, kR1_9, kR1_10, kR1_11, kR1_12, kR1_13, kC2, kG2, kP2, kR2_0, kR2_1, kC3, kG3, kP3, kR3_0, kR3_1, kR3_2, kR3_3, kL4, kA4, kS4, kL5, kA5, kS5, kL6, kA6, kS6, kL7, kA7, kS7, kC8, kG8, kP8, kR8_0, kR8_1, kL9, kA9, kS9, kL10, kA10, kS10, kC11, kG11, kP11, kR11_0, kR11_1, kR11_2, kR11_3, kL12, kA12, kS12, kL13, kA13, kS13, kL14, kA14, kS14, kL15, kA15, kS15, kC16, kG16, kP16, kR16_0, kR16_1, kL17, kA17, kS17, kL18, kA18, kS18, kC19, kG19, kP19, kR19_0, kL20, kL141, kL146, kA146, kS146, kL151, kA151, kS151, kL156, kA156, kS156, kC157, kG157, kP157, kR157_0, kR157_1, kL158, kA158, kS158, kL159, kA159, kS159, kC161, kG161, kP161, kR161_0, kR161_1, kL162, kA162, kS162, kL163, kA163, kS163, kC165, kG165, kP165, kR165_0, kR165_1, kR165_2, kR165_3, kL166, kA166, kS166, kL167, kA167, kS167, kL168, kA168, kS168, kL169, kA169, kS169, kC170, kG170, kP170, kR170_0, kR170_1, kR170_2, kL171, kA171, kS171, kL172, kA172, kS172, kL173, kA173, kS173, kC174, kG174, kP174, kR174_0, kR174_1, kR174_2, kR174_3, kR174_4, kL175, kA175, kS175, kL176, kA176, kS176, kL177, kA177, kS177, kL178, kA178, kS178, kL179, kC180, kG180, kP180, kL181, kL182, kA182, kS182, kC183, kG183, kP183, kR183_1, kR183_3, kR183_5, kR183_6, kR183_7, kR183_8, kR183_9, kR183_21, kR183_26, kR183_27, kR183_30, kR183_31, kR183_33, kR183_34, kR183_36, kR183_37, kR183_38, kR183_39, kR183_40, kR183_41, kR183_42, kR183_43, kR183_44, kL184, kA184, kS184, kL185, kA185, kS185, kL186, kA186, kS186, kL187, kA187, kS187, kL188, kA188, kS188, kL189, kL190, kL191, kA191, kS191, kL192, kA192, kS192, kL193, kA193, kS193, kL194, kA194, kS194, kL195, kA195, kS195, kL196, kA196, kS196, kL197, kA197, kS197, kL198, kA198, kS198, kL199, kA199, kS199, kL200, kA200, kS200, kL201, kL202, kA202, kS202, kL203, kA203, kS203, kL204, kA204, kS204, kL205, kL206, kA206, kS206, xw_gI (slT hS (i := 1) (by decide)), this]; first | rfl | (rw [if_neg (by decide), ← nI_succ]; rfl))
      · simp only [f_X11_countFullSlots_b4]
        simp (disch := first | assumption | omega) only [Option.bind_some, Option.map_some, xw_gR, xw_gN, xw_al, xw_ck, xw_uI, xw_ur, xup_at, xur_at, if_true, if_false, reduceIte, and_true, true_and, and_false, false_and, not_true_eq_false, not_false_eq_true, Nat.reduceEqDiff, eq_self, Nat.reduceAdd, Nat.reduceMul, kC1, kG1, kP1, kR1_0, kR1_1, kR1_2, kR1_3, kR1_4, kR1_5, kR1_6, kR1_7, kR1_8, kR1_9, kR1_10, kR1_11, kR1_12, kR1_13, kC2, kG2, kP2, kR2_0, kR2_1, kC3, kG3, kP3, kR3_0, kR3_1, kR3_2, kR3_3, kL4, kA4, kS4, kL5, kA5, kS5, kL6, kA6, kS6, kL7, kA7, kS7, kC8, kG8, kP8, kR8_0, kR8_1, kL9, kA9, kS9, kL10, kA10, kS10, kC11, kG11, kP11, kR11_0, kR11_1, kR11_2, kR11_3, kL12, kA12, kS12, kL13, kA13, kS13, kL14, kA14, kS14, kL15, kA15, kS15, kC16, kG16, kP16, kR16_0, kR16_1, kL17, kA17, kS17, kL18, kA18, kS18, kC19, kG19, kP19, kR19_0, kL20, kL141, kL146, kA146, kS146, kL151, kA151, kS151, kL156, kA156, kS156, kC157, kG157, kP157, kR157_0, kR157_1, kL158, kA158, kS158, kL159, kA159, kS159, kC161, kG161, kP161, kR161_0, kR161_1, kL162, kA162, kS162, kL163, kA163, kS163, kC165, kG165, kP165, kR165_0, kR165_1, kR165_2, kR165_3, kL166, kA166, kS166, kL167, kA167, kS167, kL168, kA168, kS168, kL169, kA169, kS169, kC170, kG170, kP170, kR170_0, kR170_1, kR170_2, kL171, kA171, kS171, kL172, kA172, kS172, kL173, kA173, kS173, kC174, kG174, kP174, kR174_0, kR174_1, kR174_2, kR174_3, kR174_4, kL175, kA175, kS175, kL176, kA176, kS176, kL177, kA177, kS177, kL178, kA178, kS178, kL179, kC180, kG180, kP180, kL181, kL182, kA182, kS182, kC183, kG183, kP183, kR183_1, kR183_3, kR183_5, kR183_6, kR183_7, kR183_8, kR183_9, kR183_21, kR183_26, kR183_27, kR183_30, kR183_31, kR183_33, kR183_34, kR183_36, kR183_37, kR183_38, kR183_39, kR183_40, kR183_41, kR183_42, kR183_43, kR183_44, kL184, kA184, kS184, kL185, kA185, kS185, kL186, kA186, kS186, kL187, kA187, kS187, kL188, kA188, kS188, kL189, kL190, kL191, kA191, kS191, kL192, kA192, kS192, kL193, kA193, kS193, kL194, kA194, kS194, kL195, kA195, kS195, kL196, kA196, kS196, kL197, kA197, kS197, kL198, kA198, kS198, kL199, kA199, kS199, kL200, kA200, kS200, kL201, kL202, kA202, kS202, kL203, kA203, kS203, kL204, kA204, kS204, kL205, kL206, kA206, kS206, nn_le, show ¬ (3 ≤ 2) by omega, sa 2 (by decide)]
        have : xI σ 152 2 = nI f2 := f22
        rcases (show f2 = 0 ∨ f2 = 1 by omega) with z | z <;> subst z <;> (simp (disch := first | assumption | omega) only [Option.bind_some, Option.map_some, xw_gR, xw_gN, xw_al, xw_ck, xw_uI, xw_ur, xup_at, xur_at, if_true, if_false, reduceIte, and_true, true_and, and_false, false_and, not_true_eq_false, not_false_eq_true, Nat.reduceEqDiff, eq_self, Nat.reduceAdd, Nat.reduceMul, kC1, kG1, kP1, kR1_0, kR1_1, kR1_2, kR1_3, kR1_4, kR1_5, kR1_6, kR1_7, kR1_8, kR1_9, kR1_10, kR1_11, kR1_12, kR1_13, kC2, kG2, kP2, kR2_0, kR2_1, kC3, kG3, kP3, kR3_0, kR3_1, kR3_2, kR3_3, kL4, kA4, kS4, kL5, kA5, kS5, kL6, kA6, kS6, kL7, kA7, kS7, kC8, kG8, kP8, kR8_0, kR8_1, kL9, kA9, kS9, kL10, kA10, kS10, kC11, kG11, kP11, kR11_0, kR11_1, kR11_2, kR11_3, kL12, kA12, kS12, kL13, kA13, kS13, kL14, kA14, kS14, kL15, kA15, kS15, kC16, kG16, kP16, kR16_0, kR16_1, kL17, kA17, kS17, kL18, kA18, kS18, kC19, kG19, kP19, kR19_0, kL20, kL141, kL146, kA146, kS146, kL151, kA151, kS151, kL156, kA156, kS156, kC157, kG157, kP157, kR157_0, kR157_1, kL158, kA158, kS158, kL159, kA159, kS159, kC161, kG161, kP161, kR161_0, kR161_1, kL162, kA162, kS162, kL163, kA163, kS163, kC165, kG165, kP165, kR165_0, kR165_1, kR165_2, kR165_3, kL166, kA166, kS166, kL167, kA167, kS167, kL168, kA168, kS168, kL169, kA169, kS169, kC170, kG170, kP170, kR170_0, kR170_1, kR170_2, kL171, kA171, kS171, kL172, kA172, kS172, kL173, kA173, kS173, kC174, kG174, kP174, kR174_0, kR174_1, kR174_2, kR174_3, kR174_4, kL175, kA175, kS175, kL176, kA176, kS176, kL177, kA177, kS177, kL178, kA178, kS178, kL179, kC180, kG180, kP180, kL181, kL182, kA182, kS182, kC183, kG183, kP183, kR183_1, kR183_3, kR183_5, kR183_6, kR183_7, kR183_8, kR183_9, kR183_21, kR183_26, kR183_27, kR183_30, kR183_31, kR183_33, kR183_34, kR183_36, kR183_37, kR183_38, kR183_39, kR183_40, kR183_41, kR183_42, kR183_43, kR183_44, kL184, kA184, kS184, kL185, kA185, kS185, kL186, kA186, kS186, kL187, kA187, kS187, kL188, kA188, kS188, kL189, kL190, kL191, kA191, kS191, kL192, kA192, kS192, kL193, kA193, kS193, kL194, kA194, kS194, kL195, kA195, kS195, kL196, kA196, kS196, kL197, kA197, kS197, kL198, kA198, kS198, kL199, kA199, kS199, kL200, kA200, kS200, kL201, kL202, kA202, kS202, kL203, kA203, kS203, kL204, kA204, kS204, kL205, kL206, kA206, kS206, xw_gI (slT hS (i := 2) (by decide)), this]; first | rfl | (rw [if_neg (by decide), ← nI_succ]; rfl))
    · simp only [f_X11_countFullSlots_b4]
      simp (disch := first | assumption | omega) only [Option.bind_some, Option.map_some, xw_gR, xw_gN, xw_al, xw_ck, xw_uI, xw_ur, xup_at, xur_at, if_true, if_false, reduceIte, and_true, true_and, and_false, false_and, not_true_eq_false, not_false_eq_true, Nat.reduceEqDiff, eq_self, Nat.reduceAdd, Nat.reduceMul, kC1, kG1, kP1, kR1_0, kR1_1, kR1_2, kR1_3, kR1_4, kR1_5, kR1_6, kR1_7, kR1_8, kR1_9, kR1_10, kR1_11, kR1_12, kR1_13, kC2, kG2, kP2, kR2_0, kR2_1, kC3, kG3, kP3, kR3_0, kR3_1, kR3_2, kR3_3, kL4, kA4, kS4, kL5, kA5, kS5, kL6, kA6, kS6, kL7, kA7, kS7, kC8, kG8, kP8, kR8_0, kR8_1, kL9, kA9, kS9, kL10, kA10, kS10, kC11, kG11, kP11, kR11_0, kR11_1, kR11_2, kR11_3, kL12, kA12, kS12, kL13, kA13, kS13, kL14, kA14, kS14, kL15, kA15, kS15, kC16, kG16, kP16, kR16_0, kR16_1, kL17, kA17, kS17, kL18, kA18, kS18, kC19, kG19, kP19, kR19_0, kL20, kL141, kL146, kA146, kS146, kL151, kA151, kS151, kL156, kA156, kS156, kC157, kG157, kP157, kR157_0, kR157_1, kL158, kA158, kS158, kL159, kA159, kS159, kC161, kG161, kP161, kR161_0, kR161_1, kL162, kA162, kS162, kL163, kA163, kS163, kC165, kG165, kP165, kR165_0, kR165_1, kR165_2, kR165_3, kL166, kA166, kS166, kL167, kA167, kS167, kL168, kA168, kS168, kL169, kA169, kS169, kC170, kG170, kP170, kR170_0, kR170_1, kR170_2, kL171, kA171, kS171, kL172, kA172, kS172, kL173, kA173, kS173, kC174, kG174, kP174, kR174_0, kR174_1, kR174_2, kR174_3, kR174_4, kL175, kA175, kS175, kL176, kA176, kS176, kL177, kA177, kS177, kL178, kA178, kS178, kL179, kC180, kG180, kP180, kL181, kL182, kA182, kS182, kC183, kG183, kP183, kR183_1, kR183_3, kR183_5, kR183_6, kR183_7, kR183_8, kR183_9, kR183_21, kR183_26, kR183_27, kR183_30, kR183_31, kR183_33, kR183_34, kR183_36, kR183_37, kR183_38, kR183_39, kR183_40, kR183_41, kR183_42, kR183_43, kR183_44, kL184, kA184, kS184, kL185, kA185, kS185, kL186, kA186, kS186, kL187, kA187, kS187, kL188, kA188, kS188, kL189, kL190, kL191, kA191, kS191, kL192, kA192, kS192, kL193, kA193, kS193, kL194, kA194, kS194, kL195, kA195, kS195, kL196, kA196, kS196, kL197, kA197, kS197, kL198, kA198, kS198, kL199, kA199, kS199, kL200, kA200, kS200, kL201, kL202, kA202, kS202, kL203, kA203, kS203, kL204, kA204, kS204, kL205, kL206, kA206, kS206, nn_le, Nat.le_refl]
  obtain ⟨r, hfw, few2⟩ := fewest12 (σ := σ) (I := xI σ) hS hG hF.symm ho
  have few1 := fewest11 (σ := τ) (I := xI τ) H1.shp hg hB hfw
  have A : f_X11_count σ 1 v = xsw v 0 [some (nI g.1, σ), some (nI g.2.1, σ), some (nI b, σ), some (nI (fb_ct (lW g F) (gSt g)), σ), some (nI p, σ), some (nI (fb_ct (fun t => (gTo g t).isSome) 32), σ), some (nI m, σ), some (nI q, σ), some (nI (f0 + f1 + f2), σ), some (F 65, σ), some (nI (fb_ct (lst g b) (gSz g)), σ), some (nI (mxC g b (gSz g)), σ), some (nI g.2.2, σ), some (nI r, τ), some (nI (fb_ct (fun i => decide (sqv g F i = 1)) (gSz g)), σ)] (some (-1, σ)) := by
    show f_X11_count (xw σ (xI σ)) 1 v = _
    have l1' : f_X11_breaksNow (xw σ (xI σ)) 1 = some (170, τ) := l1
    have e13 : f_X11_count_j192 τ 170 = some (nI r, τ) := by
      unfold f_X11_count_j192
      rw [xck_ok (sT170 H1.shp), Option.bind_some]
      have := few1
      rw [xw_self] at this
      rw [this]; rfl
    unfold f_X11_count
    simp (disch := first | assumption | omega) only [Option.bind_some, Option.map_some, xw_gR, xw_gN, xw_al, xw_ck, xw_uI, xw_ur, xup_at, xur_at, if_true, if_false, reduceIte, and_true, true_and, and_false, false_and, not_true_eq_false, not_false_eq_true, Nat.reduceEqDiff, eq_self, Nat.reduceAdd, Nat.reduceMul, kC1, kG1, kP1, kR1_0, kR1_1, kR1_2, kR1_3, kR1_4, kR1_5, kR1_6, kR1_7, kR1_8, kR1_9, kR1_10, kR1_11, kR1_12, kR1_13, kC2, kG2, kP2, kR2_0, kR2_1, kC3, kG3, kP3, kR3_0, kR3_1, kR3_2, kR3_3, kL4, kA4, kS4, kL5, kA5, kS5, kL6, kA6, kS6, kL7, kA7, kS7, kC8, kG8, kP8, kR8_0, kR8_1, kL9, kA9, kS9, kL10, kA10, kS10, kC11, kG11, kP11, kR11_0, kR11_1, kR11_2, kR11_3, kL12, kA12, kS12, kL13, kA13, kS13, kL14, kA14, kS14, kL15, kA15, kS15, kC16, kG16, kP16, kR16_0, kR16_1, kL17, kA17, kS17, kL18, kA18, kS18, kC19, kG19, kP19, kR19_0, kL20, kL141, kL146, kA146, kS146, kL151, kA151, kS151, kL156, kA156, kS156, kC157, kG157, kP157, kR157_0, kR157_1, kL158, kA158, kS158, kL159, kA159, kS159, kC161, kG161, kP161, kR161_0, kR161_1, kL162, kA162, kS162, kL163, kA163, kS163, kC165, kG165, kP165, kR165_0, kR165_1, kR165_2, kR165_3, kL166, kA166, kS166, kL167, kA167, kS167, kL168, kA168, kS168, kL169, kA169, kS169, kC170, kG170, kP170, kR170_0, kR170_1, kR170_2, kL171, kA171, kS171, kL172, kA172, kS172, kL173, kA173, kS173, kC174, kG174, kP174, kR174_0, kR174_1, kR174_2, kR174_3, kR174_4, kL175, kA175, kS175, kL176, kA176, kS176, kL177, kA177, kS177, kL178, kA178, kS178, kL179, kC180, kG180, kP180, kL181, kL182, kA182, kS182, kC183, kG183, kP183, kR183_1, kR183_3, kR183_5, kR183_6, kR183_7, kR183_8, kR183_9, kR183_21, kR183_26, kR183_27, kR183_30, kR183_31, kR183_33, kR183_34, kR183_36, kR183_37, kR183_38, kR183_39, kR183_40, kR183_41, kR183_42, kR183_43, kR183_44, kL184, kA184, kS184, kL185, kA185, kS185, kL186, kA186, kS186, kL187, kA187, kS187, kL188, kA188, kS188, kL189, kL190, kL191, kA191, kS191, kL192, kA192, kS192, kL193, kA193, kS193, kL194, kA194, kS194, kL195, kA195, kS195, kL196, kA196, kS196, kL197, kA197, kS197, kL198, kA198, kS198, kL199, kA199, kS199, kL200, kA200, kS200, kL201, kL202, kA202, kS202, kL203, kA203, kS203, kL204, kA204, kS204, kL205, kL206, kA206, kS206, hG.2.1, hG.2.2.1, hb4, countStates_ok hS hG ho hSR, e3, ties11_ok hS hG, t1, p2, fs1, e8, clusters11_ok hS hG hb, greatest11_ok hS hG hb, hG.2.2.2.1, l1', xnz_ok, e13, odds11_ok hS hG hSR]
    rfl
  have a0 : xaI (xw σ (xI σ)) 22 195 (0 : Int32) = some (nI f0) := by rw [← f03]; exact kA195 hS (i := 0) (by decide)
  have a1 : xaI (xw σ (xI σ)) 22 195 (1 : Int32) = some (nI f1) := by rw [← f13]; exact kA195 hS (i := 1) (by decide)
  have a2 : xaI (xw σ (xI σ)) 22 195 (2 : Int32) = some (nI f2) := by rw [← f23]; exact kA195 hS (i := 2) (by decide)
  have s8 : (if nI f0 = 0 then f_X12_count_j133 (xw σ (xI σ)) 183 (0 : Int32) else f_X12_count_j133 (xw σ (xI σ)) 183 (1 : Int32)) = some (nI (f0 + f1 + f2)) := by
    unfold f_X12_count_j133 f_X12_count_j147
    simp (disch := first | assumption | omega) only [Option.bind_some, Option.map_some, xw_gR, xw_gN, xw_al, xw_ck, xw_uI, xw_ur, xup_at, xur_at, if_true, if_false, reduceIte, and_true, true_and, and_false, false_and, not_true_eq_false, not_false_eq_true, Nat.reduceEqDiff, eq_self, Nat.reduceAdd, Nat.reduceMul, kC1, kG1, kP1, kR1_0, kR1_1, kR1_2, kR1_3, kR1_4, kR1_5, kR1_6, kR1_7, kR1_8, kR1_9, kR1_10, kR1_11, kR1_12, kR1_13, kC2, kG2, kP2, kR2_0, kR2_1, kC3, kG3, kP3, kR3_0, kR3_1, kR3_2, kR3_3, kL4, kA4, kS4, kL5, kA5, kS5, kL6, kA6, kS6, kL7, kA7, kS7, kC8, kG8, kP8, kR8_0, kR8_1, kL9, kA9, kS9, kL10, kA10, kS10, kC11, kG11, kP11, kR11_0, kR11_1, kR11_2, kR11_3, kL12, kA12, kS12, kL13, kA13, kS13, kL14, kA14, kS14, kL15, kA15, kS15, kC16, kG16, kP16, kR16_0, kR16_1, kL17, kA17, kS17, kL18, kA18, kS18, kC19, kG19, kP19, kR19_0, kL20, kL141, kL146, kA146, kS146, kL151, kA151, kS151, kL156, kA156, kS156, kC157, kG157, kP157, kR157_0, kR157_1, kL158, kA158, kS158, kL159, kA159, kS159, kC161, kG161, kP161, kR161_0, kR161_1, kL162, kA162, kS162, kL163, kA163, kS163, kC165, kG165, kP165, kR165_0, kR165_1, kR165_2, kR165_3, kL166, kA166, kS166, kL167, kA167, kS167, kL168, kA168, kS168, kL169, kA169, kS169, kC170, kG170, kP170, kR170_0, kR170_1, kR170_2, kL171, kA171, kS171, kL172, kA172, kS172, kL173, kA173, kS173, kC174, kG174, kP174, kR174_0, kR174_1, kR174_2, kR174_3, kR174_4, kL175, kA175, kS175, kL176, kA176, kS176, kL177, kA177, kS177, kL178, kA178, kS178, kL179, kC180, kG180, kP180, kL181, kL182, kA182, kS182, kC183, kG183, kP183, kR183_1, kR183_3, kR183_5, kR183_6, kR183_7, kR183_8, kR183_9, kR183_21, kR183_26, kR183_27, kR183_30, kR183_31, kR183_33, kR183_34, kR183_36, kR183_37, kR183_38, kR183_39, kR183_40, kR183_41, kR183_42, kR183_43, kR183_44, kL184, kA184, kS184, kL185, kA185, kS185, kL186, kA186, kS186, kL187, kA187, kS187, kL188, kA188, kS188, kL189, kL190, kL191, kA191, kS191, kL192, kA192, kS192, kL193, kA193, kS193, kL194, kA194, kS194, kL195, kA195, kS195, kL196, kA196, kS196, kL197, kA197, kS197, kL198, kA198, kS198, kL199, kA199, kS199, kL200, kA200, kS200, kL201, kL202, kA202, kS202, kL203, kA203, kS203, kL204, kA204, kS204, kL205, kL206, kA206, kS206, a1, a2]
    rcases (show f0 = 0 ∨ f0 = 1 by omega) with z | z <;> rcases (show f1 = 0 ∨ f1 = 1 by omega) with y | y <;> rcases (show f2 = 0 ∨ f2 = 1 by omega) with w | w <;> subst z y w <;> decide
  have s12 : (if nI (g.2.2 % 2) = 0 then f_X12_count_j194 (xw σ (xI σ)) 183 (0 : Int32) else f_X12_count_j194 (xw σ (xI σ)) 183 (1 : Int32)) = some (nI g.2.2) := by
    unfold f_X12_count_j194
    simp (disch := first | assumption | omega) only [Option.bind_some, Option.map_some, xw_gR, xw_gN, xw_al, xw_ck, xw_uI, xw_ur, xup_at, xur_at, if_true, if_false, reduceIte, and_true, true_and, and_false, false_and, not_true_eq_false, not_false_eq_true, Nat.reduceEqDiff, eq_self, Nat.reduceAdd, Nat.reduceMul, kC1, kG1, kP1, kR1_0, kR1_1, kR1_2, kR1_3, kR1_4, kR1_5, kR1_6, kR1_7, kR1_8, kR1_9, kR1_10, kR1_11, kR1_12, kR1_13, kC2, kG2, kP2, kR2_0, kR2_1, kC3, kG3, kP3, kR3_0, kR3_1, kR3_2, kR3_3, kL4, kA4, kS4, kL5, kA5, kS5, kL6, kA6, kS6, kL7, kA7, kS7, kC8, kG8, kP8, kR8_0, kR8_1, kL9, kA9, kS9, kL10, kA10, kS10, kC11, kG11, kP11, kR11_0, kR11_1, kR11_2, kR11_3, kL12, kA12, kS12, kL13, kA13, kS13, kL14, kA14, kS14, kL15, kA15, kS15, kC16, kG16, kP16, kR16_0, kR16_1, kL17, kA17, kS17, kL18, kA18, kS18, kC19, kG19, kP19, kR19_0, kL20, kL141, kL146, kA146, kS146, kL151, kA151, kS151, kL156, kA156, kS156, kC157, kG157, kP157, kR157_0, kR157_1, kL158, kA158, kS158, kL159, kA159, kS159, kC161, kG161, kP161, kR161_0, kR161_1, kL162, kA162, kS162, kL163, kA163, kS163, kC165, kG165, kP165, kR165_0, kR165_1, kR165_2, kR165_3, kL166, kA166, kS166, kL167, kA167, kS167, kL168, kA168, kS168, kL169, kA169, kS169, kC170, kG170, kP170, kR170_0, kR170_1, kR170_2, kL171, kA171, kS171, kL172, kA172, kS172, kL173, kA173, kS173, kC174, kG174, kP174, kR174_0, kR174_1, kR174_2, kR174_3, kR174_4, kL175, kA175, kS175, kL176, kA176, kS176, kL177, kA177, kS177, kL178, kA178, kS178, kL179, kC180, kG180, kP180, kL181, kL182, kA182, kS182, kC183, kG183, kP183, kR183_1, kR183_3, kR183_5, kR183_6, kR183_7, kR183_8, kR183_9, kR183_21, kR183_26, kR183_27, kR183_30, kR183_31, kR183_33, kR183_34, kR183_36, kR183_37, kR183_38, kR183_39, kR183_40, kR183_41, kR183_42, kR183_43, kR183_44, kL184, kA184, kS184, kL185, kA185, kS185, kL186, kA186, kS186, kL187, kA187, kS187, kL188, kA188, kS188, kL189, kL190, kL191, kA191, kS191, kL192, kA192, kS192, kL193, kA193, kS193, kL194, kA194, kS194, kL195, kA195, kS195, kL196, kA196, kS196, kL197, kA197, kS197, kL198, kA198, kS198, kL199, kA199, kS199, kL200, kA200, kS200, kL201, kL202, kA202, kS202, kL203, kA203, kS203, kL204, kA204, kS204, kL205, kL206, kA206, kS206, hG.2.2.2.2.2.2.2.2.2.2.2.1]
    rcases (show g.2.2 = 0 ∨ g.2.2 = 1 ∨ g.2.2 = 2 ∨ g.2.2 = 3 by omega) with z | z | z | z <;> rw [z] <;> decide
  have B : f_X12_count σ 183 v = xsw v 0 [some (nI g.1), some (nI g.2.1), some (nI b), some (nI (fb_ct (lW g F) (gSt g))), some (nI p), some (nI (fb_ct (fun t => (gTo g t).isSome) 32)), some (nI m), some (nI q), some (nI (f0 + f1 + f2)), some (F 65), some (nI (fb_ct (lst g b) (gSz g))), some (nI (mxC g b (gSz g))), some (nI g.2.2), some (nI r), some (nI (fb_ct (fun i => decide (sqv g F i = 1)) (gSz g)))] (some (-1)) := by
    show f_X12_count (xw σ (xI σ)) 183 v = _
    have h65 : xI σ 191 65 = F 65 := by rw [hF]
    unfold f_X12_count
    simp (disch := first | assumption | omega) only [Option.bind_some, Option.map_some, xw_gR, xw_gN, xw_al, xw_ck, xw_uI, xw_ur, xup_at, xur_at, if_true, if_false, reduceIte, and_true, true_and, and_false, false_and, not_true_eq_false, not_false_eq_true, Nat.reduceEqDiff, eq_self, Nat.reduceAdd, Nat.reduceMul, kC1, kG1, kP1, kR1_0, kR1_1, kR1_2, kR1_3, kR1_4, kR1_5, kR1_6, kR1_7, kR1_8, kR1_9, kR1_10, kR1_11, kR1_12, kR1_13, kC2, kG2, kP2, kR2_0, kR2_1, kC3, kG3, kP3, kR3_0, kR3_1, kR3_2, kR3_3, kL4, kA4, kS4, kL5, kA5, kS5, kL6, kA6, kS6, kL7, kA7, kS7, kC8, kG8, kP8, kR8_0, kR8_1, kL9, kA9, kS9, kL10, kA10, kS10, kC11, kG11, kP11, kR11_0, kR11_1, kR11_2, kR11_3, kL12, kA12, kS12, kL13, kA13, kS13, kL14, kA14, kS14, kL15, kA15, kS15, kC16, kG16, kP16, kR16_0, kR16_1, kL17, kA17, kS17, kL18, kA18, kS18, kC19, kG19, kP19, kR19_0, kL20, kL141, kL146, kA146, kS146, kL151, kA151, kS151, kL156, kA156, kS156, kC157, kG157, kP157, kR157_0, kR157_1, kL158, kA158, kS158, kL159, kA159, kS159, kC161, kG161, kP161, kR161_0, kR161_1, kL162, kA162, kS162, kL163, kA163, kS163, kC165, kG165, kP165, kR165_0, kR165_1, kR165_2, kR165_3, kL166, kA166, kS166, kL167, kA167, kS167, kL168, kA168, kS168, kL169, kA169, kS169, kC170, kG170, kP170, kR170_0, kR170_1, kR170_2, kL171, kA171, kS171, kL172, kA172, kS172, kL173, kA173, kS173, kC174, kG174, kP174, kR174_0, kR174_1, kR174_2, kR174_3, kR174_4, kL175, kA175, kS175, kL176, kA176, kS176, kL177, kA177, kS177, kL178, kA178, kS178, kL179, kC180, kG180, kP180, kL181, kL182, kA182, kS182, kC183, kG183, kP183, kR183_1, kR183_3, kR183_5, kR183_6, kR183_7, kR183_8, kR183_9, kR183_21, kR183_26, kR183_27, kR183_30, kR183_31, kR183_33, kR183_34, kR183_36, kR183_37, kR183_38, kR183_39, kR183_40, kR183_41, kR183_42, kR183_43, kR183_44, kL184, kA184, kS184, kL185, kA185, kS185, kL186, kA186, kS186, kL187, kA187, kS187, kL188, kA188, kS188, kL189, kL190, kL191, kA191, kS191, kL192, kA192, kS192, kL193, kA193, kS193, kL194, kA194, kS194, kL195, kA195, kS195, kL196, kA196, kS196, kL197, kA197, kS197, kL198, kA198, kS198, kL199, kA199, kS199, kL200, kA200, kS200, kL201, kL202, kA202, kS202, kL203, kA203, kS203, kL204, kA204, kS204, kL205, kL206, kA206, kS206, hG.2.2.2.2.2.2.2.2.1, hG.2.2.2.2.2.2.2.2.2.1, hG.2.2.2.2.2.2.2.2.2.2.1, show (64 : Int32) = nI 64 from rfl, h64, lawfulMany_ok hS hG hF.symm ho, pinned12_ok hS hG hF.symm ho e5, ties12_ok hS hG, t2, p4, a0, s8, show (65 : Int32) = nI 65 from rfl, h65, clusters12_ok hS hG h64 hb, greatest12_ok hS hG h64 hb, s12, few2, odds12_ok hS hG hF.symm]
  have Bτ : f_X12_count τ 183 (nI 13) = some (nI r) := by
    have rτ : xI τ 191 = F := by rw [hF]; funext k; exact fr 191 k (by omega)
    obtain ⟨r', hfw', few'⟩ := fewest12 (σ := τ) (I := xI τ) H1.shp H1.grd rτ ho
    have e1 := fewest11 (σ := τ) (I := xI τ) H1.shp hg hB hfw'
    rw [few1] at e1
    show f_X12_count (xw τ (xI τ)) 183 (nI 13) = _
    unfold f_X12_count
    rw [xsw_n (by decide)]
    show ((xck (xw τ (xI τ)) 183 12).bind fun _ => (f_X12_fewestBroken (xw τ (xI τ)) 183).bind fun v3 => some v3) = _
    rw [xw_ck, xck_ok (sT183 H1.shp), Option.bind_some, few', Option.bind_some]
    exact e1.symm
  rcases sw_c v 15 with ⟨w, hw, hw2, rfl⟩ | hd
  · rw [xsw_n hw2] at A B
    by_cases h13 : w = 13
    · subst h13
      exact ⟨_, _, A, Bτ, INV_i H1.nop⟩
    · rcases (show w = 0 ∨ w = 1 ∨ w = 2 ∨ w = 3 ∨ w = 4 ∨ w = 5 ∨ w = 6 ∨ w = 7 ∨ w = 8 ∨ w = 9 ∨ w = 10 ∨ w = 11 ∨ w = 12 ∨ w = 14 by omega) with rfl | rfl | rfl | rfl | rfl | rfl | rfl | rfl | rfl | rfl | rfl | rfl | rfl | rfl <;> exact ⟨_, _, A, B, INV_i H.nop⟩
  · exact ⟨_, _, A.trans (hd _ _ _ (Nat.le_refl 15)), B.trans (hd _ _ _ (Nat.le_refl 15)), INV_i H.nop⟩
end
section
/-! joined: in how many ways, of a held setup -/
def wyI (I : Nat → Nat → Int32) (W : Nat) (g : GD) (F : Nat → Int32) (d N s : Nat) : Nat → Nat → Int32 := fun c k => if c = W ∧ k < N then nI (fb_ct (lE g F ((k : Int) - (d : Int))) s) else I c k
theorem wyI_out {I : Nat → Nat → Int32} {W : Nat} {g : GD} {F : Nat → Int32} {d N s c k : Nat} (h : c ≠ W) : wyI I W g F d N s c k = I c k := by
  unfold wyI; rw [if_neg (fun z => h z.1)]
theorem wyI_no {I : Nat → Nat → Int32} {W : Nat} {g : GD} {F : Nat → Int32} {d N s : Nat} (h : lW g F s = false) : wyI I W g F d N (s + 1) = wyI I W g F d N s := by
  funext c k
  unfold wyI
  rw [fb_ct_succ]
  unfold lE
  rw [h]
  rfl
theorem wyI_yes {I : Nat → Nat → Int32} {W : Nat} {g : GD} {F : Nat → Int32} {d N s e : Nat} (h : lW g F s = true) (he : eE g (zR F) s = (e : Int) - (d : Int)) (he2 : e < N) : xup (wyI I W g F d N s) W e (nI (fb_ct (lE g F ((e : Int) - (d : Int))) s) + 1) = wyI I W g F d N (s + 1) := by
  funext c k
  simp only [xup_at, wyI]
  by_cases h1 : c = W
  · subst h1
    by_cases h2 : k = e
    · subst h2
      have e1 : fb_ct (lE g F ((k : Int) - (d : Int))) (s + 1) = fb_ct (lE g F ((k : Int) - (d : Int))) s + 1 := by
        rw [fb_ct_succ]
        unfold lE
        rw [h, he]; simp
      simp [he2, e1, nI_succ]
    · have e1 : fb_ct (lE g F ((k : Int) - (d : Int))) (s + 1) = fb_ct (lE g F ((k : Int) - (d : Int))) s := by
        rw [fb_ct_succ]
        have : lE g F ((k : Int) - (d : Int)) s = false := by
          unfold lE
          rw [h, he]
          have : ¬ ((e : Int) - (d : Int) = (k : Int) - (d : Int)) := by omega
          simp [this]
        rw [this]; simp
      simp [h2, e1]
  · simp [h1]
section HELD
variable {σ : XS} {I : Nat → Nat → Int32} {g : GD} {F : Nat → Int32} {c m : Nat}
theorem countWays_ok (hS : Shp σ) (hG : GRD I g) (ho : RO g F) (hE : EnO σ 161 c m) (hm : 2 ^ gSz g ≤ m) (hv : ∀ s, s < 2 ^ gSz g → I c s = iI (eE g (zR F) s)) {W a : Nat} (hW : σ.1 W = (20, 289)) (ha : a ∈ suA) (hSR : SR g I a F) (hWa : W < 160) (hWg : W ≠ 173 ∧ ¬ (11 ≤ W ∧ W ≤ 15)) (hWs : W ≠ a ∧ W ≠ a + 1 ∧ W ≠ a + 2) :
    f_X11_countWays (xw σ I) 1 W 161 a = some (xw σ (wyI I W g F 144 289 (gSt g))) := by
  have hg := hG.1
  have hSt := (gSt_b hg).1
  have hEb := hE.b
  have hWl : xal σ W = some (nI 289) := by
    rw [xal_ok (by unfold xT; rw [hW]; decide)]
    unfold xlen
    rw [hW]
  have e0 : xur I W (fun j => if j < 289 then 0 else I W j) = wyI I W g F 144 289 0 := by
    funext c k
    unfold xur wyI
    by_cases h : c = W
    · subst h
      by_cases h1 : k < 289
      · simp [h1]; rfl
      · simp [h1]
    · simp [h]
  have hSc : ∀ s, SR g (wyI I W g F 144 289 s) a F := fun s => SR_m hg (fun k _ _ => wyI_out (by omega)) (fun k _ => wyI_out (by omega)) (fun k _ => wyI_out (by omega)) (fun k _ => rfl) hSR
  unfold f_X11_countWays
  simp (disch := first | assumption | omega) only [Option.bind_some, Option.map_some, xw_gR, xw_gN, xw_al, xw_ck, xw_uI, xw_ur, xup_at, xur_at, if_true, if_false, reduceIte, and_true, true_and, and_false, false_and, not_true_eq_false, not_false_eq_true, Nat.reduceEqDiff, eq_self, Nat.reduceAdd, Nat.reduceMul, kC1, kG1, kP1, kR1_0, kR1_1, kR1_2, kR1_3, kR1_4, kR1_5, kR1_6, kR1_7, kR1_8, kR1_9, kR1_10, kR1_11, kR1_12, kR1_13, kC2, kG2, kP2, kR2_0, kR2_1, kC3, kG3, kP3, kR3_0, kR3_1, kR3_2, kR3_3, kL4, kA4, kS4, kL5, kA5, kS5, kL6, kA6, kS6, kL7, kA7, kS7, kC8, kG8, kP8, kR8_0, kR8_1, kL9, kA9, kS9, kL10, kA10, kS10, kC11, kG11, kP11, kR11_0, kR11_1, kR11_2, kR11_3, kL12, kA12, kS12, kL13, kA13, kS13, kL14, kA14, kS14, kL15, kA15, kS15, kC16, kG16, kP16, kR16_0, kR16_1, kL17, kA17, kS17, kL18, kA18, kS18, kC19, kG19, kP19, kR19_0, kL20, kL141, kL146, kA146, kS146, kL151, kA151, kS151, kL156, kA156, kS156, kC157, kG157, kP157, kR157_0, kR157_1, kL158, kA158, kS158, kL159, kA159, kS159, kC161, kG161, kP161, kR161_0, kR161_1, kL162, kA162, kS162, kL163, kA163, kS163, kC165, kG165, kP165, kR165_0, kR165_1, kR165_2, kR165_3, kL166, kA166, kS166, kL167, kA167, kS167, kL168, kA168, kS168, kL169, kA169, kS169, kC170, kG170, kP170, kR170_0, kR170_1, kR170_2, kL171, kA171, kS171, kL172, kA172, kS172, kL173, kA173, kS173, kC174, kG174, kP174, kR174_0, kR174_1, kR174_2, kR174_3, kR174_4, kL175, kA175, kS175, kL176, kA176, kS176, kL177, kA177, kS177, kL178, kA178, kS178, kL179, kC180, kG180, kP180, kL181, kL182, kA182, kS182, kC183, kG183, kP183, kR183_1, kR183_3, kR183_5, kR183_6, kR183_7, kR183_8, kR183_9, kR183_21, kR183_26, kR183_27, kR183_30, kR183_31, kR183_33, kR183_34, kR183_36, kR183_37, kR183_38, kR183_39, kR183_40, kR183_41, kR183_42, kR183_43, kR183_44, kL184, kA184, kS184, kL185, kA185, kS185, kL186, kA186, kS186, kL187, kA187, kS187, kL188, kA188, kS188, kL189, kL190, kL191, kA191, kS191, kL192, kA192, kS192, kL193, kA193, kS193, kL194, kA194, kS194, kL195, kA195, kS195, kL196, kA196, kS196, kL197, kA197, kS197, kL198, kA198, kS198, kL199, kA199, kS199, kL200, kA200, kS200, kL201, kL202, kA202, kS202, kL203, kA203, kS203, kL204, kA204, kS204, kL205, kL206, kA206, kS206, states11_ok hS hG, fillI_ok hW, e0]
  refine xforE (fun s : Nat => (nI s, xw σ (wyI I W g F 144 289 s))) (gSt g) rfl (fun s hs => ?_) ?_
  · have hs2 := (gSt_pos hs).2
    have hof : f_X2_of (xw σ (wyI I W g F 144 289 s)) 161 (nI s) = some (iI (eE g (zR F) s)) := by
      rw [of_at hS hE (by omega), wyI_out (by omega), hv s hs2]
    have hbE := eE_b hg ho s
    obtain ⟨e, he, he2⟩ : ∃ e : Nat, eE g (zR F) s = (e : Int) - 144 ∧ e < 289 := ⟨(eE g (zR F) s + 144).toNat, by omega, by omega⟩
    have e144' : iI (eE g (zR F) s) + (144 : Int32) = nI e := by rw [he]; exact e144 e
    have kv : wyI I W g F 144 289 s W e = nI (fb_ct (lE g F ((e : Int) - 144)) s) := by unfold wyI; rw [if_pos ⟨rfl, he2⟩]; rfl
    simp only [f_X11_countWays_b17]
    rw [if_neg (by rw [nn_le (by omega) (by omega)]; omega)]
    simp (disch := first | assumption | omega) only [Option.bind_some, Option.map_some, xw_gR, xw_gN, xw_al, xw_ck, xw_uI, xw_ur, xup_at, xur_at, if_true, if_false, reduceIte, and_true, true_and, and_false, false_and, not_true_eq_false, not_false_eq_true, Nat.reduceEqDiff, eq_self, Nat.reduceAdd, Nat.reduceMul, kC1, kG1, kP1, kR1_0, kR1_1, kR1_2, kR1_3, kR1_4, kR1_5, kR1_6, kR1_7, kR1_8, kR1_9, kR1_10, kR1_11, kR1_12, kR1_13, kC2, kG2, kP2, kR2_0, kR2_1, kC3, kG3, kP3, kR3_0, kR3_1, kR3_2, kR3_3, kL4, kA4, kS4, kL5, kA5, kS5, kL6, kA6, kS6, kL7, kA7, kS7, kC8, kG8, kP8, kR8_0, kR8_1, kL9, kA9, kS9, kL10, kA10, kS10, kC11, kG11, kP11, kR11_0, kR11_1, kR11_2, kR11_3, kL12, kA12, kS12, kL13, kA13, kS13, kL14, kA14, kS14, kL15, kA15, kS15, kC16, kG16, kP16, kR16_0, kR16_1, kL17, kA17, kS17, kL18, kA18, kS18, kC19, kG19, kP19, kR19_0, kL20, kL141, kL146, kA146, kS146, kL151, kA151, kS151, kL156, kA156, kS156, kC157, kG157, kP157, kR157_0, kR157_1, kL158, kA158, kS158, kL159, kA159, kS159, kC161, kG161, kP161, kR161_0, kR161_1, kL162, kA162, kS162, kL163, kA163, kS163, kC165, kG165, kP165, kR165_0, kR165_1, kR165_2, kR165_3, kL166, kA166, kS166, kL167, kA167, kS167, kL168, kA168, kS168, kL169, kA169, kS169, kC170, kG170, kP170, kR170_0, kR170_1, kR170_2, kL171, kA171, kS171, kL172, kA172, kS172, kL173, kA173, kS173, kC174, kG174, kP174, kR174_0, kR174_1, kR174_2, kR174_3, kR174_4, kL175, kA175, kS175, kL176, kA176, kS176, kL177, kA177, kS177, kL178, kA178, kS178, kL179, kC180, kG180, kP180, kL181, kL182, kA182, kS182, kC183, kG183, kP183, kR183_1, kR183_3, kR183_5, kR183_6, kR183_7, kR183_8, kR183_9, kR183_21, kR183_26, kR183_27, kR183_30, kR183_31, kR183_33, kR183_34, kR183_36, kR183_37, kR183_38, kR183_39, kR183_40, kR183_41, kR183_42, kR183_43, kR183_44, kL184, kA184, kS184, kL185, kA185, kS185, kL186, kA186, kS186, kL187, kA187, kS187, kL188, kA188, kS188, kL189, kL190, kL191, kA191, kS191, kL192, kA192, kS192, kL193, kA193, kS193, kL194, kA194, kS194, kL195, kA195, kS195, kL196, kA196, kS196, kL197, kA197, kS197, kL198, kA198, kS198, kL199, kA199, kS199, kL200, kA200, kS200, kL201, kL202, kA202, kS202, kL203, kA203, kS203, kL204, kA204, kS204, kL205, kL206, kA206, kS206, hof, suC hS ha, allows_ok hS hg ha (hSc s), e144', nn_nneg, hWl, nn_le, show ¬ (289 ≤ e) by omega, xw_aI hW he2 (by decide), xw_sI hW he2 (by decide), kv]
    rw [← nI_succ]
    cases hl : lW g F s with
    | false => rw [if_pos (by decide), wyI_no hl]
    | true =>
      rw [if_neg (by decide)]
      have := wyI_yes (I := I) (W := W) (d := 144) hl he he2
      rw [nI_succ]
      rw [← this]
      rfl
  · simp only [f_X11_countWays_b17]
    rw [if_pos (by rw [nn_le (by omega) (by omega)]; exact Nat.le_refl _)]
    rfl
theorem laysMany_ok (hS : Shp σ) (hG : GRD I g) (ho : RO g F) (hr : I 199 = F) : f_X12_laysMany (xw σ I) 183 199 200 = some (xw σ (wyI I 200 g F 150 301 (gSt g))) := by
  have hg := hG.1
  have h16 := (gAll_b g hg).2.2.1
  have hSt := (gSt_b hg).1
  have K199 : σ.1 199 = (20, 66) := xw_K hS (by decide) (by decide) (by decide)
  unfold f_X12_laysMany
  refine xforE (fun j : Nat => (nI j, xw σ (fun c k => if c = 200 ∧ k < j then nI 0 else I c k))) 301 ?_ (fun j hj => ?_) ?_
  · congr 2
    funext c k
    rw [if_neg (by omega)]
  · simp only [f_X12_laysMany_b2]
    rw [if_neg (by rw [show (301 : Int32) = nI 301 from rfl, nn_le (by omega) (by omega)]; omega)]
    simp (disch := first | assumption | omega) only [Option.bind_some, Option.map_some, xw_gR, xw_gN, xw_al, xw_ck, xw_uI, xw_ur, xup_at, xur_at, if_true, if_false, reduceIte, and_true, true_and, and_false, false_and, not_true_eq_false, not_false_eq_true, Nat.reduceEqDiff, eq_self, Nat.reduceAdd, Nat.reduceMul, kC1, kG1, kP1, kR1_0, kR1_1, kR1_2, kR1_3, kR1_4, kR1_5, kR1_6, kR1_7, kR1_8, kR1_9, kR1_10, kR1_11, kR1_12, kR1_13, kC2, kG2, kP2, kR2_0, kR2_1, kC3, kG3, kP3, kR3_0, kR3_1, kR3_2, kR3_3, kL4, kA4, kS4, kL5, kA5, kS5, kL6, kA6, kS6, kL7, kA7, kS7, kC8, kG8, kP8, kR8_0, kR8_1, kL9, kA9, kS9, kL10, kA10, kS10, kC11, kG11, kP11, kR11_0, kR11_1, kR11_2, kR11_3, kL12, kA12, kS12, kL13, kA13, kS13, kL14, kA14, kS14, kL15, kA15, kS15, kC16, kG16, kP16, kR16_0, kR16_1, kL17, kA17, kS17, kL18, kA18, kS18, kC19, kG19, kP19, kR19_0, kL20, kL141, kL146, kA146, kS146, kL151, kA151, kS151, kL156, kA156, kS156, kC157, kG157, kP157, kR157_0, kR157_1, kL158, kA158, kS158, kL159, kA159, kS159, kC161, kG161, kP161, kR161_0, kR161_1, kL162, kA162, kS162, kL163, kA163, kS163, kC165, kG165, kP165, kR165_0, kR165_1, kR165_2, kR165_3, kL166, kA166, kS166, kL167, kA167, kS167, kL168, kA168, kS168, kL169, kA169, kS169, kC170, kG170, kP170, kR170_0, kR170_1, kR170_2, kL171, kA171, kS171, kL172, kA172, kS172, kL173, kA173, kS173, kC174, kG174, kP174, kR174_0, kR174_1, kR174_2, kR174_3, kR174_4, kL175, kA175, kS175, kL176, kA176, kS176, kL177, kA177, kS177, kL178, kA178, kS178, kL179, kC180, kG180, kP180, kL181, kL182, kA182, kS182, kC183, kG183, kP183, kR183_1, kR183_3, kR183_5, kR183_6, kR183_7, kR183_8, kR183_9, kR183_21, kR183_26, kR183_27, kR183_30, kR183_31, kR183_33, kR183_34, kR183_36, kR183_37, kR183_38, kR183_39, kR183_40, kR183_41, kR183_42, kR183_43, kR183_44, kL184, kA184, kS184, kL185, kA185, kS185, kL186, kA186, kS186, kL187, kA187, kS187, kL188, kA188, kS188, kL189, kL190, kL191, kA191, kS191, kL192, kA192, kS192, kL193, kA193, kS193, kL194, kA194, kS194, kL195, kA195, kS195, kL196, kA196, kS196, kL197, kA197, kS197, kL198, kA198, kS198, kL199, kA199, kS199, kL200, kA200, kS200, kL201, kL202, kA202, kS202, kL203, kA203, kS203, kL204, kA204, kS204, kL205, kL206, kA206, kS206]
    rw [nI_succ]
    congr 4
    funext c k
    simp only [xup_at]
    by_cases q : c = 200
    · subst q
      by_cases q2 : k = j
      · subst q2; simp; rfl
      · have : (k < j + 1) ↔ (k < j) := by omega
        simp [q2, this]
    · simp [q]
  · simp only [f_X12_laysMany_b2]
    rw [if_pos (by decide)]
    have e : (fun c k => if c = 200 ∧ k < 301 then nI 0 else I c k) = wyI I 200 g F 150 301 0 := by
      funext c k
      unfold wyI
      rfl
    rw [e]
    have hGc : ∀ s, GRD (wyI I 200 g F 150 301 s) g := fun s => GRD_c (fun a k z => wyI_out (by unfold sGRD at z; omega)) hG
    have key : xloop (f_X12_laysMany_b21 183 199 200) ((0 : Int32), xw σ (wyI I 200 g F 150 301 0)) = some (xw σ (wyI I 200 g F 150 301 (gSt g))) := by
      refine xforE (fun s : Nat => (nI s, xw σ (wyI I 200 g F 150 301 s))) (gSt g) rfl (fun s hs => ?_) ?_
      · have hrow : wyI I 200 g F 150 301 s 199 = F := by rw [← hr]; funext k; exact wyI_out (by decide)
        have hlb := lawfulBy_ok (σ := σ) (I := wyI I 200 g F 150 301 s) (a := 199) (s := s) (k := gSz g) hS K199 (by omega) h16 (fun i hi => by rw [hrow]; exact (ho.2.1 i (by omega)).1)
        rw [hrow] at hlb
        have hen := energy12_ok (σ := σ) (I := wyI I 200 g F 150 301 s) (a := 199) (s := s) (r := g.2.1) hS (hGc s) K199 (by omega) (Nat.le_refl _)
        rw [hrow] at hen
        have hpa := eP_all hg (zR F) s
        unfold gSz at hpa
        rw [hpa] at hen
        have hbE := eE_b hg ho s
        obtain ⟨e, he, he2⟩ : ∃ e : Nat, eE g (zR F) s = (e : Int) - 150 ∧ e < 301 := ⟨(eE g (zR F) s + 150).toNat, by omega, by omega⟩
        have e150' : (150 : Int32) + iI (eE g (zR F) s) = nI e := by rw [show (150 : Int32) = iI 150 from rfl, iI_add, iI_n]; congr 1; omega
        have kv : wyI I 200 g F 150 301 s 200 e = nI (fb_ct (lE g F ((e : Int) - 150)) s) := by unfold wyI; rw [if_pos ⟨rfl, he2⟩]; rfl
        simp only [f_X12_laysMany_b21]
        simp (disch := first | assumption | omega) only [Option.bind_some, Option.map_some, xw_gR, xw_gN, xw_al, xw_ck, xw_uI, xw_ur, xup_at, xur_at, if_true, if_false, reduceIte, and_true, true_and, and_false, false_and, not_true_eq_false, not_false_eq_true, Nat.reduceEqDiff, eq_self, Nat.reduceAdd, Nat.reduceMul, kC1, kG1, kP1, kR1_0, kR1_1, kR1_2, kR1_3, kR1_4, kR1_5, kR1_6, kR1_7, kR1_8, kR1_9, kR1_10, kR1_11, kR1_12, kR1_13, kC2, kG2, kP2, kR2_0, kR2_1, kC3, kG3, kP3, kR3_0, kR3_1, kR3_2, kR3_3, kL4, kA4, kS4, kL5, kA5, kS5, kL6, kA6, kS6, kL7, kA7, kS7, kC8, kG8, kP8, kR8_0, kR8_1, kL9, kA9, kS9, kL10, kA10, kS10, kC11, kG11, kP11, kR11_0, kR11_1, kR11_2, kR11_3, kL12, kA12, kS12, kL13, kA13, kS13, kL14, kA14, kS14, kL15, kA15, kS15, kC16, kG16, kP16, kR16_0, kR16_1, kL17, kA17, kS17, kL18, kA18, kS18, kC19, kG19, kP19, kR19_0, kL20, kL141, kL146, kA146, kS146, kL151, kA151, kS151, kL156, kA156, kS156, kC157, kG157, kP157, kR157_0, kR157_1, kL158, kA158, kS158, kL159, kA159, kS159, kC161, kG161, kP161, kR161_0, kR161_1, kL162, kA162, kS162, kL163, kA163, kS163, kC165, kG165, kP165, kR165_0, kR165_1, kR165_2, kR165_3, kL166, kA166, kS166, kL167, kA167, kS167, kL168, kA168, kS168, kL169, kA169, kS169, kC170, kG170, kP170, kR170_0, kR170_1, kR170_2, kL171, kA171, kS171, kL172, kA172, kS172, kL173, kA173, kS173, kC174, kG174, kP174, kR174_0, kR174_1, kR174_2, kR174_3, kR174_4, kL175, kA175, kS175, kL176, kA176, kS176, kL177, kA177, kS177, kL178, kA178, kS178, kL179, kC180, kG180, kP180, kL181, kL182, kA182, kS182, kC183, kG183, kP183, kR183_1, kR183_3, kR183_5, kR183_6, kR183_7, kR183_8, kR183_9, kR183_21, kR183_26, kR183_27, kR183_30, kR183_31, kR183_33, kR183_34, kR183_36, kR183_37, kR183_38, kR183_39, kR183_40, kR183_41, kR183_42, kR183_43, kR183_44, kL184, kA184, kS184, kL185, kA185, kS185, kL186, kA186, kS186, kL187, kA187, kS187, kL188, kA188, kS188, kL189, kL190, kL191, kA191, kS191, kL192, kA192, kS192, kL193, kA193, kS193, kL194, kA194, kS194, kL195, kA195, kS195, kL196, kA196, kS196, kL197, kA197, kS197, kL198, kA198, kS198, kL199, kA199, kS199, kL200, kA200, kS200, kL201, kL202, kA202, kS202, kL203, kA203, kS203, kL204, kA204, kS204, kL205, kL206, kA206, kS206, states12_ok hS (hGc s), nn_le, show ¬ (gSt g ≤ s) by omega, sites_ok hS (hGc s), hlb, (hGc s).2.2.2.2.2.2.2.2.2.1, hen, e150', kv]
        rw [← nI_succ]
        show (if (if lW g F s = true then (1 : Int32) else 0) = 0 then _ else _) = _
        cases hl : lW g F s with
        | false => rw [if_pos (by decide), wyI_no hl]
        | true =>
          rw [if_neg (by decide)]
          have := wyI_yes (I := I) (W := 200) (d := 150) hl he he2
          rw [nI_succ]
          rw [← this]
          rfl
      · simp only [f_X12_laysMany_b21]
        simp (disch := first | assumption | omega) only [Option.bind_some, Option.map_some, xw_gR, xw_gN, xw_al, xw_ck, xw_uI, xw_ur, xup_at, xur_at, if_true, if_false, reduceIte, and_true, true_and, and_false, false_and, not_true_eq_false, not_false_eq_true, Nat.reduceEqDiff, eq_self, Nat.reduceAdd, Nat.reduceMul, kC1, kG1, kP1, kR1_0, kR1_1, kR1_2, kR1_3, kR1_4, kR1_5, kR1_6, kR1_7, kR1_8, kR1_9, kR1_10, kR1_11, kR1_12, kR1_13, kC2, kG2, kP2, kR2_0, kR2_1, kC3, kG3, kP3, kR3_0, kR3_1, kR3_2, kR3_3, kL4, kA4, kS4, kL5, kA5, kS5, kL6, kA6, kS6, kL7, kA7, kS7, kC8, kG8, kP8, kR8_0, kR8_1, kL9, kA9, kS9, kL10, kA10, kS10, kC11, kG11, kP11, kR11_0, kR11_1, kR11_2, kR11_3, kL12, kA12, kS12, kL13, kA13, kS13, kL14, kA14, kS14, kL15, kA15, kS15, kC16, kG16, kP16, kR16_0, kR16_1, kL17, kA17, kS17, kL18, kA18, kS18, kC19, kG19, kP19, kR19_0, kL20, kL141, kL146, kA146, kS146, kL151, kA151, kS151, kL156, kA156, kS156, kC157, kG157, kP157, kR157_0, kR157_1, kL158, kA158, kS158, kL159, kA159, kS159, kC161, kG161, kP161, kR161_0, kR161_1, kL162, kA162, kS162, kL163, kA163, kS163, kC165, kG165, kP165, kR165_0, kR165_1, kR165_2, kR165_3, kL166, kA166, kS166, kL167, kA167, kS167, kL168, kA168, kS168, kL169, kA169, kS169, kC170, kG170, kP170, kR170_0, kR170_1, kR170_2, kL171, kA171, kS171, kL172, kA172, kS172, kL173, kA173, kS173, kC174, kG174, kP174, kR174_0, kR174_1, kR174_2, kR174_3, kR174_4, kL175, kA175, kS175, kL176, kA176, kS176, kL177, kA177, kS177, kL178, kA178, kS178, kL179, kC180, kG180, kP180, kL181, kL182, kA182, kS182, kC183, kG183, kP183, kR183_1, kR183_3, kR183_5, kR183_6, kR183_7, kR183_8, kR183_9, kR183_21, kR183_26, kR183_27, kR183_30, kR183_31, kR183_33, kR183_34, kR183_36, kR183_37, kR183_38, kR183_39, kR183_40, kR183_41, kR183_42, kR183_43, kR183_44, kL184, kA184, kS184, kL185, kA185, kS185, kL186, kA186, kS186, kL187, kA187, kS187, kL188, kA188, kS188, kL189, kL190, kL191, kA191, kS191, kL192, kA192, kS192, kL193, kA193, kS193, kL194, kA194, kS194, kL195, kA195, kS195, kL196, kA196, kS196, kL197, kA197, kS197, kL198, kA198, kS198, kL199, kA199, kS199, kL200, kA200, kS200, kL201, kL202, kA202, kS202, kL203, kA203, kS203, kL204, kA204, kS204, kL205, kL206, kA206, kS206, states12_ok hS (hGc (gSt g)), nn_le, Nat.le_refl]
    rw [key]
    rfl
end HELD
end
section
/-! the ways of a held setup, kept -/
theorem heldWays_ok {n : Nat} {σ : XS} {g : GD} {gT gP : GH} {st i : Nat} (H : IV n σ g gT gP st) (hi : i < 3) (hfull : xI σ (142 + 5 * i) 2 = nI 1) : ∃ τ, f_X11_heldWays σ 1 (142 + 5 * i) = some (146 + 5 * i, τ) ∧ IV n τ g gT gP st ∧ WAY (xI τ) (146 + 5 * i) g (fun k => xI σ 194 (66 * i + k)) ∧ (∀ a k, (a < 142 ∨ (157 ≤ a ∧ a ≤ 160) ∨ (165 ≤ a ∧ a ≤ 169) ∨ (173 ≤ a ∧ a ≤ 206)) → xI τ a k = xI σ a k) ∧ RO g (fun k => xI σ 194 (66 * i + k)) := by
  have hS := H.shp
  have hG := H.grd
  have hg := hG.1
  have h16 := (gAll_b g hg).2.2.1
  obtain ⟨f, cc, s1, s2, s3, s4, s5, s6, s7⟩ := H.slt i hi
  have hf1 : f = 1 := by
    rw [s3, nn_eq (by omega) (by omega)] at hfull; exact hfull
  subst hf1
  obtain ⟨F, hF⟩ : ∃ F, F = fun k => xI σ 194 (66 * i + k) := ⟨_, rfl⟩
  have hLV := s6 rfl
  rw [← hF] at hLV ⊢
  have hSR := hLV.1
  have ho := hLV.2.1
  by_cases hc : cc = 1
  · subst hc
    refine ⟨σ, ?_, H, ?_, fun _ _ _ => rfl, ho⟩
    · show f_X11_heldWays (xw σ (xI σ)) 1 (142 + 5 * i) = _
      unfold f_X11_heldWays
      rw [slG hS hi, Option.bind_some, s5, if_neg (by decide), xw_gR, slR1 hS hi, Option.bind_some, xnz_ok (by omega)]
      rfl
    · have := s7 rfl rfl
      rw [hF]; exact this
  · have hc0 : cc = 0 := by omega
    subst hc0
    obtain ⟨c, b, hE, hb, hcn⟩ := H.en161
    have hEb := hE.b
    have hf := SR_fill hg hSR ho
    have K1 := suK1 hS (suA_s hi)
    have K2 := suK2 hS (suA_s hi)
    obtain ⟨τ, e1, hτ⟩ := fill11_ok (I := xI σ) (k := gSz g) hS hG hE hb hcn K1 K2 (by omega) (by omega) (by omega) (by omega) (by omega) (by omega) (Nat.le_refl _) hf.1 hf.2
    have HA := H.aside hE (fun a k h => rfl) hτ
    obtain ⟨hτS, ⟨c', b', hE', q1, q2, q3, q4, q5, q6, q7, q8, q9⟩, q10, q11, q12, q13⟩ := hτ
    have hEb' := hE'.b
    have h206 := hS.1
    have fr : ∀ a k, (a < 161 ∨ (165 ≤ a ∧ a ≤ 206)) → xI τ a k = xI σ a k := fun a k h => q9 a k (by omega) (by omega) (by omega)
    have hSRτ : SR g (xI τ) (143 + 5 * i) F := SR_m hg (fun k _ _ => fr _ k (by omega)) (fun k _ => fr _ k (by omega)) (fun k _ => fr _ k (by omega)) (fun k _ => rfl) hSR
    have KW : τ.1 (146 + 5 * i) = (20, 289) := by rw [xw_K hτS (by omega) (by omega) (by omega), (slK i hi).2.1]
    have cw := countWays_ok (σ := τ) (I := xI τ) (W := 146 + 5 * i) (a := 143 + 5 * i) hτS HA.grd ho hE' (Nat.pow_le_pow_right (by decide) q3) (fun s hs => by rw [q8 s hs, eP_all hg]) KW (suA_s hi) hSRτ (by omega) (by omega) (by omega)
    obtain ⟨Q, hQ⟩ : ∃ Q, Q = xup (wyI (xI τ) (146 + 5 * i) g F 144 289 (gSt g)) (142 + 5 * i) 3 1 := ⟨_, rfl⟩
    have uQ : ∀ a k, a ≠ 146 + 5 * i → ¬ (a = 142 + 5 * i ∧ k = 3) → Q a k = xI τ a k := fun a k h1 h2 => by rw [hQ, xup_at, if_neg h2, wyI_out h1]
    have hWay : WAY Q (146 + 5 * i) g F := fun k hk => by
      rw [hQ, xup_at, if_neg (by omega)]
      unfold wyI
      rw [if_pos ⟨rfl, hk⟩]
      rfl
    have hcells := HA.cells
    refine ⟨xw τ Q, ?_, ?_, hWay, fun a k h => ?_, ho⟩
    · show f_X11_heldWays (xw σ (xI σ)) 1 (142 + 5 * i) = _
      unfold f_X11_heldWays
      simp (disch := first | assumption | omega) only [Option.bind_some, Option.map_some, xw_gR, xw_gN, xw_al, xw_ck, xw_uI, xw_ur, xup_at, xur_at, if_true, if_false, reduceIte, and_true, true_and, and_false, false_and, not_true_eq_false, not_false_eq_true, Nat.reduceEqDiff, eq_self, Nat.reduceAdd, Nat.reduceMul, kC1, kG1, kP1, kR1_0, kR1_1, kR1_2, kR1_3, kR1_4, kR1_5, kR1_6, kR1_7, kR1_8, kR1_9, kR1_10, kR1_11, kR1_12, kR1_13, kC2, kG2, kP2, kR2_0, kR2_1, kC3, kG3, kP3, kR3_0, kR3_1, kR3_2, kR3_3, kL4, kA4, kS4, kL5, kA5, kS5, kL6, kA6, kS6, kL7, kA7, kS7, kC8, kG8, kP8, kR8_0, kR8_1, kL9, kA9, kS9, kL10, kA10, kS10, kC11, kG11, kP11, kR11_0, kR11_1, kR11_2, kR11_3, kL12, kA12, kS12, kL13, kA13, kS13, kL14, kA14, kS14, kL15, kA15, kS15, kC16, kG16, kP16, kR16_0, kR16_1, kL17, kA17, kS17, kL18, kA18, kS18, kC19, kG19, kP19, kR19_0, kL20, kL141, kL146, kA146, kS146, kL151, kA151, kS151, kL156, kA156, kS156, kC157, kG157, kP157, kR157_0, kR157_1, kL158, kA158, kS158, kL159, kA159, kS159, kC161, kG161, kP161, kR161_0, kR161_1, kL162, kA162, kS162, kL163, kA163, kS163, kC165, kG165, kP165, kR165_0, kR165_1, kR165_2, kR165_3, kL166, kA166, kS166, kL167, kA167, kS167, kL168, kA168, kS168, kL169, kA169, kS169, kC170, kG170, kP170, kR170_0, kR170_1, kR170_2, kL171, kA171, kS171, kL172, kA172, kS172, kL173, kA173, kS173, kC174, kG174, kP174, kR174_0, kR174_1, kR174_2, kR174_3, kR174_4, kL175, kA175, kS175, kL176, kA176, kS176, kL177, kA177, kS177, kL178, kA178, kS178, kL179, kC180, kG180, kP180, kL181, kL182, kA182, kS182, kC183, kG183, kP183, kR183_1, kR183_3, kR183_5, kR183_6, kR183_7, kR183_8, kR183_9, kR183_21, kR183_26, kR183_27, kR183_30, kR183_31, kR183_33, kR183_34, kR183_36, kR183_37, kR183_38, kR183_39, kR183_40, kR183_41, kR183_42, kR183_43, kR183_44, kL184, kA184, kS184, kL185, kA185, kS185, kL186, kA186, kS186, kL187, kA187, kS187, kL188, kA188, kS188, kL189, kL190, kL191, kA191, kS191, kL192, kA192, kS192, kL193, kA193, kS193, kL194, kA194, kS194, kL195, kA195, kS195, kL196, kA196, kS196, kL197, kA197, kS197, kL198, kA198, kS198, kL199, kA199, kS199, kL200, kA200, kS200, kL201, kL202, kA202, kS202, kL203, kA203, kS203, kL204, kA204, kS204, kL205, kL206, kA206, kS206, slG hS hi, s5, n00, slR0 hS hi, suR0 hS (suA_s hi), suR1 hS (suA_s hi), hG.2.2.2.2.1, e1]
      show f_X11_heldWays_j39 (xw τ (xI τ)) 1 (142 + 5 * i) = _
      unfold f_X11_heldWays_j39
      rw [xw_gR, slR1 hτS hi, Option.bind_some, xw_gR, kR1_7 hτS, Option.bind_some, xw_gR, slR0 hτS hi, Option.bind_some, xw_ck, kC1 hτS, Option.bind_some, cw, Option.bind_some, slP hτS hi, Option.bind_some, ← hQ, xw_gR, slR1 hτS hi, Option.bind_some, xnz_ok (by omega)]
      rfl
    · refine ⟨hτS, HA.stn, (uQ 1 15 (by omega) (by omega)).trans HA.sts, TAP_c (fun a k z => uQ a k (by unfold sTAP at z; omega) (by unfold sTAP at z; omega)) HA.tap, ?_, GRD_c (fun a k z => uQ a k (by unfold sGRD at z; omega) (by unfold sGRD at z; omega)) HA.grd, NOW_c hg (fun a k z => uQ a k (by unfold sNOW at z; omega) (by unfold sNOW at z; omega)) HA.now, PST_c hg (fun a k z => uQ a k (by unfold sPST at z; omega) (by unfold sPST at z; omega)) (Nat.le_refl _) (fun _ _ => rfl) (fun _ _ => rfl) HA.pst, ?_, CCH_c (fun a k z => by unfold sCCH at z; rw [xw_R] at z; exact uQ a k (by omega) (by omega)) (Nat.le_refl _) (fun _ _ => rfl) (fun _ _ => rfl) HA.cch, KNW_c hg (fun a k z => uQ a k (by unfold sKNW at z; omega) (by unfold sKNW at z; omega)) HA.knw, HA.cel⟩
      · show Q 1 14 = Q 183 16
        rw [uQ _ _ (by omega) (by omega), uQ _ _ (by omega) (by omega)]; exact HA.plc
      · intro j hj
        obtain ⟨f', c'', r1, r2, r3, r4, r5, r6, r7⟩ := HA.slt j hj
        rw [xw_I]
        by_cases hji : j = i
        · subst hji
          refine ⟨f', 1, r1, by decide, by rw [uQ _ _ (by omega) (by omega)]; exact r3, by rw [uQ _ _ (by omega) (by omega)]; exact r4, by rw [hQ, xup_at, if_pos ⟨rfl, rfl⟩]; rfl, fun hh => ?_, fun hh _ => ?_⟩
          · exact LV_m (I := xI τ) hg (fun k k1 k2 => uQ _ k (by omega) (by omega)) (fun k _ => uQ _ k (by omega) (by omega)) (fun k _ => uQ _ k (by omega) (by omega)) (fun k _ => uQ 194 _ (by omega) (by omega)) (Nat.le_refl _) (fun _ _ => rfl) (fun _ _ => rfl) (r6 hh)
          · refine WAY_c (I := Q) hg (fun k _ => rfl) (fun k _ => ?_) hWay
            rw [hF, uQ 194 _ (by omega) (by omega)]
            exact fr 194 _ (by omega)
        · refine ⟨f', c'', r1, r2, by rw [uQ _ _ (by omega) (by omega)]; exact r3, by rw [uQ _ _ (by omega) (by omega)]; exact r4, by rw [uQ _ _ (by omega) (by omega)]; exact r5, fun hh => ?_, fun hh h2 => ?_⟩
          · exact LV_m (I := xI τ) hg (fun k k1 k2 => uQ _ k (by omega) (by omega)) (fun k _ => uQ _ k (by omega) (by omega)) (fun k _ => uQ _ k (by omega) (by omega)) (fun k _ => uQ 194 _ (by omega) (by omega)) (Nat.le_refl _) (fun _ _ => rfl) (fun _ _ => rfl) (r6 hh)
          · exact WAY_c (I := xI τ) hg (fun k _ => uQ _ k (by omega) (by omega)) (fun k _ => uQ 194 _ (by omega) (by omega)) (r7 hh h2)
    · rw [xw_I, uQ a k (by omega) (by omega)]; exact fr a k (by omega)
end
section
/-! rows of longs; products of counts -/
def xl (σ : XS) (L : Nat → Nat → Int64) : XS := (σ.1, σ.2.1, L, σ.2.2.2)
theorem xl_Shp {σ : XS} {L : Nat → Nat → Int64} (h : Shp σ) : Shp (xl σ L) := h
theorem xl_aL {σ : XS} {L : Nat → Nat → Int64} {I : Nat → Nat → Int32} {a n i : Nat} (h : σ.1 a = (23, n)) (hi : i < n) (hn : n < 2147483648) : xaL (xw (xl σ L) I) a (nI i) = some (L a i) := xaL_ok (σ := xw (xl σ L) I) (n := n) (congrArg Prod.fst h) (congrArg Prod.snd h) hi hn
theorem xl_sL {σ : XS} {L : Nat → Nat → Int64} {I : Nat → Nat → Int32} {a n i : Nat} {v : Int64} (h : σ.1 a = (23, n)) (hi : i < n) (hn : n < 2147483648) : xsL (xw (xl σ L) I) a (nI i) v = some (xw (xl σ (xup L a i v)) I) := xsL_ok (σ := xw (xl σ L) I) (n := n) (congrArg Prod.fst h) (congrArg Prod.snd h) hi hn
theorem IV.longs {n : Nat} {σ : XS} {g : GD} {gT gP : GH} {st : Nat} {L : Nat → Nat → Int64} (H : IV n σ g gT gP st) (h : ∀ k, L 190 k = xL σ 190 k) : IV n (xl σ L) g gT gP st := by
  obtain ⟨a, b, h1, h2, h3, h4, h5, h6, h7, h8, h9, h10, h11, h12⟩ := H.cel
  exact ⟨H.shp, H.stn, H.sts, H.tap, H.plc, H.grd, H.now, H.pst, H.slt, H.cch, H.knw, a, b, h1, h2, h3, h4, h5, h6, h7, h8, h9, h10, h11, fun k hk => (h k).trans (h12 k hk)⟩
/-- the sum over a < A of m a * t (e - a), t having N places -/
def cv (m t : Nat → Nat) (N A e : Nat) : Nat := fb_sm (fun a => if a ≤ e ∧ e < a + N then m a * t (e - a) else 0) A
theorem cv_b {m t : Nat → Nat} (hm : ∀ a, m a ≤ 65536) (ht : ∀ a, t a ≤ 65536) (N A e : Nat) : cv m t N A e ≤ A * 4294967296 := by
  unfold cv
  refine fb_sm_bound (fun a _ => ?_)
  split
  · exact Nat.mul_le_mul (hm a) (ht (e - a))
  · exact Nat.zero_le _
theorem cv_s {m t : Nat → Nat} {N A e : Nat} : cv m t N (A + 1) e = cv m t N A e + (if A ≤ e ∧ e < A + N then m A * t (e - A) else 0) := rfl
theorem cv_shift {m t m' t' : Nat → Nat} (hm : ∀ a, a < 289 → m' (6 + a) = m a) (hm0 : ∀ a, a < 6 ∨ 295 ≤ a → m' a = 0) (ht : ∀ a, a < 289 → t' (6 + a) = t a) (ht0 : ∀ a, a < 6 ∨ 295 ≤ a → t' a = 0) {e : Nat} : cv m' t' 301 301 (12 + e) = cv m t 289 289 e := by
  unfold cv
  rw [show (301 : Nat) = 6 + 295 from rfl, fb_sm_split, show (295 : Nat) = 289 + 6 from rfl, fb_sm_split]
  have z1 : fb_sm (fun a => if a ≤ 12 + e ∧ 12 + e < a + (6 + (289 + 6)) then m' a * t' (12 + e - a) else 0) 6 = 0 := by
    have := fb_sm_cong (f := fun a => if a ≤ 12 + e ∧ 12 + e < a + (6 + (289 + 6)) then m' a * t' (12 + e - a) else 0) (g := fun _ => 0) (n := 6) (fun a ha => by
      show (if _ then _ else _) = 0
      rw [hm0 a (by omega)]; split <;> simp)
    rw [this, fb_sm_const]
  have z2 : fb_sm (fun k => (fun k => (fun a => if a ≤ 12 + e ∧ 12 + e < a + (6 + (289 + 6)) then m' a * t' (12 + e - a) else 0) (6 + k)) (289 + k)) 6 = 0 := by
    have := fb_sm_cong (f := fun k => (fun k => (fun a => if a ≤ 12 + e ∧ 12 + e < a + (6 + (289 + 6)) then m' a * t' (12 + e - a) else 0) (6 + k)) (289 + k)) (g := fun _ => 0) (n := 6) (fun a ha => by
      show (if _ then m' (6 + (289 + a)) * _ else _) = 0
      rw [hm0 (6 + (289 + a)) (by omega)]; split <;> simp)
    rw [this, fb_sm_const]
  rw [z1, z2, Nat.zero_add, Nat.add_zero]
  refine fb_sm_cong (fun a ha => ?_)
  show (if 6 + a ≤ 12 + e ∧ 12 + e < 6 + a + (6 + (289 + 6)) then m' (6 + a) * t' (12 + e - (6 + a)) else 0) = _
  rw [hm a ha]
  by_cases h1 : a ≤ e ∧ e < a + 289
  · rw [if_pos h1, if_pos (by omega), show 12 + e - (6 + a) = 6 + (e - a) by omega, ht (e - a) (by omega)]
  · rw [if_neg h1]
    split
    · rw [ht0 _ (by omega), Nat.mul_zero]
    · rfl
theorem cv_out {m t m' t' : Nat → Nat} (hm0 : ∀ a, a < 6 ∨ 295 ≤ a → m' a = 0) (ht0 : ∀ a, a < 6 ∨ 295 ≤ a → t' a = 0) {e : Nat} (he : e < 12 ∨ 589 ≤ e) : cv m' t' 301 301 e = 0 := by
  unfold cv
  have := fb_sm_cong (f := fun a => if a ≤ e ∧ e < a + 301 then m' a * t' (e - a) else 0) (g := fun _ => 0) (n := 301) (fun a ha => by
    show (if _ then _ else _) = 0
    split
    · by_cases h : a < 6 ∨ 295 ≤ a
      · rw [hm0 a h, Nat.zero_mul]
      · rw [ht0 (e - a) (by omega), Nat.mul_zero]
    · rfl)
  rw [this, fb_sm_const]
/-- the row of longs as it grows: all a < A, and b < B of a = A -/
def cvR (m t : Nat → Nat) (N A B e : Nat) : Nat := cv m t N A e + (if A ≤ e ∧ e < A + B then m A * t (e - A) else 0)
def lgL (L : Nat → Nat → Int64) (r n : Nat) (f : Nat → Nat) : Nat → Nat → Int64 := fun a k => if a = r ∧ k < n then lN (f k) else L a k
theorem lgL_out {L : Nat → Nat → Int64} {r n : Nat} {f : Nat → Nat} {a k : Nat} (h : a ≠ r) : lgL L r n f a k = L a k := by unfold lgL; rw [if_neg (fun z => h z.1)]
theorem lgL_in {L : Nat → Nat → Int64} {r n : Nat} {f : Nat → Nat} {k : Nat} (h : k < n) : lgL L r n f r k = lN (f k) := by unfold lgL; rw [if_pos ⟨rfl, h⟩]
theorem lgL_cong {L : Nat → Nat → Int64} {r n : Nat} {f f' : Nat → Nat} (h : ∀ k, k < n → f k = f' k) : lgL L r n f = lgL L r n f' := by
  funext a k
  unfold lgL
  by_cases z : a = r ∧ k < n
  · rw [if_pos z, if_pos z, h k z.2]
  · rw [if_neg z, if_neg z]
theorem lgL_s {L : Nat → Nat → Int64} {r n A B : Nat} {m t : Nat → Nat} {N : Nat} (h : A + B < n) : xup (lgL L r n (cvR m t N A B)) r (A + B) (lN (cvR m t N A B (A + B) + m A * t B)) = lgL L r n (cvR m t N A (B + 1)) := by
  funext a k
  show (if a = r ∧ k = A + B then _ else lgL L r n (cvR m t N A B) a k) = _
  unfold lgL
  by_cases h1 : a = r
  · subst h1
    by_cases h2 : k = A + B
    · subst h2
      rw [if_pos ⟨rfl, rfl⟩, if_pos ⟨rfl, h⟩]
      unfold cvR
      rw [if_neg (by omega), if_pos (by omega), show A + B - A = B by omega]
      rfl
    · rw [if_neg (fun z => h2 z.2)]
      by_cases h3 : k < n
      · rw [if_pos ⟨rfl, h3⟩, if_pos ⟨rfl, h3⟩]
        unfold cvR
        congr 2
        have : (A ≤ k ∧ k < A + B) ↔ (A ≤ k ∧ k < A + (B + 1)) := by omega
        simp only [this]
      · rw [if_neg (fun z => h3 z.2), if_neg (fun z => h3 z.2)]
  · rw [if_neg (fun z => h1 z.1), if_neg (fun z => h1 z.1), if_neg (fun z => h1 z.1)]
theorem cvR_0 {m t : Nat → Nat} {N A e : Nat} : cvR m t N A 0 e = cv m t N A e := by unfold cvR; rw [if_neg (by omega), Nat.add_zero]
theorem cvR_N {m t : Nat → Nat} {N A e : Nat} : cvR m t N A N e = cv m t N (A + 1) e := rfl
theorem cvR_z {m t : Nat → Nat} {N A e : Nat} (h : m A = 0) : cv m t N (A + 1) e = cv m t N A e := by
  rw [cv_s, h, Nat.zero_mul]
  split <;> rfl
end
section
/-! joined on the heap -/
section JOIN
variable {σ : XS} {I : Nat → Nat → Int32} {L : Nat → Nat → Int64} {m t : Nat → Nat}
theorem lgL_z {r j : Nat} : xup (lgL L r j (fun _ => 0)) r j (0 : Int64) = lgL L r (j + 1) (fun _ => 0) := by
  funext a k
  show (if a = r ∧ k = j then _ else lgL L r j (fun _ => 0) a k) = _
  unfold lgL
  by_cases h1 : a = r
  · subst h1
    by_cases h2 : k = j
    · subst h2; simp; rfl
    · have : (k < j + 1) ↔ (k < j) := by omega
      simp [h2, this]
  · simp [h1]
theorem lgL_00 {r : Nat} {f : Nat → Nat} : lgL L r 0 f = L := by
  funext a k
  unfold lgL
  rw [if_neg (by omega)]
theorem fillL_ok (K : σ.1 181 = (23, 577)) : f_J7_fill_d0a16 (xw (xl σ L) I) 181 (0 : Int64) = some (xw (xl σ (lgL L 181 577 (fun _ => 0))) I) := by
  unfold f_J7_fill_d0a16
  have hl : xal (xw (xl σ L) I) 181 = some (nI 577) := by
    rw [xal_ok (σ := xw (xl σ L) I) (by show 20 ≤ (σ.1 181).1 ∧ (σ.1 181).1 ≤ 25; rw [K]; decide)]
    show some (nI (σ.1 181).2) = _
    rw [K]
  rw [hl, Option.bind_some]
  refine xforE (fun j : Nat => (nI j, xw (xl σ (lgL L 181 j (fun _ => 0))) I)) 577 (by simp only [lgL_00]; rfl) (fun j hj => ?_) ?_
  · simp only [f_J7_fill_d0a16_b6]
    rw [if_neg (by rw [nn_le (by omega) (by omega)]; omega), xl_sL K hj (by decide), Option.bind_some, lgL_z, nI_succ]
  · simp only [f_J7_fill_d0a16_b6]
    rw [if_pos (by decide)]
    rfl
theorem mul_64 {a b c : Nat} (ha : a ≤ 65536) (hb : b ≤ 65536) (hc : c ≤ 4294967296000) : lN c + (nI a).toInt64 * (nI b).toInt64 = lN (c + a * b) := by
  have : a * b ≤ 4294967296 := by
    have := Nat.mul_le_mul ha hb
    omega
  rw [nI_i64 (by omega), nI_i64 (by omega), vL_mul (by omega) (by omega) (by omega), vL_add (by omega)]
theorem cvR_b (hm : ∀ a, m a ≤ 65536) (ht : ∀ a, t a ≤ 65536) {N A B e : Nat} (hA : A ≤ 900) : cvR m t N A B e ≤ 4294967296000 := by
  have h1 := cv_b hm ht N A e
  have h2 : m A * t (e - A) ≤ 4294967296 := by
    have := Nat.mul_le_mul (hm A) (ht (e - A))
    omega
  have h3 : A * 4294967296 ≤ 3865470566400 := by omega
  have h4 : cv m t N A e ≤ 3865470566400 := Nat.le_trans h1 h3
  unfold cvR
  generalize cv m t N A e = x at *
  generalize m A * t (e - A) = y at *
  by_cases h : A ≤ e ∧ e < A + B
  · rw [if_pos h]; omega
  · rw [if_neg h]; omega
theorem joinWays_l (hS : Shp σ) {W : Nat} (hW : σ.1 W = (20, 289)) (hm : ∀ a, m a ≤ 65536) (ht : ∀ a, t a ≤ 65536) (hv : ∀ k, k < 289 → I 166 k = nI (m k)) (hw : ∀ k, k < 289 → I W k = nI (t k)) :
    f_X11_joinWays_j13 (xw (xl σ L) I) 1 166 W = some (xw (xl σ (lgL L 181 577 (cv m t 289 289))) I) := by
  have K181 : σ.1 181 = (23, 577) := xw_K hS (by decide) (by decide) (by decide)
  have K166 : σ.1 166 = (20, 289) := xw_K hS (by decide) (by decide) (by decide)
  have r12 : ∀ L', xgR (xw (xl σ L') I) 1 11 12 = some 181 := fun L' => kR1_12 (σ := xl σ L') hS
  have lW : ∀ L', xal (xw (xl σ L') I) W = some (nI 289) := fun L' => by
    rw [xal_ok (σ := xw (xl σ L') I) (by show 20 ≤ (σ.1 W).1 ∧ (σ.1 W).1 ≤ 25; rw [hW]; decide)]
    show some (nI (σ.1 W).2) = _
    rw [hW]
  have l166 : ∀ L', xal (xw (xl σ L') I) 166 = some (nI 289) := fun L' => kL166 (σ := xl σ L') hS
  have l181 : ∀ L', xal (xw (xl σ L') I) 181 = some (nI 577) := fun L' => kL181 (σ := xl σ L') hS
  unfold f_X11_joinWays_j13
  rw [r12, Option.bind_some, fillL_ok K181, Option.bind_some]
  have e0 : lgL L 181 577 (fun _ => 0) = lgL L 181 577 (cv m t 289 0) := rfl
  rw [e0]
  refine xforE (fun A : Nat => (nI A, xw (xl σ (lgL L 181 577 (cv m t 289 A))) I)) 289 rfl (fun A hA => ?_) ?_
  · simp only [f_X11_joinWays_b25]
    rw [l166, Option.bind_some, if_neg (by rw [nn_le (by omega) (by omega)]; omega)]
    have a166 : ∀ L', xaI (xw (xl σ L') I) 20 166 (nI A) = some (nI (m A)) := fun L' => by
      rw [← hv A hA]; exact xw_aI (σ := xl σ L') K166 hA (by decide)
    by_cases hz : m A = 0
    · refine (xloop_end (b := (Sum.inl (nI (A + 1), xw (xl σ (lgL L 181 577 (cv m t 289 (A + 1)))) I))) ?_)
      simp only [f_X11_joinWays_b35]
      rw [a166, Option.bind_some, hz, if_pos (show nI 0 = 0 from rfl), ← nI_succ, lgL_cong (f' := cv m t 289 A) (fun k _ => cvR_z hz)]
      rfl
    · have hmA := hm A
      have e1 : lgL L 181 577 (cv m t 289 A) = lgL L 181 577 (cvR m t 289 A 0) := lgL_cong (fun k _ => cvR_0.symm)
      rw [e1]
      refine xforE (fun B : Nat => (nI B, xw (xl σ (lgL L 181 577 (cvR m t 289 A B))) I)) 289 rfl (fun B hB => ?_) ?_
      · simp only [f_X11_joinWays_b35]
        have aW : ∀ L', xaI (xw (xl σ L') I) 20 W (nI B) = some (nI (t B)) := fun L' => by
          rw [← hw B hB]; exact xw_aI (σ := xl σ L') hW hB (by decide)
        rw [a166, Option.bind_some, if_neg (nI_ne0 (by omega) (by omega)), lW, Option.bind_some, if_neg (by rw [nn_le (by omega) (by omega)]; omega), r12, Option.bind_some, l181, Option.bind_some, nn_add, if_neg (by rw [nn_le (by omega) (by omega)]; omega), Option.bind_some, xl_aL K181 (by omega) (by decide), Option.bind_some, Option.bind_some, aW, Option.bind_some, lgL_in (by omega), mul_64 hmA (ht B) (cvR_b hm ht (by omega)), xl_sL K181 (by omega) (by decide), Option.bind_some, lgL_s (by omega), ← nI_succ]
      · simp only [f_X11_joinWays_b35]
        rw [a166, Option.bind_some, if_neg (nI_ne0 (by omega) (by omega)), lW, Option.bind_some, if_pos (by rw [nn_le (by omega) (by omega)]; exact Nat.le_refl _), ← nI_succ]
        rfl
  · simp only [f_X11_joinWays_b25]
    rw [l166, Option.bind_some, if_pos (by decide)]
    rfl
/-- the model's two loops of products -/
theorem prod12 (hS : Shp σ) (hm : ∀ a, m a ≤ 65536) (ht : ∀ a, t a ≤ 65536) (hv : ∀ k, k < 301 → I 197 k = nI (m k)) (hw : ∀ k, k < 301 → I 200 k = nI (t k)) (x2 x3 : Int32) {z : Int64 × XS} (hz : xloop (f_X12_joined_b178 (xw (xl σ (lgL L 201 601 (cv m t 301 301))) I) 183 x2 x3) ((0 : Int32), (0 : Int32)) = some z) :
    xloop (f_X12_joined_b76 183 x2 x3) ((0 : Int32), xw (xl σ L) I) = some z := by
  have K201 : σ.1 201 = (23, 601) := xw_K hS (by decide) (by decide) (by decide)
  have K197 : σ.1 197 = (20, 301) := xw_K hS (by decide) (by decide) (by decide)
  have K200 : σ.1 200 = (20, 301) := xw_K hS (by decide) (by decide) (by decide)
  have r39 : ∀ L', xgR (xw (xl σ L') I) 183 12 39 = some 201 := fun L' => kR183_39 (σ := xl σ L') hS
  have r34 : ∀ L', xgR (xw (xl σ L') I) 183 12 34 = some 197 := fun L' => kR183_34 (σ := xl σ L') hS
  have r38 : ∀ L', xgR (xw (xl σ L') I) 183 12 38 = some 200 := fun L' => kR183_38 (σ := xl σ L') hS
  have prod : xloop (f_X12_joined_b101 183 x2 x3) ((0 : Int32), xw (xl σ (lgL L 201 601 (cv m t 301 0))) I) = some z := by
    refine xforE (fun A : Nat => (nI A, xw (xl σ (lgL L 201 601 (cv m t 301 A))) I)) 301 rfl (fun A hA => ?_) ?_
    · simp only [f_X12_joined_b101]
      rw [if_neg (by rw [show (301 : Int32) = nI 301 from rfl, nn_le (by omega) (by omega)]; omega)]
      have a197 : ∀ L', xaI (xw (xl σ L') I) 20 197 (nI A) = some (nI (m A)) := fun L' => by
        rw [← hv A hA]; exact xw_aI (σ := xl σ L') K197 hA (by decide)
      by_cases hz0 : m A = 0
      · refine (xloop_end (b := (Sum.inl (nI (A + 1), xw (xl σ (lgL L 201 601 (cv m t 301 (A + 1)))) I))) ?_)
        simp only [f_X12_joined_b112]
        rw [if_neg (by decide), r34, Option.bind_some, a197, Option.bind_some, hz0, if_pos (by decide), ← nI_succ, lgL_cong (f' := cv m t 301 A) (fun k _ => cvR_z hz0)]
        rfl
      · have hmA := hm A
        have e1 : lgL L 201 601 (cv m t 301 A) = lgL L 201 601 (cvR m t 301 A 0) := lgL_cong (fun k _ => cvR_0.symm)
        rw [e1]
        refine xforE (fun B : Nat => (nI B, xw (xl σ (lgL L 201 601 (cvR m t 301 A B))) I)) 301 rfl (fun B hB => ?_) ?_
        · simp only [f_X12_joined_b112]
          have a200 : ∀ L', xaI (xw (xl σ L') I) 20 200 (nI B) = some (nI (t B)) := fun L' => by
            rw [← hw B hB]; exact xw_aI (σ := xl σ L') K200 hB (by decide)
          rw [if_neg (by rw [show (301 : Int32) = nI 301 from rfl, nn_le (by omega) (by omega)]; omega), r34, Option.bind_some, a197, Option.bind_some, if_neg (nI_nle (by omega) (by omega)), r39, Option.bind_some, nn_add, xl_aL K201 (by omega) (by decide), Option.bind_some, Option.bind_some, a197, Option.bind_some, r38, Option.bind_some, a200, Option.bind_some, lgL_in (by omega), mul_64 hmA (ht B) (cvR_b hm ht (by omega)), xl_sL K201 (by omega) (by decide), Option.bind_some, lgL_s (by omega), ← nI_succ]
        · simp only [f_X12_joined_b112]
          rw [if_pos (by decide), ← nI_succ]
          rfl
    · simp only [f_X12_joined_b101]
      rw [if_pos (by decide), hz]
      rfl
  refine xforE (fun j : Nat => (nI j, xw (xl σ (lgL L 201 j (fun _ => 0))) I)) 601 (by simp only [lgL_00]; rfl) (fun j hj => ?_) ?_
  · simp only [f_X12_joined_b76]
    rw [if_neg (by rw [show (601 : Int32) = nI 601 from rfl, nn_le (by omega) (by omega)]; omega), r39, Option.bind_some, xl_sL K201 hj (by decide), Option.bind_some, lgL_z, nI_succ]
  · simp only [f_X12_joined_b76]
    rw [if_pos (by decide)]
    have e0 : lgL L 201 601 (fun _ => 0) = lgL L 201 601 (cv m t 301 0) := rfl
    rw [e0, prod]
    rfl
end JOIN
end
section
/-! the joined strip's levels -/
section JLEV
variable {σ : XS} {L : Nat → Nat → Int64} {I : Nat → Nat → Int32} {c : Nat → Nat}
def jP (c : Nat → Nat) (k : Nat) : Bool := decide (c k ≠ 0)
theorem lz0 {m : Nat} (h : m ≤ 4294967296000) : (lg_cmp (lN m) (0 : Int64) = 0) = (m = 0) := by
  rw [lg_cmp0, show (0 : Int64) = lN 0 from rfl, vL_eq (by omega) (by omega)]
theorem jP_f {k : Nat} (h : c k = 0) : fb_ct (jP c) (k + 1) = fb_ct (jP c) k := by
  rw [fb_ct_succ]; simp [jP, h]
theorem jP_t {k : Nat} (h : c k ≠ 0) : fb_ct (jP c) (k + 1) = fb_ct (jP c) k + 1 := by
  rw [fb_ct_succ]; simp [jP, h]
theorem jP_lt {k n : Nat} (hk : k < n) (h : c k ≠ 0) : fb_ct (jP c) k < fb_ct (jP c) n := by
  have := fb_ct_mono (jP c) (show k + 1 ≤ n by omega)
  rw [jP_t h] at this
  omega
theorem cjC (hS : Shp σ) (hL : ∀ k, k < 577 → L 181 k = lN (c k)) (hc : ∀ k, c k ≤ 4294967296000) : f_X11_countJoinedLevels (xw (xl σ L) I) 1 = some (nI (fb_ct (jP c) 577)) := by
  have K181 : σ.1 181 = (23, 577) := xw_K hS (by decide) (by decide) (by decide)
  have r12 : xgR (xw (xl σ L) I) 1 11 12 = some 181 := kR1_12 (σ := xl σ L) hS
  have l181 : xal (xw (xl σ L) I) 181 = some (nI 577) := kL181 (σ := xl σ L) hS
  unfold f_X11_countJoinedLevels
  refine xforE (fun j : Nat => (nI (fb_ct (jP c) j), nI j)) 577 rfl (fun j hj => ?_) ?_
  · simp only [f_X11_countJoinedLevels_b4, lz0, hc]
    rw [r12, Option.bind_some, l181, Option.bind_some, if_neg (by rw [nn_le (by omega) (by omega)]; omega), Option.bind_some, xl_aL K181 hj (by decide), Option.bind_some, hL j hj]
    simp only [lz0 (hc j)]
    by_cases h : c j = 0
    · rw [if_pos h, jP_f h, nI_succ]
    · rw [if_neg h, jP_t h, nI_succ, nI_succ]
  · simp only [f_X11_countJoinedLevels_b4]
    rw [r12, Option.bind_some, l181, Option.bind_some, if_pos (by decide)]
    rfl
theorem cjA (hS : Shp σ) (hL : ∀ k, k < 577 → L 181 k = lN (c k)) (hc : ∀ k, c k ≤ 4294967296000) {k : Nat} (hk : k < 577) (hp : c k ≠ 0) : f_X11_joinedLevelAt (xw (xl σ L) I) 1 (nI (fb_ct (jP c) k)) = some (nI k) := by
  have K181 : σ.1 181 = (23, 577) := xw_K hS (by decide) (by decide) (by decide)
  have r12 : xgR (xw (xl σ L) I) 1 11 12 = some 181 := kR1_12 (σ := xl σ L) hS
  have l181 : xal (xw (xl σ L) I) 181 = some (nI 577) := kL181 (σ := xl σ L) hS
  have hle := fb_ct_le (jP c) k
  unfold f_X11_joinedLevelAt
  refine xforE (fun j : Nat => (nI (fb_ct (jP c) j), nI j)) k rfl (fun j hj => ?_) ?_
  · simp only [f_X11_joinedLevelAt_b4]
    rw [r12, Option.bind_some, l181, Option.bind_some, if_neg (by rw [nn_le (by omega) (by omega)]; omega), Option.bind_some, xl_aL K181 (by omega) (by decide), Option.bind_some, hL j (by omega)]
    simp only [lz0 (hc j)]
    by_cases h : c j = 0
    · rw [if_pos h, jP_f h, nI_succ]
    · have h1 := jP_lt hj h
      have h2 := fb_ct_le (jP c) j
      rw [if_neg h, if_neg (by rw [nn_eq (by omega) (by omega)]; omega), jP_t h, nI_succ, nI_succ]
  · simp only [f_X11_joinedLevelAt_b4]
    rw [r12, Option.bind_some, l181, Option.bind_some, if_neg (by rw [nn_le (by omega) (by omega)]; omega), Option.bind_some, xl_aL K181 (by omega) (by decide), Option.bind_some, hL k hk]
    simp only [lz0 (hc k)]
    rw [if_neg hp, if_pos trivial]
    rfl
theorem cjN (hS : Shp σ) (hL : ∀ k, k < 577 → L 181 k = lN (c k)) (hc : ∀ k, c k ≤ 4294967296000) {x : Int32} (hx : ∀ i, i < fb_ct (jP c) 577 → x ≠ nI i) : f_X11_joinedLevelAt (xw (xl σ L) I) 1 x = some (-1) := by
  have K181 : σ.1 181 = (23, 577) := xw_K hS (by decide) (by decide) (by decide)
  have r12 : xgR (xw (xl σ L) I) 1 11 12 = some 181 := kR1_12 (σ := xl σ L) hS
  have l181 : xal (xw (xl σ L) I) 181 = some (nI 577) := kL181 (σ := xl σ L) hS
  unfold f_X11_joinedLevelAt
  refine xforE (fun j : Nat => (nI (fb_ct (jP c) j), nI j)) 577 rfl (fun j hj => ?_) ?_
  · simp only [f_X11_joinedLevelAt_b4]
    rw [r12, Option.bind_some, l181, Option.bind_some, if_neg (by rw [nn_le (by omega) (by omega)]; omega), Option.bind_some, xl_aL K181 (by omega) (by decide), Option.bind_some, hL j (by omega)]
    simp only [lz0 (hc j)]
    by_cases h : c j = 0
    · rw [if_pos h, jP_f h, nI_succ]
    · have h1 := hx _ (jP_lt hj h)
      rw [if_neg h, if_neg (fun z => h1 z.symm), jP_t h, nI_succ, nI_succ]
  · simp only [f_X11_joinedLevelAt_b4]
    rw [r12, Option.bind_some, l181, Option.bind_some, if_pos (by decide)]
    rfl
theorem mjN (hS : Shp σ) (hL : ∀ k, k < 601 → L 201 k = lN (c k)) (hc : ∀ k, c k ≤ 4294967296000) {x y : Int32} (hx : ∀ i, i < fb_ct (jP c) 601 → x ≠ nI i) : xloop (f_X12_joined_b178 (xw (xl σ L) I) 183 x y) ((0 : Int32), (0 : Int32)) = some ((if x = -1 then (nI (fb_ct (jP c) 601)).toInt64 else -100000), xw (xl σ L) I) := by
  have K201 : σ.1 201 = (23, 601) := xw_K hS (by decide) (by decide) (by decide)
  have r39 : xgR (xw (xl σ L) I) 183 12 39 = some 201 := kR183_39 (σ := xl σ L) hS
  refine xforE (fun j : Nat => (nI (fb_ct (jP c) j), nI j)) 601 rfl (fun j hj => ?_) ?_
  · simp only [f_X12_joined_b178]
    rw [if_neg (by rw [show (601 : Int32) = nI 601 from rfl, nn_le (by omega) (by omega)]; omega), r39, Option.bind_some, xl_aL K201 (by omega) (by decide), Option.bind_some, hL j (by omega)]
    simp only [lz0 (hc j)]
    by_cases h : c j = 0
    · rw [if_pos h, jP_f h, nI_succ]
    · have h1 := hx _ (jP_lt hj h)
      rw [if_neg h, if_neg (fun z => h1 z.symm), jP_t h, nI_succ, nI_succ]
  · simp only [f_X12_joined_b178]
    rw [if_pos (by decide)]
    by_cases h : x = -1
    · rw [if_pos h, if_pos h]; rfl
    · rw [if_neg h, if_neg h]; rfl
theorem mjA (hS : Shp σ) (hL : ∀ k, k < 601 → L 201 k = lN (c k)) (hc : ∀ k, c k ≤ 4294967296000) {y : Int32} {k : Nat} (hk : k < 601) (hp : c k ≠ 0) : xloop (f_X12_joined_b178 (xw (xl σ L) I) 183 (nI (fb_ct (jP c) k)) y) ((0 : Int32), (0 : Int32)) = some ((if y = 0 then (nI k - (300 : Int32)).toInt64 else if y = 1 then lN (c k) else -100000), xw (xl σ L) I) := by
  have K201 : σ.1 201 = (23, 601) := xw_K hS (by decide) (by decide) (by decide)
  have r39 : xgR (xw (xl σ L) I) 183 12 39 = some 201 := kR183_39 (σ := xl σ L) hS
  have hle := fb_ct_le (jP c) k
  refine xforE (fun j : Nat => (nI (fb_ct (jP c) j), nI j)) k rfl (fun j hj => ?_) ?_
  · simp only [f_X12_joined_b178]
    rw [if_neg (by rw [show (601 : Int32) = nI 601 from rfl, nn_le (by omega) (by omega)]; omega), r39, Option.bind_some, xl_aL K201 (by omega) (by decide), Option.bind_some, hL j (by omega)]
    simp only [lz0 (hc j)]
    by_cases h : c j = 0
    · rw [if_pos h, jP_f h, nI_succ]
    · have h1 := jP_lt hj h
      have h2 := fb_ct_le (jP c) j
      rw [if_neg h, if_neg (by rw [nn_eq (by omega) (by omega)]; omega), jP_t h, nI_succ, nI_succ]
  · simp only [f_X12_joined_b178]
    rw [if_neg (by rw [show (601 : Int32) = nI 601 from rfl, nn_le (by omega) (by omega)]; omega), r39, Option.bind_some, xl_aL K201 (by omega) (by decide), Option.bind_some, hL k hk]
    simp only [lz0 (hc k)]
    rw [if_neg hp, if_pos trivial]
    by_cases h : y = 0
    · rw [if_pos h, if_pos h]; rfl
    · rw [if_neg h, if_neg h]
      by_cases h1 : y = 1
      · rw [if_pos h1, if_pos h1, Option.bind_some, xl_aL K201 (by omega) (by decide), Option.bind_some, hL k hk]; rfl
      · rw [if_neg h1, if_neg h1]; rfl
theorem jP_shift {c c' : Nat → Nat} (h0 : ∀ e, e < 12 → c' e = 0) (h1 : ∀ e, c' (12 + e) = c e) : ∀ e, fb_ct (jP c') (12 + e) = fb_ct (jP c) e
  | 0 => by
    have : ∀ j, j ≤ 12 → fb_ct (jP c') j = 0 := by
      intro j
      induction j with
      | zero => intro _; rfl
      | succ j ih => intro h; rw [jP_f (h0 j (by omega)), ih (by omega)]
    exact this 12 (by omega)
  | e + 1 => by
    show fb_ct (jP c') ((12 + e) + 1) = _
    rw [fb_ct_succ, fb_ct_succ, jP_shift h0 h1 e]
    unfold jP
    rw [h1]
theorem jP_top {c' : Nat → Nat} (h0 : ∀ e, 589 ≤ e → c' e = 0) : fb_ct (jP c') 601 = fb_ct (jP c') 589 := by
  have : ∀ j, fb_ct (jP c') (589 + j) = fb_ct (jP c') 589 := by
    intro j
    induction j with
    | zero => rfl
    | succ j ih => rw [show 589 + (j + 1) = (589 + j) + 1 by omega, jP_f (h0 _ (by omega)), ih]
  exact this 12
end JLEV
/-- the model's copy of a held setup -/
theorem jcopy {σ : XS} {I : Nat → Nat → Int32} (hS : Shp σ) {i : Nat} (hi : i < 3) (x2 x3 : Int32) {z : Int64 × XS} {τ : XS} (h1 : f_X12_laysMany (xw σ (rcI I 199 0 194 (66 * i) 66)) 183 199 200 = some τ) (h2 : xloop (f_X12_joined_b76 183 x2 x3) ((0 : Int32), τ) = some z) : xloop (f_X12_joined_b29 183 (nI i) x2 x3) ((0 : Int32), xw σ I) = some z := by
  refine xforE (fun j : Nat => (nI j, xw σ (rcI I 199 0 194 (66 * i) j))) 66 (by simp only [rcI_0]; rfl) (fun j hj => ?_) ?_
  · simp only [f_X12_joined_b29]
    rw [if_neg (by rw [show (66 : Int32) = nI 66 from rfl, nn_le (by omega) (by omega)]; omega)]
    simp (disch := first | assumption | omega) only [Option.bind_some, Option.map_some, xw_gR, xw_gN, xw_al, xw_ck, xw_uI, xw_ur, xup_at, xur_at, if_true, if_false, reduceIte, and_true, true_and, and_false, false_and, not_true_eq_false, not_false_eq_true, Nat.reduceEqDiff, eq_self, Nat.reduceAdd, Nat.reduceMul, kC1, kG1, kP1, kR1_0, kR1_1, kR1_2, kR1_3, kR1_4, kR1_5, kR1_6, kR1_7, kR1_8, kR1_9, kR1_10, kR1_11, kR1_12, kR1_13, kC2, kG2, kP2, kR2_0, kR2_1, kC3, kG3, kP3, kR3_0, kR3_1, kR3_2, kR3_3, kL4, kA4, kS4, kL5, kA5, kS5, kL6, kA6, kS6, kL7, kA7, kS7, kC8, kG8, kP8, kR8_0, kR8_1, kL9, kA9, kS9, kL10, kA10, kS10, kC11, kG11, kP11, kR11_0, kR11_1, kR11_2, kR11_3, kL12, kA12, kS12, kL13, kA13, kS13, kL14, kA14, kS14, kL15, kA15, kS15, kC16, kG16, kP16, kR16_0, kR16_1, kL17, kA17, kS17, kL18, kA18, kS18, kC19, kG19, kP19, kR19_0, kL20, kL141, kL146, kA146, kS146, kL151, kA151, kS151, kL156, kA156, kS156, kC157, kG157, kP157, kR157_0, kR157_1, kL158, kA158, kS158, kL159, kA159, kS159, kC161, kG161, kP161, kR161_0, kR161_1, kL162, kA162, kS162, kL163, kA163, kS163, kC165, kG165, kP165, kR165_0, kR165_1, kR165_2, kR165_3, kL166, kA166, kS166, kL167, kA167, kS167, kL168, kA168, kS168, kL169, kA169, kS169, kC170, kG170, kP170, kR170_0, kR170_1, kR170_2, kL171, kA171, kS171, kL172, kA172, kS172, kL173, kA173, kS173, kC174, kG174, kP174, kR174_0, kR174_1, kR174_2, kR174_3, kR174_4, kL175, kA175, kS175, kL176, kA176, kS176, kL177, kA177, kS177, kL178, kA178, kS178, kL179, kC180, kG180, kP180, kL181, kL182, kA182, kS182, kC183, kG183, kP183, kR183_1, kR183_3, kR183_5, kR183_6, kR183_7, kR183_8, kR183_9, kR183_21, kR183_26, kR183_27, kR183_30, kR183_31, kR183_33, kR183_34, kR183_36, kR183_37, kR183_38, kR183_39, kR183_40, kR183_41, kR183_42, kR183_43, kR183_44, kL184, kA184, kS184, kL185, kA185, kS185, kL186, kA186, kS186, kL187, kA187, kS187, kL188, kA188, kS188, kL189, kL190, kL191, kA191, kS191, kL192, kA192, kS192, kL193, kA193, kS193, kL194, kA194, kS194, kL195, kA195, kS195, kL196, kA196, kS196, kL197, kA197, kS197, kL198, kA198, kS198, kL199, kA199, kS199, kL200, kA200, kS200, kL201, kL202, kA202, kS202, kL203, kA203, kS203, kL204, kA204, kS204, kL205, kL206, kA206, kS206, nn_add, nn_mul, show (66 : Int32) = nI 66 from rfl, rcI_src (show 194 ≠ 199 by decide)]
    have e := rcI_s (I := I) (d := 199) (x := 0) (s := 194) (y := 66 * i) (n := j)
    rw [Nat.zero_add] at e
    rw [e, nI_succ]
  · simp only [f_X12_joined_b29]
    rw [if_pos (by decide)]
    simp (disch := first | assumption | omega) only [Option.bind_some, Option.map_some, xw_gR, xw_gN, xw_al, xw_ck, xw_uI, xw_ur, xup_at, xur_at, if_true, if_false, reduceIte, and_true, true_and, and_false, false_and, not_true_eq_false, not_false_eq_true, Nat.reduceEqDiff, eq_self, Nat.reduceAdd, Nat.reduceMul, kC1, kG1, kP1, kR1_0, kR1_1, kR1_2, kR1_3, kR1_4, kR1_5, kR1_6, kR1_7, kR1_8, kR1_9, kR1_10, kR1_11, kR1_12, kR1_13, kC2, kG2, kP2, kR2_0, kR2_1, kC3, kG3, kP3, kR3_0, kR3_1, kR3_2, kR3_3, kL4, kA4, kS4, kL5, kA5, kS5, kL6, kA6, kS6, kL7, kA7, kS7, kC8, kG8, kP8, kR8_0, kR8_1, kL9, kA9, kS9, kL10, kA10, kS10, kC11, kG11, kP11, kR11_0, kR11_1, kR11_2, kR11_3, kL12, kA12, kS12, kL13, kA13, kS13, kL14, kA14, kS14, kL15, kA15, kS15, kC16, kG16, kP16, kR16_0, kR16_1, kL17, kA17, kS17, kL18, kA18, kS18, kC19, kG19, kP19, kR19_0, kL20, kL141, kL146, kA146, kS146, kL151, kA151, kS151, kL156, kA156, kS156, kC157, kG157, kP157, kR157_0, kR157_1, kL158, kA158, kS158, kL159, kA159, kS159, kC161, kG161, kP161, kR161_0, kR161_1, kL162, kA162, kS162, kL163, kA163, kS163, kC165, kG165, kP165, kR165_0, kR165_1, kR165_2, kR165_3, kL166, kA166, kS166, kL167, kA167, kS167, kL168, kA168, kS168, kL169, kA169, kS169, kC170, kG170, kP170, kR170_0, kR170_1, kR170_2, kL171, kA171, kS171, kL172, kA172, kS172, kL173, kA173, kS173, kC174, kG174, kP174, kR174_0, kR174_1, kR174_2, kR174_3, kR174_4, kL175, kA175, kS175, kL176, kA176, kS176, kL177, kA177, kS177, kL178, kA178, kS178, kL179, kC180, kG180, kP180, kL181, kL182, kA182, kS182, kC183, kG183, kP183, kR183_1, kR183_3, kR183_5, kR183_6, kR183_7, kR183_8, kR183_9, kR183_21, kR183_26, kR183_27, kR183_30, kR183_31, kR183_33, kR183_34, kR183_36, kR183_37, kR183_38, kR183_39, kR183_40, kR183_41, kR183_42, kR183_43, kR183_44, kL184, kA184, kS184, kL185, kA185, kS185, kL186, kA186, kS186, kL187, kA187, kS187, kL188, kA188, kS188, kL189, kL190, kL191, kA191, kS191, kL192, kA192, kS192, kL193, kA193, kS193, kL194, kA194, kS194, kL195, kA195, kS195, kL196, kA196, kS196, kL197, kA197, kS197, kL198, kA198, kS198, kL199, kA199, kS199, kL200, kA200, kS200, kL201, kL202, kA202, kS202, kL203, kA203, kS203, kL204, kA204, kS204, kL205, kL206, kA206, kS206, h1]
    rw [h2]
    rfl
theorem op_joined : Op_joined INV := by
  intro n σ hn ⟨g, gT, gP, st, H⟩ a b c
  have hS := H.shp
  by_cases hno : a < 0 ∨ 2 < a
  · refine ⟨-100000, σ, σ, ?_, ?_, INV_i H.nop⟩
    · show f_X11_joined (xw σ (xI σ)) 1 a b c = _
      unfold f_X11_joined
      simp (disch := first | assumption | omega) only [Option.bind_some, Option.map_some, xw_gR, xw_gN, xw_al, xw_ck, xw_uI, xw_ur, xup_at, xur_at, if_true, if_false, reduceIte, and_true, true_and, and_false, false_and, not_true_eq_false, not_false_eq_true, Nat.reduceEqDiff, eq_self, Nat.reduceAdd, Nat.reduceMul, kC1, kG1, kP1, kR1_0, kR1_1, kR1_2, kR1_3, kR1_4, kR1_5, kR1_6, kR1_7, kR1_8, kR1_9, kR1_10, kR1_11, kR1_12, kR1_13, kC2, kG2, kP2, kR2_0, kR2_1, kC3, kG3, kP3, kR3_0, kR3_1, kR3_2, kR3_3, kL4, kA4, kS4, kL5, kA5, kS5, kL6, kA6, kS6, kL7, kA7, kS7, kC8, kG8, kP8, kR8_0, kR8_1, kL9, kA9, kS9, kL10, kA10, kS10, kC11, kG11, kP11, kR11_0, kR11_1, kR11_2, kR11_3, kL12, kA12, kS12, kL13, kA13, kS13, kL14, kA14, kS14, kL15, kA15, kS15, kC16, kG16, kP16, kR16_0, kR16_1, kL17, kA17, kS17, kL18, kA18, kS18, kC19, kG19, kP19, kR19_0, kL20, kL141, kL146, kA146, kS146, kL151, kA151, kS151, kL156, kA156, kS156, kC157, kG157, kP157, kR157_0, kR157_1, kL158, kA158, kS158, kL159, kA159, kS159, kC161, kG161, kP161, kR161_0, kR161_1, kL162, kA162, kS162, kL163, kA163, kS163, kC165, kG165, kP165, kR165_0, kR165_1, kR165_2, kR165_3, kL166, kA166, kS166, kL167, kA167, kS167, kL168, kA168, kS168, kL169, kA169, kS169, kC170, kG170, kP170, kR170_0, kR170_1, kR170_2, kL171, kA171, kS171, kL172, kA172, kS172, kL173, kA173, kS173, kC174, kG174, kP174, kR174_0, kR174_1, kR174_2, kR174_3, kR174_4, kL175, kA175, kS175, kL176, kA176, kS176, kL177, kA177, kS177, kL178, kA178, kS178, kL179, kC180, kG180, kP180, kL181, kL182, kA182, kS182, kC183, kG183, kP183, kR183_1, kR183_3, kR183_5, kR183_6, kR183_7, kR183_8, kR183_9, kR183_21, kR183_26, kR183_27, kR183_30, kR183_31, kR183_33, kR183_34, kR183_36, kR183_37, kR183_38, kR183_39, kR183_40, kR183_41, kR183_42, kR183_43, kR183_44, kL184, kA184, kS184, kL185, kA185, kS185, kL186, kA186, kS186, kL187, kA187, kS187, kL188, kA188, kS188, kL189, kL190, kL191, kA191, kS191, kL192, kA192, kS192, kL193, kA193, kS193, kL194, kA194, kS194, kL195, kA195, kS195, kL196, kA196, kS196, kL197, kA197, kS197, kL198, kA198, kS198, kL199, kA199, kS199, kL200, kA200, kS200, kL201, kL202, kA202, kS202, kL203, kA203, kS203, kL204, kA204, kS204, kL205, kL206, kA206, kS206, slotAt_no hS hno]
      rfl
    · show f_X12_joined (xw σ (xI σ)) 183 a b c = _
      unfold f_X12_joined
      rw [in_02, if_pos hno]
      rfl
  obtain ⟨i, hi3, rfl⟩ : ∃ i, i < 3 ∧ a = nI i := by
    obtain ⟨i, hi, rfl⟩ := nn_of (fun z => hno (.inl z))
    refine ⟨i, ?_, rfl⟩
    have : ¬ (nI 2 < nI i) := fun z => hno (.inr z)
    rw [nn_lt (by omega) hi] at this
    omega
  have hz : (142 + 5 * i = 0) = False := eq_false (by omega)
  obtain ⟨f, cc, s1, s2, s3, s4, s5, s6, s7⟩ := H.slt i hi3
  rcases (show f = 0 ∨ f = 1 by omega) with rfl | rfl
  · refine ⟨-100000, σ, σ, ?_, ?_, INV_i H.nop⟩
    · show f_X11_joined (xw σ (xI σ)) 1 (nI i) b c = _
      unfold f_X11_joined
      simp (disch := first | assumption | omega) only [Option.bind_some, Option.map_some, xw_gR, xw_gN, xw_al, xw_ck, xw_uI, xw_ur, xup_at, xur_at, if_true, if_false, reduceIte, and_true, true_and, and_false, false_and, not_true_eq_false, not_false_eq_true, Nat.reduceEqDiff, eq_self, Nat.reduceAdd, Nat.reduceMul, kC1, kG1, kP1, kR1_0, kR1_1, kR1_2, kR1_3, kR1_4, kR1_5, kR1_6, kR1_7, kR1_8, kR1_9, kR1_10, kR1_11, kR1_12, kR1_13, kC2, kG2, kP2, kR2_0, kR2_1, kC3, kG3, kP3, kR3_0, kR3_1, kR3_2, kR3_3, kL4, kA4, kS4, kL5, kA5, kS5, kL6, kA6, kS6, kL7, kA7, kS7, kC8, kG8, kP8, kR8_0, kR8_1, kL9, kA9, kS9, kL10, kA10, kS10, kC11, kG11, kP11, kR11_0, kR11_1, kR11_2, kR11_3, kL12, kA12, kS12, kL13, kA13, kS13, kL14, kA14, kS14, kL15, kA15, kS15, kC16, kG16, kP16, kR16_0, kR16_1, kL17, kA17, kS17, kL18, kA18, kS18, kC19, kG19, kP19, kR19_0, kL20, kL141, kL146, kA146, kS146, kL151, kA151, kS151, kL156, kA156, kS156, kC157, kG157, kP157, kR157_0, kR157_1, kL158, kA158, kS158, kL159, kA159, kS159, kC161, kG161, kP161, kR161_0, kR161_1, kL162, kA162, kS162, kL163, kA163, kS163, kC165, kG165, kP165, kR165_0, kR165_1, kR165_2, kR165_3, kL166, kA166, kS166, kL167, kA167, kS167, kL168, kA168, kS168, kL169, kA169, kS169, kC170, kG170, kP170, kR170_0, kR170_1, kR170_2, kL171, kA171, kS171, kL172, kA172, kS172, kL173, kA173, kS173, kC174, kG174, kP174, kR174_0, kR174_1, kR174_2, kR174_3, kR174_4, kL175, kA175, kS175, kL176, kA176, kS176, kL177, kA177, kS177, kL178, kA178, kS178, kL179, kC180, kG180, kP180, kL181, kL182, kA182, kS182, kC183, kG183, kP183, kR183_1, kR183_3, kR183_5, kR183_6, kR183_7, kR183_8, kR183_9, kR183_21, kR183_26, kR183_27, kR183_30, kR183_31, kR183_33, kR183_34, kR183_36, kR183_37, kR183_38, kR183_39, kR183_40, kR183_41, kR183_42, kR183_43, kR183_44, kL184, kA184, kS184, kL185, kA185, kS185, kL186, kA186, kS186, kL187, kA187, kS187, kL188, kA188, kS188, kL189, kL190, kL191, kA191, kS191, kL192, kA192, kS192, kL193, kA193, kS193, kL194, kA194, kS194, kL195, kA195, kS195, kL196, kA196, kS196, kL197, kA197, kS197, kL198, kA198, kS198, kL199, kA199, kS199, kL200, kA200, kS200, kL201, kL202, kA202, kS202, kL203, kA203, kS203, kL204, kA204, kS204, kL205, kL206, kA206, kS206, slotAt_ok hS hi3, hz, slG hS hi3, s3, show (nI 0 = 0) = True from eq_true rfl]
      rfl
    · show f_X12_joined (xw σ (xI σ)) 183 (nI i) b c = _
      unfold f_X12_joined
      rw [in_02, if_neg hno]
      simp (disch := first | assumption | omega) only [Option.bind_some, Option.map_some, xw_gR, xw_gN, xw_al, xw_ck, xw_uI, xw_ur, xup_at, xur_at, if_true, if_false, reduceIte, and_true, true_and, and_false, false_and, not_true_eq_false, not_false_eq_true, Nat.reduceEqDiff, eq_self, Nat.reduceAdd, Nat.reduceMul, kC1, kG1, kP1, kR1_0, kR1_1, kR1_2, kR1_3, kR1_4, kR1_5, kR1_6, kR1_7, kR1_8, kR1_9, kR1_10, kR1_11, kR1_12, kR1_13, kC2, kG2, kP2, kR2_0, kR2_1, kC3, kG3, kP3, kR3_0, kR3_1, kR3_2, kR3_3, kL4, kA4, kS4, kL5, kA5, kS5, kL6, kA6, kS6, kL7, kA7, kS7, kC8, kG8, kP8, kR8_0, kR8_1, kL9, kA9, kS9, kL10, kA10, kS10, kC11, kG11, kP11, kR11_0, kR11_1, kR11_2, kR11_3, kL12, kA12, kS12, kL13, kA13, kS13, kL14, kA14, kS14, kL15, kA15, kS15, kC16, kG16, kP16, kR16_0, kR16_1, kL17, kA17, kS17, kL18, kA18, kS18, kC19, kG19, kP19, kR19_0, kL20, kL141, kL146, kA146, kS146, kL151, kA151, kS151, kL156, kA156, kS156, kC157, kG157, kP157, kR157_0, kR157_1, kL158, kA158, kS158, kL159, kA159, kS159, kC161, kG161, kP161, kR161_0, kR161_1, kL162, kA162, kS162, kL163, kA163, kS163, kC165, kG165, kP165, kR165_0, kR165_1, kR165_2, kR165_3, kL166, kA166, kS166, kL167, kA167, kS167, kL168, kA168, kS168, kL169, kA169, kS169, kC170, kG170, kP170, kR170_0, kR170_1, kR170_2, kL171, kA171, kS171, kL172, kA172, kS172, kL173, kA173, kS173, kC174, kG174, kP174, kR174_0, kR174_1, kR174_2, kR174_3, kR174_4, kL175, kA175, kS175, kL176, kA176, kS176, kL177, kA177, kS177, kL178, kA178, kS178, kL179, kC180, kG180, kP180, kL181, kL182, kA182, kS182, kC183, kG183, kP183, kR183_1, kR183_3, kR183_5, kR183_6, kR183_7, kR183_8, kR183_9, kR183_21, kR183_26, kR183_27, kR183_30, kR183_31, kR183_33, kR183_34, kR183_36, kR183_37, kR183_38, kR183_39, kR183_40, kR183_41, kR183_42, kR183_43, kR183_44, kL184, kA184, kS184, kL185, kA185, kS185, kL186, kA186, kS186, kL187, kA187, kS187, kL188, kA188, kS188, kL189, kL190, kL191, kA191, kS191, kL192, kA192, kS192, kL193, kA193, kS193, kL194, kA194, kS194, kL195, kA195, kS195, kL196, kA196, kS196, kL197, kA197, kS197, kL198, kA198, kS198, kL199, kA199, kS199, kL200, kA200, kS200, kL201, kL202, kA202, kS202, kL203, kA203, kS203, kL204, kA204, kS204, kL205, kL206, kA206, kS206, one0, s4, show (nI 0 = 0) = True from eq_true rfl]
      rfl
  obtain ⟨τ, e1, H1, -, L1, u1, -⟩ := levelsNow_ok (by omega) H
  have hf1 : xI τ (142 + 5 * i) 2 = nI 1 := by rw [u1 _ _ (by omega)]; exact s3
  obtain ⟨υ, e2, H2, W2, u2, ho⟩ := heldWays_ok H1 hi3 hf1
  have hS2 := H2.shp
  have hg := H2.grd.1
  have r191 : xI υ 191 = xI τ 191 := by funext k; exact u2 191 k (by omega)
  have r194 : ∀ k, xI υ 194 k = xI τ 194 k := fun k => u2 194 k (by omega)
  obtain ⟨F, hF⟩ : ∃ F, F = fun k => xI τ 194 (66 * i + k) := ⟨_, rfl⟩
  rw [← hF] at W2 ho
  have ho1 : RO g (xI τ 191) := H1.now.2.1
  obtain ⟨m, hm⟩ : ∃ m : Nat → Nat, m = fun k : Nat => lC g (xI τ 191) ((k : Int) - 144) := ⟨_, rfl⟩
  obtain ⟨t, ht⟩ : ∃ t : Nat → Nat, t = fun k : Nat => lC g F ((k : Int) - 144) := ⟨_, rfl⟩
  have hmb : ∀ k, m k ≤ 65536 := fun k => by rw [hm]; exact lC_b hg _ _
  have htb : ∀ k, t k ≤ 65536 := fun k => by rw [ht]; exact lC_b hg _ _
  have KW : υ.1 (146 + 5 * i) = (20, 289) := by rw [xw_K hS2 (by omega) (by omega) (by omega), (slK i hi3).2.1]
  have e3 := joinWays_l (σ := υ) (L := xL υ) (I := xI υ) hS2 KW hmb htb (fun k hk => by rw [u2 166 k (by omega), L1.1 k hk, hm]) (fun k hk => by rw [W2 k hk, ht])
  obtain ⟨C, hC⟩ : ∃ C : Nat → Nat, C = cv m t 289 289 := ⟨_, rfl⟩
  rw [← hC] at e3
  have hCb : ∀ k, C k ≤ 4294967296000 := fun k => by
    rw [hC]; have := cv_b hmb htb 289 289 k; omega
  obtain ⟨LL, hLL⟩ : ∃ LL, LL = lgL (xL υ) 181 577 C := ⟨_, rfl⟩
  rw [← hLL] at e3
  have hL1 : ∀ k, k < 577 → LL 181 k = lN (C k) := fun k hk => by rw [hLL]; exact lgL_in hk
  have H3 : IV n (xw (xl υ LL) (xI υ)) g gT gP st := H2.longs (fun k => by rw [hLL]; exact lgL_out (by decide))
  obtain ⟨I', e4, H4, K4, u4⟩ := knows_ok H3
  have A : f_X11_joined σ 1 (nI i) b c = f_X11_joined_j30 (xw (xl υ LL) (xI υ)) 1 b c := by
    show f_X11_joined (xw σ (xI σ)) 1 (nI i) b c = _
    unfold f_X11_joined
    have j1 : f_X11_joinWays σ 1 (142 + 5 * i) = some (xw (xl υ LL) (xI υ)) := by
      unfold f_X11_joinWays f_X11_joinWays_j4
      rw [xck_ok (sT1 hS), Option.bind_some, e1, Option.bind_some]
      dsimp only
      rw [xnz_ok (by decide), Option.bind_some, show xgR τ 165 4 0 = some 166 from kR165_0 H1.shp, Option.bind_some, xck_ok (sT1 H1.shp), Option.bind_some, e2, Option.bind_some]
      dsimp only
      rw [xnz_ok (by omega), Option.bind_some]
      exact e3
    rw [xw_ck, kC1 hS, Option.bind_some, slotAt_ok hS hi3, Option.bind_some, if_neg (by omega), slG hS hi3, Option.bind_some, s3, if_neg (by decide), Option.bind_some]
    show ((f_X11_joinWays σ 1 (142 + 5 * i)).bind _) = _
    rw [j1, Option.bind_some]
  obtain ⟨J, hJ⟩ : ∃ J, J = rcI I' 199 0 194 (66 * i) 66 := ⟨_, rfl⟩
  have uJ : ∀ a k, a ≠ 199 → J a k = I' a k := fun a k h => by rw [hJ, rcI_out (by omega)]
  have v4 : ∀ a k, (a < 183 ∨ 206 < a ∨ a = 184 ∨ a = 191 ∨ (193 ≤ a ∧ a ≤ 195) ∨ (a = 183 ∧ (k = 2 ∨ (16 ≤ k ∧ k ≤ 20) ∨ k = 28 ∨ k = 29))) → I' a k = xI υ a k := fun a k h => u4 a k (by omega) (by omega)
  have f199 : ∀ k, k < 66 → J 199 k = F k := fun k hk => by
    have := rcI_in (I := I') (d := 199) (x := 0) (s := 194) (y := 66 * i) (n := 66) hk
    rw [Nat.zero_add] at this
    rw [hJ, this, v4 _ _ (by omega), r194, hF]
  have f191 : ∀ k, I' 191 k = xI τ 191 k := fun k => by rw [v4 _ _ (by omega), r191]
  have hoF : RO g (J 199) := RO_congr hg f199 ho
  have hGJ : GRD J g := GRD_c (fun a k z => uJ a k (by unfold sGRD at z; omega)) H4.grd
  have l1 := laysMany_ok (σ := xl υ LL) (I := J) (F := J 199) hS2 hGJ hoF rfl
  obtain ⟨Q, hQ⟩ : ∃ Q, Q = wyI J 200 g (J 199) 150 301 (gSt g) := ⟨_, rfl⟩
  rw [← hQ] at l1
  have uQ : ∀ a k, a ≠ 200 → Q a k = J a k := fun a k h => by rw [hQ, wyI_out h]
  obtain ⟨m', hm'⟩ : ∃ m' : Nat → Nat, m' = fun k : Nat => lC g (xI τ 191) ((k : Int) - 150) := ⟨_, rfl⟩
  obtain ⟨t', ht'⟩ : ∃ t' : Nat → Nat, t' = fun k : Nat => lC g F ((k : Int) - 150) := ⟨_, rfl⟩
  have cF := (ct_congr hg (F := F) (F' := J 199) (fun k hk => f199 k (by omega))).2.2.2.1
  have cM := (ct_congr hg (F := xI τ 191) (F' := I' 191) (fun k hk => f191 k)).2.2.2.1
  have hmb' : ∀ k, m' k ≤ 65536 := fun k => by rw [hm']; exact lC_b hg _ _
  have htb' : ∀ k, t' k ≤ 65536 := fun k => by rw [ht']; exact lC_b hg _ _
  have q1 : ∀ k, k < 301 → Q 197 k = nI (m' k) := fun k hk => by
    rw [uQ _ _ (by omega), uJ _ _ (by omega), K4.2.1 k hk, hm', cM]
  have q2 : ∀ k, k < 301 → Q 200 k = nI (t' k) := fun k hk => by
    rw [hQ]; unfold wyI; rw [if_pos ⟨rfl, hk⟩, ht', ← cF]; rfl
  have m0 : ∀ a, a < 6 ∨ 295 ≤ a → m' a = 0 := fun a h => by rw [hm']; exact lC_big hg ho1 (e := (a : Int) - 150) (by omega)
  have t0 : ∀ a, a < 6 ∨ 295 ≤ a → t' a = 0 := fun a h => by rw [ht']; exact lC_big hg ho (e := (a : Int) - 150) (by omega)
  have m6 : ∀ a, a < 289 → m' (6 + a) = m a := fun a h => by rw [hm', hm]; dsimp only; congr 1; omega
  have t6 : ∀ a, a < 289 → t' (6 + a) = t a := fun a h => by rw [ht', ht]; dsimp only; congr 1; omega
  obtain ⟨C', hC'⟩ : ∃ C' : Nat → Nat, C' = cv m' t' 301 301 := ⟨_, rfl⟩
  have c1 : ∀ e, C' (12 + e) = C e := fun e => by rw [hC', hC]; exact cv_shift m6 m0 t6 t0
  have c2 : ∀ e, e < 12 → C' e = 0 := fun e h => by rw [hC']; exact cv_out (m := m) (t := t) m0 t0 (.inl h)
  have c3 : ∀ e, 589 ≤ e → C' e = 0 := fun e h => by rw [hC']; exact cv_out (m := m) (t := t) m0 t0 (.inr h)
  have cb : ∀ k, C' k ≤ 4294967296000 := fun k => by
    rw [hC']; have := cv_b hmb' htb' 301 301 k; omega
  obtain ⟨MM, hMM⟩ : ∃ MM, MM = lgL LL 201 601 C' := ⟨_, rfl⟩
  have hL2 : ∀ k, k < 601 → MM 201 k = lN (C' k) := fun k hk => by rw [hMM]; exact lgL_in hk
  have B : ∀ z, xloop (f_X12_joined_b178 (xw (xl υ MM) Q) 183 b c) ((0 : Int32), (0 : Int32)) = some z → f_X12_joined (xw (xl υ LL) (xI υ)) 183 (nI i) b c = some z := by
    intro z hz
    rw [hMM, hC'] at hz
    have p := prod12 (σ := υ) (L := LL) (I := Q) hS2 hmb' htb' q1 q2 b c hz
    have s4' : xI υ 195 i = nI 1 := by rw [u2 _ _ (by omega), u1 _ _ (by omega)]; exact s4
    rw [hJ] at l1
    have k := jcopy (σ := xl υ LL) (I := I') hS2 hi3 b c l1 p
    unfold f_X12_joined
    rw [in_02, if_neg hno, Option.bind_some, if_neg (by decide), show xgR (xw (xl υ LL) (xI υ)) 183 12 31 = some 195 from kR183_31 (σ := xl υ LL) hS2, Option.bind_some, show xaI (xw (xl υ LL) (xI υ)) 22 195 (nI i) = some (xI υ 195 i) from kA195 (σ := xl υ LL) hS2 (by omega), Option.bind_some, s4', if_neg (by decide), xck_ok (sT183 H3.shp), Option.bind_some, e4, Option.bind_some]
    exact k
  have HE : IV n (xw (xl υ MM) Q) g gT gP st := by
    have h5 : IV n (xw (xl υ MM) I') g gT gP st := (IV.longs (L := MM) H4 (fun k => by rw [hMM]; exact lgL_out (by decide)))
    refine h5.model (I' := Q) (fun a k h => ?_) (KNW_c hg (I := I') (fun a k q => ?_) h5.knw)
    · rw [uQ a k (by omega), uJ a k (by omega)]; rfl
    · rw [uQ a k (by unfold sKNW at q; omega), uJ a k (by unfold sKNW at q; omega)]
  have hN := jP_top c3
  rw [show 589 = 12 + 577 from rfl, jP_shift c2 c1] at hN
  by_cases hb : ∃ j, j < fb_ct (jP C) 577 ∧ b = nI j
  · obtain ⟨j, hj, rfl⟩ := hb
    obtain ⟨k, hk, hp, hki⟩ := fb_ct_kth hj
    have hle := fb_ct_le (jP C) 577
    have hp' : C k ≠ 0 := by unfold jP at hp; simpa using hp
    have hne : ¬ (nI j = (-1 : Int32)) := fun z => by
      have := congrArg Int32.toInt z
      rw [nI_toInt (by omega)] at this
      have e : (-1 : Int32).toInt = -1 := rfl
      omega
    have a1 := cjA (σ := υ) (L := LL) (I := xI υ) hS2 hL1 hCb hk hp'
    have a2 := mjA (σ := υ) (L := MM) (I := Q) (y := c) hS2 hL2 cb (k := 12 + k) (by omega) (by rw [c1]; exact hp')
    rw [jP_shift c2 c1, hki, c1] at a2
    rw [hki] at a1
    have e300 : nI (12 + k) - (300 : Int32) = nI k - (288 : Int32) := by
      rw [iI_n, iI_n, show (300 : Int32) = iI 300 from rfl, show (288 : Int32) = iI 288 from rfl, iI_sub, iI_sub]; congr 1; omega
    rw [e300] at a2
    refine ⟨_, xw (xl υ LL) (xI υ), _, ?_, B _ a2, INV_i HE.nop⟩
    rw [A]
    unfold f_X11_joined_j30
    rw [if_neg hne, xck_ok (sT1 H3.shp), Option.bind_some, a1, Option.bind_some, if_neg (nI_pos (by omega)), show xgR (xw (xl υ LL) (xI υ)) 1 11 12 = some 181 from kR1_12 (σ := xl υ LL) hS2, Option.bind_some, show xal (xw (xl υ LL) (xI υ)) 181 = some (nI 577) from kL181 (σ := xl υ LL) hS2, Option.bind_some, if_pos (by rw [nn_lt (by omega) (by omega)]; exact hk), Option.bind_some, xl_aL (xw_K hS2 (by decide) (by decide) (by decide)) hk (by decide), Option.bind_some, hL1 k hk]
    by_cases h : c = 0
    · rw [if_pos h, if_pos h]
    · rw [if_neg h, if_neg h]
      by_cases h1 : c = 1
      · rw [if_pos h1, if_pos h1]
      · rw [if_neg h1, if_neg h1]
  · have hb1 : ∀ j, j < fb_ct (jP C) 577 → b ≠ nI j := fun j h1 h2 => hb ⟨j, h1, h2⟩
    have a2 := mjN (σ := υ) (L := MM) (I := Q) (x := b) (y := c) hS2 hL2 cb (by rw [hN]; exact hb1)
    rw [hN] at a2
    refine ⟨_, xw (xl υ LL) (xI υ), _, ?_, B _ a2, INV_i HE.nop⟩
    rw [A]
    unfold f_X11_joined_j30
    by_cases h : b = -1
    · rw [if_pos h, if_pos h, xck_ok (sT1 H3.shp), Option.bind_some, cjC hS2 hL1 hCb]
      rfl
    · rw [if_neg h, if_neg h, xck_ok (sT1 H3.shp), Option.bind_some, cjN hS2 hL1 hCb hb1, Option.bind_some, if_pos (by decide)]
end
section
/-! the states of a small strip, sorted by energy -/
def tP (g : GD) (F : Nat → Int32) (k : Nat) : Nat := fb_sm (fun j : Nat => lC g F ((j : Int) - 144)) k
def tK (g : GD) (F : Nat → Int32) (s : Nat) : Nat := (eE g (zR F) s + 144).toNat
def tQ (g : GD) (F : Nat → Int32) (s : Nat) : Nat := tP g F (tK g F s) + fb_ct (lE g F ((tK g F s : Int) - 144)) s
section TORD
variable {g : GD} {F : Nat → Int32}
theorem tK_ok (hg : g ∈ gAll) (ho : RO g F) (s : Nat) : tK g F s < 289 ∧ (tK g F s : Int) - 144 = eE g (zR F) s := by
  have := eE_b hg ho s
  unfold tK
  omega
theorem tP_s {k : Nat} : tP g F (k + 1) = tP g F k + lC g F ((k : Int) - 144) := rfl
theorem tP_m {i j : Nat} (h : i ≤ j) : tP g F i ≤ tP g F j := by
  have := fb_sm_mono (fun j : Nat => lC g F ((j : Int) - 144)) i (j - i)
  rw [show i + (j - i) = j by omega] at this
  exact this
theorem tE_ok (hg : g ∈ gAll) (ho : RO g F) {s : Nat} (hl : lW g F s = true) : lE g F ((tK g F s : Int) - 144) s = true := by
  unfold lE
  rw [hl, (tK_ok hg ho s).2]
  simp
theorem ct_in {p : Nat → Bool} {s n : Nat} (h : s < n) (hp : p s = true) : fb_ct p s < fb_ct p n := by
  have h1 := fb_ct_mono p (show s + 1 ≤ n by omega)
  rw [fb_ct_succ, hp] at h1
  simp at h1
  omega
theorem tQ_lt (hg : g ∈ gAll) (ho : RO g F) {s : Nat} (hs : s < gSt g) (hl : lW g F s = true) : tQ g F s < tP g F (tK g F s + 1) := by
  rw [tP_s]
  have := ct_in hs (tE_ok hg ho hl)
  unfold tQ lC
  omega
theorem tQ_ge {s : Nat} : tP g F (tK g F s) ≤ tQ g F s := Nat.le_add_right _ _
theorem tQ_K (hg : g ∈ gAll) (ho : RO g F) {a b : Nat} (ha : a < gSt g) (hla : lW g F a = true) (h : tQ g F b ≤ tQ g F a) : tK g F b ≤ tK g F a := by
  by_cases z : tK g F b ≤ tK g F a
  · exact z
  · have h1 := tQ_lt hg ho ha hla
    have h2 := tP_m (g := g) (F := F) (show tK g F a + 1 ≤ tK g F b by omega)
    have h3 := tQ_ge (g := g) (F := F) (s := b)
    omega
theorem tQ_inj (hg : g ∈ gAll) (ho : RO g F) {a b : Nat} (ha : a < gSt g) (hb : b < gSt g) (hla : lW g F a = true) (hlb : lW g F b = true) (h : tQ g F a = tQ g F b) : a = b := by
  have h1 := tQ_K hg ho ha hla (b := b) (by omega)
  have h2 := tQ_K hg ho hb hlb (b := a) (by omega)
  have h3 : tK g F a = tK g F b := by omega
  unfold tQ at h
  rw [h3] at h
  have e1 := tE_ok hg ho hla
  have e2 := tE_ok hg ho hlb
  rw [h3] at e1
  exact fb_ct_kth_one e1 e2 (by omega)
theorem tQ_top (hg : g ∈ gAll) (ho : RO g F) {s : Nat} (hs : s < gSt g) (hl : lW g F s = true) : tQ g F s < tP g F 289 := by
  have h1 := tQ_lt hg ho hs hl
  have h2 := (tK_ok hg ho s).1
  have h3 := tP_m (g := g) (F := F) (show tK g F s + 1 ≤ 289 by omega)
  omega
theorem tQ_on (hg : g ∈ gAll) (ho : RO g F) : ∀ k, k ≤ 289 → ∀ i, i < tP g F k → ∃ s, s < gSt g ∧ lW g F s = true ∧ tQ g F s = i := by
  intro k
  induction k with
  | zero => intro _ i hi; exact absurd hi (Nat.not_lt_zero _)
  | succ k ih =>
    intro hk i hi
    by_cases h : i < tP g F k
    · exact ih (by omega) i h
    · rw [tP_s] at hi
      have h1 : i - tP g F k < fb_ct (lE g F ((k : Int) - 144)) (gSt g) := by unfold lC at hi; omega
      obtain ⟨s, s1, s2, s3⟩ := fb_ct_kth h1
      have s2' := s2
      unfold lE at s2
      simp only [Bool.and_eq_true, decide_eq_true_eq] at s2
      have e : tK g F s = k := by
        have := (tK_ok hg ho s).2
        omega
      refine ⟨s, s1, s2.1, ?_⟩
      unfold tQ
      rw [e, s3]
      omega
theorem t_ord (hg : g ∈ gAll) (ho : RO g F) : ∃ o : Nat → Nat, (∀ i, i < tP g F 289 → o i < gSt g ∧ lW g F (o i) = true ∧ tQ g F (o i) = i) ∧ (∀ i j, i < j → j < tP g F 289 → eE g (zR F) (o i) ≤ eE g (zR F) (o j) ∧ o i ≠ o j) ∧ (∀ s, s < gSt g → lW g F s = true → ∃ i, i < tP g F 289 ∧ o i = s) ∧ tP g F 289 ≤ gSt g := by
  have h : ∀ i, ∃ s, i < tP g F 289 → s < gSt g ∧ lW g F s = true ∧ tQ g F s = i := by
    intro i
    by_cases z : i < tP g F 289
    · obtain ⟨s, h⟩ := tQ_on hg ho 289 (Nat.le_refl _) i z
      exact ⟨s, fun _ => h⟩
    · exact ⟨0, fun q => absurd q z⟩
  obtain ⟨o, h⟩ := Classical.axiomOfChoice h
  have h2 : ∀ i j, i < j → j < tP g F 289 → eE g (zR F) (o i) ≤ eE g (zR F) (o j) ∧ o i ≠ o j := by
    intro i j hij hj
    obtain ⟨i1, i2, i3⟩ := h i (by omega)
    obtain ⟨j1, j2, j3⟩ := h j hj
    have hk := tQ_K hg ho j1 j2 (b := o i) (by omega)
    have a1 := (tK_ok hg ho (o i)).2
    have a2 := (tK_ok hg ho (o j)).2
    refine ⟨by omega, fun z => ?_⟩
    rw [z] at i3
    omega
  refine ⟨o, h, h2, fun s hs hl => ?_, fb_holes _ _ o (fun i hi => (h i hi).1) (fun i j hij hj => (h2 i j hij hj).2)⟩
  have ht := tQ_top hg ho hs hl
  obtain ⟨b1, b2, b3⟩ := h _ ht
  exact ⟨_, ht, tQ_inj hg ho b1 hs b2 hl b3⟩
end TORD
section SORT
variable {σ : XS} {I : Nat → Nat → Int32} {g : GD} {F : Nat → Int32} {c m : Nat}
def tS (σ : XS) : XS := xuR (xuR σ 174 5 157) 174 6 16
theorem tS_R {a j : Nat} (h : ¬ (a = 174 ∧ (j = 5 ∨ j = 6))) : xR (tS σ) a j = xR σ a j := by
  show xup (xup (xR σ) 174 5 157) 174 6 16 a j = _
  unfold xup
  rw [if_neg (by omega), if_neg (by omega)]
theorem tS_Shp (hS : Shp σ) : Shp (tS σ) := by
  refine ⟨hS.1, hS.2.1, fun a ha j hj => ?_⟩
  have hz : ∀ j, (j = 5 ∨ j = 6) → (shR.getD 174 []).getD j 0 = 0 := fun j h => by rcases h with rfl | rfl <;> decide +kernel
  rw [tS_R (fun z => hj (by rw [z.1]; exact hz j z.2))]
  exact hS.2.2 a ha j hj
theorem tS_E (hE : EnO σ 157 c m) : EnO (tS σ) 157 c m := ⟨hE.1, by rw [tS_R (by omega)]; exact hE.2.1, hE.2.2⟩
theorem tS_K (hK : ENK I (xR σ) (xlen σ) 157 g F) : ENK I (xR (tS σ)) (xlen (tS σ)) 157 g F := by
  unfold ENK at *
  rw [tS_R (by omega)]
  exact hK
theorem sort1_ok {Q : XS → Prop} (hS : Shp σ) (hW : WAY I 166 g F) (h8 : I 174 8 = nI 0) (he : ∀ J : Nat → Nat → Int32, J 174 8 = nI (tP g F 289) → (∀ j, j < 289 → J 176 j = nI (tP g F j)) → (∀ a k, a ≠ 176 → ¬ (a = 174 ∧ k = 8) → J a k = I a k) → ∃ r, f_X9_sort_b24 174 157 165 16 (nI 289, xw σ J) = some (.inr r) ∧ Q r) : ∃ r, xloop (f_X9_sort_b24 174 157 165 16) ((0 : Int32), xw σ I) = some r ∧ Q r := by
  refine xforI (fun k x => ∃ J : Nat → Nat → Int32, x = (nI k, xw σ J) ∧ J 174 8 = nI (tP g F k) ∧ (∀ j, j < k → J 176 j = nI (tP g F j)) ∧ ∀ a k, a ≠ 176 → ¬ (a = 174 ∧ k = 8) → J a k = I a k) 289 ⟨I, rfl, h8, fun j hj => absurd hj (Nat.not_lt_zero _), fun _ _ _ _ => rfl⟩ ?_ ?_
  · rintro k x hk ⟨J, rfl, j1, j2, j3⟩
    refine ⟨_, ?_, xup (xup J 176 k (nI (tP g F k))) 174 8 (nI (tP g F (k + 1))), rfl, ?_, ?_, ?_⟩
    · simp only [f_X9_sort_b24]
      rw [if_neg (by rw [show (289 : Int32) = nI 289 from rfl, nn_le (by omega) (by omega)]; omega)]
      simp (disch := first | assumption | omega) only [Option.bind_some, Option.map_some, xw_gR, xw_gN, xw_al, xw_ck, xw_uI, xw_ur, xup_at, xur_at, if_true, if_false, reduceIte, and_true, true_and, and_false, false_and, not_true_eq_false, not_false_eq_true, Nat.reduceEqDiff, eq_self, Nat.reduceAdd, Nat.reduceMul, kC1, kG1, kP1, kR1_0, kR1_1, kR1_2, kR1_3, kR1_4, kR1_5, kR1_6, kR1_7, kR1_8, kR1_9, kR1_10, kR1_11, kR1_12, kR1_13, kC2, kG2, kP2, kR2_0, kR2_1, kC3, kG3, kP3, kR3_0, kR3_1, kR3_2, kR3_3, kL4, kA4, kS4, kL5, kA5, kS5, kL6, kA6, kS6, kL7, kA7, kS7, kC8, kG8, kP8, kR8_0, kR8_1, kL9, kA9, kS9, kL10, kA10, kS10, kC11, kG11, kP11, kR11_0, kR11_1, kR11_2, kR11_3, kL12, kA12, kS12, kL13, kA13, kS13, kL14, kA14, kS14, kL15, kA15, kS15, kC16, kG16, kP16, kR16_0, kR16_1, kL17, kA17, kS17, kL18, kA18, kS18, kC19, kG19, kP19, kR19_0, kL20, kL141, kL146, kA146, kS146, kL151, kA151, kS151, kL156, kA156, kS156, kC157, kG157, kP157, kR157_0, kR157_1, kL158, kA158, kS158, kL159, kA159, kS159, kC161, kG161, kP161, kR161_0, kR161_1, kL162, kA162, kS162, kL163, kA163, kS163, kC165, kG165, kP165, kR165_0, kR165_1, kR165_2, kR165_3, kL166, kA166, kS166, kL167, kA167, kS167, kL168, kA168, kS168, kL169, kA169, kS169, kC170, kG170, kP170, kR170_0, kR170_1, kR170_2, kL171, kA171, kS171, kL172, kA172, kS172, kL173, kA173, kS173, kC174, kG174, kP174, kR174_0, kR174_1, kR174_2, kR174_3, kR174_4, kL175, kA175, kS175, kL176, kA176, kS176, kL177, kA177, kS177, kL178, kA178, kS178, kL179, kC180, kG180, kP180, kL181, kL182, kA182, kS182, kC183, kG183, kP183, kR183_1, kR183_3, kR183_5, kR183_6, kR183_7, kR183_8, kR183_9, kR183_21, kR183_26, kR183_27, kR183_30, kR183_31, kR183_33, kR183_34, kR183_36, kR183_37, kR183_38, kR183_39, kR183_40, kR183_41, kR183_42, kR183_43, kR183_44, kL184, kA184, kS184, kL185, kA185, kS185, kL186, kA186, kS186, kL187, kA187, kS187, kL188, kA188, kS188, kL189, kL190, kL191, kA191, kS191, kL192, kA192, kS192, kL193, kA193, kS193, kL194, kA194, kS194, kL195, kA195, kS195, kL196, kA196, kS196, kL197, kA197, kS197, kL198, kA198, kS198, kL199, kA199, kS199, kL200, kA200, kS200, kL201, kL202, kA202, kS202, kL203, kA203, kS203, kL204, kA204, kS204, kL205, kL206, kA206, kS206, j1, j3 166 k (by omega) (by omega), hW k hk, nn_add]
      rw [nI_succ]
      rfl
    · rw [xup_at, if_pos ⟨rfl, rfl⟩]
    · intro j hj
      rw [xup_at, if_neg (by omega), xup_at]
      by_cases z : j = k
      · rw [if_pos ⟨rfl, z⟩, z]
      · rw [if_neg (by omega)]; exact j2 j (by omega)
    · intro a k h1 h2
      rw [xup_at, if_neg h2, xup_at, if_neg (by omega)]; exact j3 a k h1 h2
  · rintro x ⟨J, rfl, j1, j2, j3⟩
    exact he J j1 j2 j3
theorem put_ok (hS : Shp σ) {k p s : Nat} (hk : k < 289) (hp : p < 1024) (hv : I 176 k = nI p) : f_X9_putInOrder (xw σ I) 174 (nI s) (nI k) = some (xw σ (xup (xup I 175 p (nI s)) 176 k (nI (p + 1)))) := by
  unfold f_X9_putInOrder
  rw [if_neg (nI_pos (by omega)), if_neg (by rw [show (289 : Int32) = nI 289 from rfl, nn_le (by omega) (by omega)]; omega)]
  have e : ((1024 : Int32) ≤ nI p) = False := by rw [show (1024 : Int32) = nI 1024 from rfl, nn_le (by omega) (by omega)]; exact eq_false (by omega)
  simp (disch := first | assumption | omega) only [Option.bind_some, Option.map_some, xw_gR, xw_gN, xw_al, xw_ck, xw_uI, xw_ur, xup_at, xur_at, if_true, if_false, reduceIte, and_true, true_and, and_false, false_and, not_true_eq_false, not_false_eq_true, Nat.reduceEqDiff, eq_self, Nat.reduceAdd, Nat.reduceMul, kC1, kG1, kP1, kR1_0, kR1_1, kR1_2, kR1_3, kR1_4, kR1_5, kR1_6, kR1_7, kR1_8, kR1_9, kR1_10, kR1_11, kR1_12, kR1_13, kC2, kG2, kP2, kR2_0, kR2_1, kC3, kG3, kP3, kR3_0, kR3_1, kR3_2, kR3_3, kL4, kA4, kS4, kL5, kA5, kS5, kL6, kA6, kS6, kL7, kA7, kS7, kC8, kG8, kP8, kR8_0, kR8_1, kL9, kA9, kS9, kL10, kA10, kS10, kC11, kG11, kP11, kR11_0, kR11_1, kR11_2, kR11_3, kL12, kA12, kS12, kL13, kA13, kS13, kL14, kA14, kS14, kL15, kA15, kS15, kC16, kG16, kP16, kR16_0, kR16_1, kL17, kA17, kS17, kL18, kA18, kS18, kC19, kG19, kP19, kR19_0, kL20, kL141, kL146, kA146, kS146, kL151, kA151, kS151, kL156, kA156, kS156, kC157, kG157, kP157, kR157_0, kR157_1, kL158, kA158, kS158, kL159, kA159, kS159, kC161, kG161, kP161, kR161_0, kR161_1, kL162, kA162, kS162, kL163, kA163, kS163, kC165, kG165, kP165, kR165_0, kR165_1, kR165_2, kR165_3, kL166, kA166, kS166, kL167, kA167, kS167, kL168, kA168, kS168, kL169, kA169, kS169, kC170, kG170, kP170, kR170_0, kR170_1, kR170_2, kL171, kA171, kS171, kL172, kA172, kS172, kL173, kA173, kS173, kC174, kG174, kP174, kR174_0, kR174_1, kR174_2, kR174_3, kR174_4, kL175, kA175, kS175, kL176, kA176, kS176, kL177, kA177, kS177, kL178, kA178, kS178, kL179, kC180, kG180, kP180, kL181, kL182, kA182, kS182, kC183, kG183, kP183, kR183_1, kR183_3, kR183_5, kR183_6, kR183_7, kR183_8, kR183_9, kR183_21, kR183_26, kR183_27, kR183_30, kR183_31, kR183_33, kR183_34, kR183_36, kR183_37, kR183_38, kR183_39, kR183_40, kR183_41, kR183_42, kR183_43, kR183_44, kL184, kA184, kS184, kL185, kA185, kS185, kL186, kA186, kS186, kL187, kA187, kS187, kL188, kA188, kS188, kL189, kL190, kL191, kA191, kS191, kL192, kA192, kS192, kL193, kA193, kS193, kL194, kA194, kS194, kL195, kA195, kS195, kL196, kA196, kS196, kL197, kA197, kS197, kL198, kA198, kS198, kL199, kA199, kS199, kL200, kA200, kS200, kL201, kL202, kA202, kS202, kL203, kA203, kS203, kL204, kA204, kS204, kL205, kL206, kA206, kS206, hv, nn_nneg, e, nI_succ]
theorem sort2_ok (hS : Shp σ) (hg : g ∈ gAll) (ho : RO g F) (h10 : gSz g ≤ 10) (hE : EnO σ 157 c m) (hK : ENK I (xR σ) (xlen σ) 157 g F) (hSR : SR g I 16 F) (h6 : ∀ j, j < 289 → I 176 j = nI (tP g F j)) :
    ∃ r, xloop (f_X9_sort_b96 174 157 16 (nI (gSt g))) ((0 : Int32), xw σ I) = some r ∧ ∃ J, r = xw σ J ∧ (∀ s, s < gSt g → lW g F s = true → J 175 (tQ g F s) = nI s) ∧ ∀ a k, a ≠ 175 → a ≠ 176 → J a k = I a k := by
  have hEb := hE.b
  have hSt := gSt_b hg
  have h1024 : gSt g ≤ 1024 := Nat.le_trans hSt.2 (Nat.pow_le_pow_right (by decide) h10)
  obtain ⟨o, -, -, -, hM⟩ := t_ord hg ho
  refine xforI (fun s x => ∃ J : Nat → Nat → Int32, x = (nI s, xw σ J) ∧ (∀ j, j < 289 → J 176 j = nI (tP g F j + fb_ct (lE g F ((j : Int) - 144)) s)) ∧ (∀ s', s' < s → lW g F s' = true → J 175 (tQ g F s') = nI s') ∧ ∀ a k, a ≠ 175 → a ≠ 176 → J a k = I a k) (gSt g) ⟨I, rfl, fun j hj => h6 j hj, fun j hj => absurd hj (Nat.not_lt_zero _), fun _ _ _ _ => rfl⟩ ?_ ?_
  · rintro s x hs ⟨J, rfl, j1, j2, j3⟩
    have hSRJ : SR g J 16 F := SR_m hg (fun k _ _ => j3 _ k (by omega) (by omega)) (fun k _ => j3 _ k (by omega) (by omega)) (fun k _ => j3 _ k (by omega) (by omega)) (fun k _ => rfl) hSR
    have hKJ : ENK J (xR σ) (xlen σ) 157 g F := ENK_c (fun k => by rw [hE.2.1]; exact j3 _ k (by omega) (by omega)) hK
    have hal := allows_ok (σ := σ) (I := J) hS hg suA_16 hSRJ s
    have hof := of_ok (σ := σ) (I := J) hS hE hKJ (show s < 2 ^ gSz g by omega)
    cases hl : lW g F s with
    | false =>
      rw [hl] at hal
      refine ⟨_, ?_, J, rfl, fun j hj => ?_, fun s' h1 h2 => ?_, j3⟩
      · simp only [f_X9_sort_b96]
        rw [if_neg (by rw [nn_le (by omega) (by omega)]; omega)]
        simp (disch := first | assumption | omega) only [Option.bind_some, Option.map_some, xw_gR, xw_gN, xw_al, xw_ck, xw_uI, xw_ur, xup_at, xur_at, if_true, if_false, reduceIte, and_true, true_and, and_false, false_and, not_true_eq_false, not_false_eq_true, Nat.reduceEqDiff, eq_self, Nat.reduceAdd, Nat.reduceMul, kC1, kG1, kP1, kR1_0, kR1_1, kR1_2, kR1_3, kR1_4, kR1_5, kR1_6, kR1_7, kR1_8, kR1_9, kR1_10, kR1_11, kR1_12, kR1_13, kC2, kG2, kP2, kR2_0, kR2_1, kC3, kG3, kP3, kR3_0, kR3_1, kR3_2, kR3_3, kL4, kA4, kS4, kL5, kA5, kS5, kL6, kA6, kS6, kL7, kA7, kS7, kC8, kG8, kP8, kR8_0, kR8_1, kL9, kA9, kS9, kL10, kA10, kS10, kC11, kG11, kP11, kR11_0, kR11_1, kR11_2, kR11_3, kL12, kA12, kS12, kL13, kA13, kS13, kL14, kA14, kS14, kL15, kA15, kS15, kC16, kG16, kP16, kR16_0, kR16_1, kL17, kA17, kS17, kL18, kA18, kS18, kC19, kG19, kP19, kR19_0, kL20, kL141, kL146, kA146, kS146, kL151, kA151, kS151, kL156, kA156, kS156, kC157, kG157, kP157, kR157_0, kR157_1, kL158, kA158, kS158, kL159, kA159, kS159, kC161, kG161, kP161, kR161_0, kR161_1, kL162, kA162, kS162, kL163, kA163, kS163, kC165, kG165, kP165, kR165_0, kR165_1, kR165_2, kR165_3, kL166, kA166, kS166, kL167, kA167, kS167, kL168, kA168, kS168, kL169, kA169, kS169, kC170, kG170, kP170, kR170_0, kR170_1, kR170_2, kL171, kA171, kS171, kL172, kA172, kS172, kL173, kA173, kS173, kC174, kG174, kP174, kR174_0, kR174_1, kR174_2, kR174_3, kR174_4, kL175, kA175, kS175, kL176, kA176, kS176, kL177, kA177, kS177, kL178, kA178, kS178, kL179, kC180, kG180, kP180, kL181, kL182, kA182, kS182, kC183, kG183, kP183, kR183_1, kR183_3, kR183_5, kR183_6, kR183_7, kR183_8, kR183_9, kR183_21, kR183_26, kR183_27, kR183_30, kR183_31, kR183_33, kR183_34, kR183_36, kR183_37, kR183_38, kR183_39, kR183_40, kR183_41, kR183_42, kR183_43, kR183_44, kL184, kA184, kS184, kL185, kA185, kS185, kL186, kA186, kS186, kL187, kA187, kS187, kL188, kA188, kS188, kL189, kL190, kL191, kA191, kS191, kL192, kA192, kS192, kL193, kA193, kS193, kL194, kA194, kS194, kL195, kA195, kS195, kL196, kA196, kS196, kL197, kA197, kS197, kL198, kA198, kS198, kL199, kA199, kS199, kL200, kA200, kS200, kL201, kL202, kA202, kS202, kL203, kA203, kS203, kL204, kA204, kS204, kL205, kL206, kA206, kS206, hal]
        rw [nI_succ]
        rfl
      · have : lE g F ((j : Int) - 144) s = false := by unfold lE; rw [hl]; rfl
        rw [fb_ct_succ, this]; exact j1 j hj
      · by_cases z : s' = s
        · rw [z, hl] at h2; cases h2
        · exact j2 s' (by omega) h2
    | true =>
      rw [hl] at hal
      have hk := tK_ok hg ho s
      have hq : tQ g F s < 1024 := by
        have := tQ_top hg ho hs hl
        omega
      have hv := j1 _ hk.1
      have e1 : iI (eE g (zR F) s) + (144 : Int32) = nI (tK g F s) := by rw [← hk.2]; exact e144 _
      have hput := put_ok (σ := σ) (I := J) (s := s) hS hk.1 hq hv
      refine ⟨_, ?_, xup (xup J 175 (tQ g F s) (nI s)) 176 (tK g F s) (nI (tQ g F s + 1)), rfl, fun j hj => ?_, fun s' h1 h2 => ?_, fun a k h1 h2 => ?_⟩
      · simp only [f_X9_sort_b96]
        rw [if_neg (by rw [nn_le (by omega) (by omega)]; omega)]
        have hc2 : xck (xw σ J) 157 2 = some () := by rw [xw_ck]; exact xck_ok (hE.T hS)
        simp (disch := first | assumption | omega) only [Option.bind_some, Option.map_some, xw_gR, xw_gN, xw_al, xw_ck, xw_uI, xw_ur, xup_at, xur_at, if_true, if_false, reduceIte, and_true, true_and, and_false, false_and, not_true_eq_false, not_false_eq_true, Nat.reduceEqDiff, eq_self, Nat.reduceAdd, Nat.reduceMul, kC1, kG1, kP1, kR1_0, kR1_1, kR1_2, kR1_3, kR1_4, kR1_5, kR1_6, kR1_7, kR1_8, kR1_9, kR1_10, kR1_11, kR1_12, kR1_13, kC2, kG2, kP2, kR2_0, kR2_1, kC3, kG3, kP3, kR3_0, kR3_1, kR3_2, kR3_3, kL4, kA4, kS4, kL5, kA5, kS5, kL6, kA6, kS6, kL7, kA7, kS7, kC8, kG8, kP8, kR8_0, kR8_1, kL9, kA9, kS9, kL10, kA10, kS10, kC11, kG11, kP11, kR11_0, kR11_1, kR11_2, kR11_3, kL12, kA12, kS12, kL13, kA13, kS13, kL14, kA14, kS14, kL15, kA15, kS15, kC16, kG16, kP16, kR16_0, kR16_1, kL17, kA17, kS17, kL18, kA18, kS18, kC19, kG19, kP19, kR19_0, kL20, kL141, kL146, kA146, kS146, kL151, kA151, kS151, kL156, kA156, kS156, kC157, kG157, kP157, kR157_0, kR157_1, kL158, kA158, kS158, kL159, kA159, kS159, kC161, kG161, kP161, kR161_0, kR161_1, kL162, kA162, kS162, kL163, kA163, kS163, kC165, kG165, kP165, kR165_0, kR165_1, kR165_2, kR165_3, kL166, kA166, kS166, kL167, kA167, kS167, kL168, kA168, kS168, kL169, kA169, kS169, kC170, kG170, kP170, kR170_0, kR170_1, kR170_2, kL171, kA171, kS171, kL172, kA172, kS172, kL173, kA173, kS173, kC174, kG174, kP174, kR174_0, kR174_1, kR174_2, kR174_3, kR174_4, kL175, kA175, kS175, kL176, kA176, kS176, kL177, kA177, kS177, kL178, kA178, kS178, kL179, kC180, kG180, kP180, kL181, kL182, kA182, kS182, kC183, kG183, kP183, kR183_1, kR183_3, kR183_5, kR183_6, kR183_7, kR183_8, kR183_9, kR183_21, kR183_26, kR183_27, kR183_30, kR183_31, kR183_33, kR183_34, kR183_36, kR183_37, kR183_38, kR183_39, kR183_40, kR183_41, kR183_42, kR183_43, kR183_44, kL184, kA184, kS184, kL185, kA185, kS185, kL186, kA186, kS186, kL187, kA187, kS187, kL188, kA188, kS188, kL189, kL190, kL191, kA191, kS191, kL192, kA192, kS192, kL193, kA193, kS193, kL194, kA194, kS194, kL195, kA195, kS195, kL196, kA196, kS196, kL197, kA197, kS197, kL198, kA198, kS198, kL199, kA199, kS199, kL200, kA200, kS200, kL201, kL202, kA202, kS202, kL203, kA203, kS203, kL204, kA204, kS204, kL205, kL206, kA206, kS206, hal, one0, hof, hc2, e1, hput]
        rw [nI_succ, nI_succ]
      · rw [xup_at]
        by_cases z : j = tK g F s
        · rw [if_pos ⟨rfl, z⟩, z, fb_ct_succ, tE_ok hg ho hl]
          rfl
        · rw [if_neg (by omega), xup_at, if_neg (by omega), j1 j hj, fb_ct_succ]
          have : lE g F ((j : Int) - 144) s = false := by
            unfold lE
            have : ¬ (eE g (zR F) s = (j : Int) - 144) := by omega
            simp [this]
          rw [this]; rfl
      · rw [xup_at, if_neg (by omega), xup_at]
        by_cases z : s' = s
        · rw [if_pos ⟨rfl, by rw [z]⟩, z]
        · rw [if_neg (fun q => z (tQ_inj hg ho (by omega) hs h2 hl q.2))]; exact j2 s' (by omega) h2
      · rw [xup_at, if_neg (by omega), xup_at, if_neg (by omega)]; exact j3 a k h1 h2
  · rintro x ⟨J, rfl, j1, j2, j3⟩
    refine ⟨_, ?_, J, rfl, j2, j3⟩
    simp only [f_X9_sort_b96]
    rw [if_pos (by rw [nn_le (by omega) (by omega)]; exact Nat.le_refl _)]
    rfl
theorem sort_ok (hS : Shp σ) (hg : g ∈ gAll) (ho : RO g F) (h10 : gSz g ≤ 10) (hE : EnO σ 157 c m) (hK : ENK I (xR σ) (xlen σ) 157 g F) (hSR : SR g I 16 F) (hW : WAY I 166 g F) :
    ∃ J, f_X9_sort (xw σ I) 174 157 165 16 (nI (gSz g)) = some (xw (tS σ) J) ∧ TRK J (xR (tS σ)) g F ∧ ∀ a k, a ≠ 175 → a ≠ 176 → ¬ (a = 174 ∧ (k = 7 ∨ k = 8)) → J a k = I a k := by
  have hEb := hE.b
  have hSt := gSt_b hg
  have hS2 := tS_Shp hS
  have h1024 : gSt g ≤ 1024 := Nat.le_trans hSt.2 (Nat.pow_le_pow_right (by decide) h10)
  obtain ⟨I1, hI1⟩ : ∃ I1, I1 = xup (xup I 174 7 (nI (gSz g))) 174 8 0 := ⟨_, rfl⟩
  have u1 : ∀ a k, ¬ (a = 174 ∧ (k = 7 ∨ k = 8)) → I1 a k = I a k := fun a k h => by rw [hI1, xup_at, if_neg (by omega), xup_at, if_neg (by omega)]
  obtain ⟨r, e1, J, rfl, a1, a2, a3, a4⟩ := sort1_ok (σ := tS σ) (I := I1) (g := g) (F := F) (Q := fun r => ∃ J, r = xw (tS σ) J ∧ J 174 8 = nI (tP g F 289) ∧ J 174 7 = nI (gSz g) ∧ (∀ s, s < gSt g → lW g F s = true → J 175 (tQ g F s) = nI s) ∧ ∀ a k, a ≠ 175 → a ≠ 176 → ¬ (a = 174 ∧ (k = 7 ∨ k = 8)) → J a k = I a k) hS2 (fun k hk => by rw [u1 _ _ (by omega)]; exact hW k hk) (by rw [hI1, xup_at, if_pos ⟨rfl, rfl⟩]; rfl) (by
    intro J j1 j2 j3
    have hSRJ : SR g J 16 F := SR_m hg (fun k _ _ => by rw [j3 _ k (by omega) (by omega)]; exact u1 _ _ (by omega)) (fun k _ => by rw [j3 _ k (by omega) (by omega)]; exact u1 _ _ (by omega)) (fun k _ => by rw [j3 _ k (by omega) (by omega)]; exact u1 _ _ (by omega)) (fun k _ => rfl) hSR
    have hKJ : ENK J (xR (tS σ)) (xlen (tS σ)) 157 g F := tS_K (ENK_c (fun k => by rw [hE.2.1, j3 _ k (by omega) (by omega)]; exact u1 _ _ (by omega)) hK)
    obtain ⟨r, e2, J2, rfl, b1, b2⟩ := sort2_ok (σ := tS σ) (I := J) hS2 hg ho h10 (tS_E hE) hKJ hSRJ j2
    have j7 : J 174 7 = nI (gSz g) := by rw [j3 174 7 (by omega) (by omega), hI1, xup_at, if_neg (by omega), xup_at, if_pos ⟨rfl, rfl⟩]
    refine ⟨xw (tS σ) J2, ?_, J2, rfl, by rw [b2 _ _ (by omega) (by omega)]; exact j1, by rw [b2 _ _ (by omega) (by omega)]; exact j7, b1, fun a k h1 h2 h3 => by rw [b2 a k h1 h2, j3 a k h2 (by omega)]; exact u1 a k h3⟩
    simp only [f_X9_sort_b24]
    rw [if_pos (by decide)]
    have q0 : (nI (gSz g) ≤ 0) = (gSz g ≤ 0) := nn_le (b := 0) (by omega) (by decide)
    have q1 : ((10 : Int32) < nI (gSz g)) = (10 < gSz g) := nn_lt (a := 10) (by omega) (by omega)
    simp (disch := first | assumption | omega) only [Option.bind_some, Option.map_some, xw_gR, xw_gN, xw_al, xw_ck, xw_uI, xw_ur, xup_at, xur_at, if_true, if_false, reduceIte, and_true, true_and, and_false, false_and, not_true_eq_false, not_false_eq_true, Nat.reduceEqDiff, eq_self, Nat.reduceAdd, Nat.reduceMul, kC1, kG1, kP1, kR1_0, kR1_1, kR1_2, kR1_3, kR1_4, kR1_5, kR1_6, kR1_7, kR1_8, kR1_9, kR1_10, kR1_11, kR1_12, kR1_13, kC2, kG2, kP2, kR2_0, kR2_1, kC3, kG3, kP3, kR3_0, kR3_1, kR3_2, kR3_3, kL4, kA4, kS4, kL5, kA5, kS5, kL6, kA6, kS6, kL7, kA7, kS7, kC8, kG8, kP8, kR8_0, kR8_1, kL9, kA9, kS9, kL10, kA10, kS10, kC11, kG11, kP11, kR11_0, kR11_1, kR11_2, kR11_3, kL12, kA12, kS12, kL13, kA13, kS13, kL14, kA14, kS14, kL15, kA15, kS15, kC16, kG16, kP16, kR16_0, kR16_1, kL17, kA17, kS17, kL18, kA18, kS18, kC19, kG19, kP19, kR19_0, kL20, kL141, kL146, kA146, kS146, kL151, kA151, kS151, kL156, kA156, kS156, kC157, kG157, kP157, kR157_0, kR157_1, kL158, kA158, kS158, kL159, kA159, kS159, kC161, kG161, kP161, kR161_0, kR161_1, kL162, kA162, kS162, kL163, kA163, kS163, kC165, kG165, kP165, kR165_0, kR165_1, kR165_2, kR165_3, kL166, kA166, kS166, kL167, kA167, kS167, kL168, kA168, kS168, kL169, kA169, kS169, kC170, kG170, kP170, kR170_0, kR170_1, kR170_2, kL171, kA171, kS171, kL172, kA172, kS172, kL173, kA173, kS173, kC174, kG174, kP174, kR174_0, kR174_1, kR174_2, kR174_3, kR174_4, kL175, kA175, kS175, kL176, kA176, kS176, kL177, kA177, kS177, kL178, kA178, kS178, kL179, kC180, kG180, kP180, kL181, kL182, kA182, kS182, kC183, kG183, kP183, kR183_1, kR183_3, kR183_5, kR183_6, kR183_7, kR183_8, kR183_9, kR183_21, kR183_26, kR183_27, kR183_30, kR183_31, kR183_33, kR183_34, kR183_36, kR183_37, kR183_38, kR183_39, kR183_40, kR183_41, kR183_42, kR183_43, kR183_44, kL184, kA184, kS184, kL185, kA185, kS185, kL186, kA186, kS186, kL187, kA187, kS187, kL188, kA188, kS188, kL189, kL190, kL191, kA191, kS191, kL192, kA192, kS192, kL193, kA193, kS193, kL194, kA194, kS194, kL195, kA195, kS195, kL196, kA196, kS196, kL197, kA197, kS197, kL198, kA198, kS198, kL199, kA199, kS199, kL200, kA200, kS200, kL201, kL202, kA202, kS202, kL203, kA203, kS203, kL204, kA204, kS204, kL205, kL206, kA206, kS206, j7, q0, q1, show ¬ (10 < gSz g) by omega, nn_one]
    by_cases z : gSz g = 0
    · rw [if_pos (by omega)]
      have : gSt g = 0 := by unfold gSt; rw [if_pos z]
      rw [this] at e2
      rw [show (0 : Int32) = nI 0 from rfl, show nI 0 = (0 : Int32) from rfl] at *
      rw [e2]; rfl
    · rw [if_neg (by omega)]
      have : gSt g = 2 ^ gSz g := by unfold gSt; rw [if_neg z]
      rw [this] at e2
      rw [e2]; rfl)
  refine ⟨J, ?_, ?_, a4⟩
  · unfold f_X9_sort
    rw [xnz_ok (by decide), Option.bind_some, xpR_ok (show xT (xw σ I) 174 = 9 from sT174 hS), Option.bind_some, xnz_ok (by decide), Option.bind_some, xpR_ok (show xT (xuR (xw σ I) 174 5 157) 174 = 9 from (show xT σ 174 = 9 from sT174 hS)), Option.bind_some]
    show ((xpI (xw (tS σ) I) 174 9 7 (nI (gSz g))).bind fun σ8 => _) = _
    simp (disch := first | assumption | omega) only [Option.bind_some, Option.map_some, xw_gR, xw_gN, xw_al, xw_ck, xw_uI, xw_ur, xup_at, xur_at, if_true, if_false, reduceIte, and_true, true_and, and_false, false_and, not_true_eq_false, not_false_eq_true, Nat.reduceEqDiff, eq_self, Nat.reduceAdd, Nat.reduceMul, kC1, kG1, kP1, kR1_0, kR1_1, kR1_2, kR1_3, kR1_4, kR1_5, kR1_6, kR1_7, kR1_8, kR1_9, kR1_10, kR1_11, kR1_12, kR1_13, kC2, kG2, kP2, kR2_0, kR2_1, kC3, kG3, kP3, kR3_0, kR3_1, kR3_2, kR3_3, kL4, kA4, kS4, kL5, kA5, kS5, kL6, kA6, kS6, kL7, kA7, kS7, kC8, kG8, kP8, kR8_0, kR8_1, kL9, kA9, kS9, kL10, kA10, kS10, kC11, kG11, kP11, kR11_0, kR11_1, kR11_2, kR11_3, kL12, kA12, kS12, kL13, kA13, kS13, kL14, kA14, kS14, kL15, kA15, kS15, kC16, kG16, kP16, kR16_0, kR16_1, kL17, kA17, kS17, kL18, kA18, kS18, kC19, kG19, kP19, kR19_0, kL20, kL141, kL146, kA146, kS146, kL151, kA151, kS151, kL156, kA156, kS156, kC157, kG157, kP157, kR157_0, kR157_1, kL158, kA158, kS158, kL159, kA159, kS159, kC161, kG161, kP161, kR161_0, kR161_1, kL162, kA162, kS162, kL163, kA163, kS163, kC165, kG165, kP165, kR165_0, kR165_1, kR165_2, kR165_3, kL166, kA166, kS166, kL167, kA167, kS167, kL168, kA168, kS168, kL169, kA169, kS169, kC170, kG170, kP170, kR170_0, kR170_1, kR170_2, kL171, kA171, kS171, kL172, kA172, kS172, kL173, kA173, kS173, kC174, kG174, kP174, kR174_0, kR174_1, kR174_2, kR174_3, kR174_4, kL175, kA175, kS175, kL176, kA176, kS176, kL177, kA177, kS177, kL178, kA178, kS178, kL179, kC180, kG180, kP180, kL181, kL182, kA182, kS182, kC183, kG183, kP183, kR183_1, kR183_3, kR183_5, kR183_6, kR183_7, kR183_8, kR183_9, kR183_21, kR183_26, kR183_27, kR183_30, kR183_31, kR183_33, kR183_34, kR183_36, kR183_37, kR183_38, kR183_39, kR183_40, kR183_41, kR183_42, kR183_43, kR183_44, kL184, kA184, kS184, kL185, kA185, kS185, kL186, kA186, kS186, kL187, kA187, kS187, kL188, kA188, kS188, kL189, kL190, kL191, kA191, kS191, kL192, kA192, kS192, kL193, kA193, kS193, kL194, kA194, kS194, kL195, kA195, kS195, kL196, kA196, kS196, kL197, kA197, kS197, kL198, kA198, kS198, kL199, kA199, kS199, kL200, kA200, kS200, kL201, kL202, kA202, kS202, kL203, kA203, kS203, kL204, kA204, kS204, kL205, kL206, kA206, kS206, ← hI1]
    exact e1
  · intro _
    obtain ⟨o, o1, o2, o3, o4⟩ := t_ord hg ho
    refine ⟨a2, rfl, rfl, tP g F 289, o, by omega, a1, fun i hi => ?_, o2, o3⟩
    obtain ⟨z1, z2, z3⟩ := o1 i hi
    refine ⟨?_, z1, z2⟩
    rw [← a3 _ z1 z2, z3]
end SORT
end
section
/-! the terrain at hand -/
theorem TRK_F {I : Nat → Nat → Int32} {R : Nat → Nat → Nat} {g : GD} {F F' : Nat → Int32} (hg : g ∈ gAll) (h : ∀ k, k < 64 → F' k = F k) (H : TRK I R g F) : TRK I R g F' := by
  obtain ⟨c1, c2, -⟩ := ct_congr hg h
  unfold TRK at *
  rw [c1, c2]
  exact H
theorem terrainNow_ok {n : Nat} {σ : XS} {g : GD} {gT gP : GH} {st : Nat} (hn : n ≤ 512) (H : IV n σ g gT gP st) (h10 : gSz g ≤ 10) : ∃ τ, f_X11_terrainNow σ 1 = some (174, τ) ∧ IV n τ g gT gP st ∧ ENK (xI τ) (xR τ) (xlen τ) 157 g (xI τ 191) ∧ LVK (xI τ) g (xI τ 191) ∧ TRK (xI τ) (xR τ) g (xI τ 191) ∧ (∀ b j, (b < 157 ∨ (161 ≤ b ∧ b ≤ 164) ∨ (170 ≤ b ∧ b ≤ 173) ∨ (177 ≤ b ∧ b ≤ 206)) → xI τ b j = xI σ b j) := by
  obtain ⟨σ1, e1, H1, K1, L1, u1, -⟩ := levelsNow_ok hn H
  have hS := H1.shp
  have hG := H1.grd
  have hg := hG.1
  obtain ⟨hSR, hRO, t, p, ht, hp, e6, e7, gt1, gt2, gp1, gp2⟩ := H1.now
  have hst := H1.stn
  obtain ⟨c, a, hE, ha, hcn⟩ := H1.en157
  have hEb := hE.b
  obtain ⟨J, q1, q2, q3⟩ := sort_ok (I := xI σ1) hS hg hRO h10 hE K1 hSR L1.1
  have hS2 := tS_Shp hS
  have stp : f_X11_terrainNow σ 1 = if xI σ1 174 10 = nI p then some (174, σ1) else some (174, xw (tS σ1) (xup J 174 10 (nI p))) := by
    unfold f_X11_terrainNow
    rw [xck_ok (sT1 H.shp), Option.bind_some, e1, Option.bind_some]
    dsimp only
    rw [xnz_ok (by decide), Option.bind_some]
    show f_X11_terrainNow_j4 (xw σ1 (xI σ1)) 1 165 = _
    unfold f_X11_terrainNow_j4
    have j16 : J 16 7 = nI p := by rw [q3 16 7 (by omega) (by omega) (by omega)]; exact e7
    simp (disch := first | assumption | omega) only [Option.bind_some, Option.map_some, xw_gR, xw_gN, xw_al, xw_ck, xw_uI, xw_ur, xup_at, xur_at, if_true, if_false, reduceIte, and_true, true_and, and_false, false_and, not_true_eq_false, not_false_eq_true, Nat.reduceEqDiff, eq_self, Nat.reduceAdd, Nat.reduceMul, kC1, kG1, kP1, kR1_0, kR1_1, kR1_2, kR1_3, kR1_4, kR1_5, kR1_6, kR1_7, kR1_8, kR1_9, kR1_10, kR1_11, kR1_12, kR1_13, kC2, kG2, kP2, kR2_0, kR2_1, kC3, kG3, kP3, kR3_0, kR3_1, kR3_2, kR3_3, kL4, kA4, kS4, kL5, kA5, kS5, kL6, kA6, kS6, kL7, kA7, kS7, kC8, kG8, kP8, kR8_0, kR8_1, kL9, kA9, kS9, kL10, kA10, kS10, kC11, kG11, kP11, kR11_0, kR11_1, kR11_2, kR11_3, kL12, kA12, kS12, kL13, kA13, kS13, kL14, kA14, kS14, kL15, kA15, kS15, kC16, kG16, kP16, kR16_0, kR16_1, kL17, kA17, kS17, kL18, kA18, kS18, kC19, kG19, kP19, kR19_0, kL20, kL141, kL146, kA146, kS146, kL151, kA151, kS151, kL156, kA156, kS156, kC157, kG157, kP157, kR157_0, kR157_1, kL158, kA158, kS158, kL159, kA159, kS159, kC161, kG161, kP161, kR161_0, kR161_1, kL162, kA162, kS162, kL163, kA163, kS163, kC165, kG165, kP165, kR165_0, kR165_1, kR165_2, kR165_3, kL166, kA166, kS166, kL167, kA167, kS167, kL168, kA168, kS168, kL169, kA169, kS169, kC170, kG170, kP170, kR170_0, kR170_1, kR170_2, kL171, kA171, kS171, kL172, kA172, kS172, kL173, kA173, kS173, kC174, kG174, kP174, kR174_0, kR174_1, kR174_2, kR174_3, kR174_4, kL175, kA175, kS175, kL176, kA176, kS176, kL177, kA177, kS177, kL178, kA178, kS178, kL179, kC180, kG180, kP180, kL181, kL182, kA182, kS182, kC183, kG183, kP183, kR183_1, kR183_3, kR183_5, kR183_6, kR183_7, kR183_8, kR183_9, kR183_21, kR183_26, kR183_27, kR183_30, kR183_31, kR183_33, kR183_34, kR183_36, kR183_37, kR183_38, kR183_39, kR183_40, kR183_41, kR183_42, kR183_43, kR183_44, kL184, kA184, kS184, kL185, kA185, kS185, kL186, kA186, kS186, kL187, kA187, kS187, kL188, kA188, kS188, kL189, kL190, kL191, kA191, kS191, kL192, kA192, kS192, kL193, kA193, kS193, kL194, kA194, kS194, kL195, kA195, kS195, kL196, kA196, kS196, kL197, kA197, kS197, kL198, kA198, kS198, kL199, kA199, kS199, kL200, kA200, kS200, kL201, kL202, kA202, kS202, kL203, kA203, kS203, kL204, kA204, kS204, kL205, kL206, kA206, kS206, e7, xnz_ok, hG.2.2.2.2.1, q1, j16]
    rfl
  rw [stp]
  by_cases hq : xI σ1 174 10 = nI p
  · rw [if_pos hq]
    refine ⟨σ1, rfl, H1, K1, L1, ?_, fun b j hb => u1 b j (by omega)⟩
    rcases H1.cch.2.2.2 with z | ⟨p', z1, z2, z3⟩
    · rw [hq] at z
      exact absurd z (by have := nn_m1 (a := p) (by omega); rw [this]; exact id)
    · have : p' = p := by
        rw [hq, nn_eq (by omega) (by omega)] at z2; exact z2.symm
      subst this
      rw [gp1] at z3
      exact TRK_F hg gp2 z3
  · rw [if_neg hq]
    have ux : ∀ b j, b ≠ 174 → b ≠ 175 → b ≠ 176 → xup J 174 10 (nI p) b j = xI σ1 b j := fun b j h1 h2 h3 => by rw [xup_at, if_neg (by omega), q3 b j (by omega) (by omega) (by omega)]
    have trk : TRK (xup J 174 10 (nI p)) (xR (tS σ1)) g (xI σ1 191) := by
      intro h
      obtain ⟨y1, y2, y3, M, o, y4, y5, y6, y7⟩ := q2 h
      exact ⟨by rw [xup_at, if_neg (by omega)]; exact y1, y2, y3, M, o, y4, by rw [xup_at, if_neg (by omega)]; exact y5, fun i hi => by rw [xup_at, if_neg (by omega)]; exact y6 i hi, y7⟩
    have row : xup J 174 10 (nI p) 191 = xI σ1 191 := by funext k; exact ux 191 k (by omega) (by omega) (by omega)
    have enk : ∀ g F, ENK (xI σ1) (xR σ1) (xlen σ1) 157 g F → ENK (xup J 174 10 (nI p)) (xR (tS σ1)) (xlen (tS σ1)) 157 g F := fun g F h => tS_K (ENK_c (fun k => ux _ k (by rw [hE.2.1]; omega) (by rw [hE.2.1]; omega) (by rw [hE.2.1]; omega)) h)
    have hcel : CEL (tS σ1).1 (xR (tS σ1)) (xn (tS σ1)) (xz (tS σ1)) (xL (tS σ1)) := by
      have := H1.cel
      unfold CEL at *
      rw [tS_R (by omega), tS_R (by omega)]
      exact this
    refine ⟨_, rfl, H1.cache (τ := xw (tS σ1) (xup J 174 10 (nI p))) hS2 (fun b j hb => ux b j (by omega) (by omega) (by omega)) ?_ hcel, ?_, ?_, ?_, fun b j hb => ?_⟩
    · obtain ⟨c1, c2, c3, c4⟩ := H1.cch
      refine ⟨?_, ?_, ?_, .inr ⟨p, hp, ?_, ?_⟩⟩
      · rw [xw_I, ux 157 5 (by omega) (by omega) (by omega)]
        rcases c1 with z | ⟨q, z1, z2, z3⟩
        · exact .inl z
        · exact .inr ⟨q, z1, z2, enk _ _ z3⟩
      · rw [xw_I, ux 165 5 (by omega) (by omega) (by omega)]
        rcases c2 with z | ⟨q, z1, z2, z3⟩
        · exact .inl z
        · exact .inr ⟨q, z1, z2, LVK_c (fun b k hb => ux _ k (by omega) (by omega) (by omega)) z3⟩
      · rw [xw_I, ux 170 3 (by omega) (by omega) (by omega)]
        rcases c3 with z | ⟨q, z1, z2, z3⟩
        · exact .inl z
        · exact .inr ⟨q, z1, z2, BRK_c (fun k => ux _ k (by omega) (by omega) (by omega)) z3⟩
      · rw [xw_I, xup_at, if_pos ⟨rfl, rfl⟩]
      · rw [gp1]
        exact TRK_F hg (fun k hk => (gp2 k hk).symm) trk
    · rw [xw_I, row]; exact enk _ _ K1
    · rw [xw_I, row]; exact LVK_c (fun b k hb => ux _ k (by omega) (by omega) (by omega)) L1
    · rw [xw_I, row]; exact trk
    · rw [xw_I, ux b j (by omega) (by omega) (by omega)]; exact u1 b j (by omega)
end
section
/-! the terrain's own rows; basin -/
theorem TRK_c2 {I I' : Nat → Nat → Int32} {R : Nat → Nat → Nat} {g : GD} {F : Nat → Int32} (h7 : I' 174 7 = I 174 7) (h8 : I' 174 8 = I 174 8) (h : ∀ k, I' 175 k = I 175 k) (H : TRK I R g F) : TRK I' R g F := by
  intro hn
  obtain ⟨h1, h2, h3, M, o, h4, h5, h6, h9⟩ := H hn
  exact ⟨by rw [h7]; exact h1, h2, h3, M, o, h4, by rw [h8]; exact h5, fun i hi => by rw [h]; exact h6 i hi, h9⟩
theorem IV.terr {n : Nat} {σ : XS} {g : GD} {gT gP : GH} {st : Nat} (H : IV n σ g gT gP st) {I' : Nat → Nat → Int32} (u : ∀ a k, ¬ (176 ≤ a ∧ a ≤ 182) → ¬ (a = 174 ∧ k = 9) → I' a k = xI σ a k) : IV n (xw σ I') g gT gP st := by
  have hc := H.cells
  refine H.cache (τ := xw σ I') H.shp (fun a k h => u a k (by omega) (by omega)) ?_ H.cel
  obtain ⟨c1, c2, c3, c4⟩ := H.cch
  refine ⟨?_, ?_, ?_, ?_⟩
  · rw [xw_I, u 157 5 (by omega) (by omega)]
    rcases c1 with z | ⟨q, z1, z2, z3⟩
    · exact .inl z
    · exact .inr ⟨q, z1, z2, ENK_c (fun k => u _ k (by rw [xw_R]; omega) (by rw [xw_R]; omega)) z3⟩
  · rw [xw_I, u 165 5 (by omega) (by omega)]
    rcases c2 with z | ⟨q, z1, z2, z3⟩
    · exact .inl z
    · exact .inr ⟨q, z1, z2, LVK_c (fun b k hb => u _ k (by omega) (by omega)) z3⟩
  · rw [xw_I, u 170 3 (by omega) (by omega)]
    rcases c3 with z | ⟨q, z1, z2, z3⟩
    · exact .inl z
    · exact .inr ⟨q, z1, z2, BRK_c (fun k => u _ k (by omega) (by omega)) z3⟩
  · rw [xw_I, u 174 10 (by omega) (by omega)]
    rcases c4 with z | ⟨q, z1, z2, z3⟩
    · exact .inl z
    · exact .inr ⟨q, z1, z2, TRK_c2 (u _ _ (by omega) (by omega)) (u _ _ (by omega) (by omega)) (fun k => u _ _ (by omega) (by omega)) z3⟩
/-- what the terrain's rows rest on -/
def TC (σ : XS) (J : Nat → Nat → Int32) (g : GD) (F : Nat → Int32) (c m : Nat) : Prop :=
  Shp σ ∧ g ∈ gAll ∧ RO g F ∧ gSz g ≤ 10 ∧ EnO σ 157 c m ∧ ENK J (xR σ) (xlen σ) 157 g F ∧ SR g J 16 F ∧ xR σ 174 5 = 157 ∧ xR σ 174 6 = 16 ∧ J 174 7 = nI (gSz g)
/-- the states in their order -/
def TO (J : Nat → Nat → Int32) (g : GD) (F : Nat → Int32) (M : Nat) (o : Nat → Nat) : Prop :=
  M ≤ 1024 ∧ J 174 8 = nI M ∧ (∀ i, i < M → J 175 i = nI (o i) ∧ o i < gSt g ∧ lW g F (o i) = true) ∧ (∀ i j, i < j → j < M → eE g (zR F) (o i) ≤ eE g (zR F) (o j) ∧ o i ≠ o j) ∧ ∀ s, s < gSt g → lW g F s = true → ∃ i, i < M ∧ o i = s
def nxS (s : Nat) (o : Option Nat) : Nat := match o with
  | none => s
  | some i => s ^^^ 2 ^ i
def fE (g : GD) (F : Nat → Int32) (s : Nat) : Nat := fs g F s 288
section TERR
variable {σ : XS} {J J' : Nat → Nat → Int32} {g : GD} {F : Nat → Int32} {c m M : Nat} {o : Nat → Nat}
theorem TC_c (u : ∀ a k, ¬ (176 ≤ a ∧ a ≤ 182) → ¬ (a = 174 ∧ k = 9) → J' a k = J a k) (h : TC σ J g F c m) : TC σ J' g F c m := by
  obtain ⟨hS, hg, ho, h10, hE, hK, hSR, r5, r6, j7⟩ := h
  have hEb := hE.b
  exact ⟨hS, hg, ho, h10, hE, ENK_c (fun k => by rw [hE.2.1]; exact u _ k (by omega) (by omega)) hK, SR_m hg (fun k _ _ => u _ k (by omega) (by omega)) (fun k _ => u _ k (by omega) (by omega)) (fun k _ => u _ k (by omega) (by omega)) (fun k _ => rfl) hSR, r5, r6, by rw [u _ _ (by omega) (by omega)]; exact j7⟩
theorem TO_c (u : ∀ a k, ¬ (176 ≤ a ∧ a ≤ 182) → ¬ (a = 174 ∧ k = 9) → J' a k = J a k) (h : TO J g F M o) : TO J' g F M o := by
  obtain ⟨h1, h2, h3, h4⟩ := h
  exact ⟨h1, by rw [u _ _ (by omega) (by omega)]; exact h2, fun i hi => by rw [u _ _ (by omega) (by omega)]; exact h3 i hi, h4⟩
theorem TC.st (h : TC σ J g F c m) : gSt g ≤ 1024 := Nat.le_trans (gSt_b h.2.1).2 (Nat.pow_le_pow_right (by decide) h.2.2.2.1)
theorem tEn_ok (h : TC σ J g F c m) {s : Nat} (hs : s < 2 ^ gSz g) : f_X9_energyOf (xw σ J) 174 (nI s) = some (iI (eE g (zR F) s)) := by
  obtain ⟨hS, hg, ho, h10, hE, hK, hSR, r5, r6, j7⟩ := h
  unfold f_X9_energyOf
  have e5 : xgN σ 174 9 5 = some 157 := by rw [xgN_ok (sT174 hS), r5]
  have h1 := of_ok (σ := σ) (I := J) hS hE hK hs
  simp (disch := first | assumption | omega) only [Option.bind_some, Option.map_some, xw_gR, xw_gN, xw_al, xw_ck, xw_uI, xw_ur, xup_at, xur_at, if_true, if_false, reduceIte, and_true, true_and, and_false, false_and, not_true_eq_false, not_false_eq_true, Nat.reduceEqDiff, eq_self, Nat.reduceAdd, Nat.reduceMul, kC1, kG1, kP1, kR1_0, kR1_1, kR1_2, kR1_3, kR1_4, kR1_5, kR1_6, kR1_7, kR1_8, kR1_9, kR1_10, kR1_11, kR1_12, kR1_13, kC2, kG2, kP2, kR2_0, kR2_1, kC3, kG3, kP3, kR3_0, kR3_1, kR3_2, kR3_3, kL4, kA4, kS4, kL5, kA5, kS5, kL6, kA6, kS6, kL7, kA7, kS7, kC8, kG8, kP8, kR8_0, kR8_1, kL9, kA9, kS9, kL10, kA10, kS10, kC11, kG11, kP11, kR11_0, kR11_1, kR11_2, kR11_3, kL12, kA12, kS12, kL13, kA13, kS13, kL14, kA14, kS14, kL15, kA15, kS15, kC16, kG16, kP16, kR16_0, kR16_1, kL17, kA17, kS17, kL18, kA18, kS18, kC19, kG19, kP19, kR19_0, kL20, kL141, kL146, kA146, kS146, kL151, kA151, kS151, kL156, kA156, kS156, kC157, kG157, kP157, kR157_0, kR157_1, kL158, kA158, kS158, kL159, kA159, kS159, kC161, kG161, kP161, kR161_0, kR161_1, kL162, kA162, kS162, kL163, kA163, kS163, kC165, kG165, kP165, kR165_0, kR165_1, kR165_2, kR165_3, kL166, kA166, kS166, kL167, kA167, kS167, kL168, kA168, kS168, kL169, kA169, kS169, kC170, kG170, kP170, kR170_0, kR170_1, kR170_2, kL171, kA171, kS171, kL172, kA172, kS172, kL173, kA173, kS173, kC174, kG174, kP174, kR174_0, kR174_1, kR174_2, kR174_3, kR174_4, kL175, kA175, kS175, kL176, kA176, kS176, kL177, kA177, kS177, kL178, kA178, kS178, kL179, kC180, kG180, kP180, kL181, kL182, kA182, kS182, kC183, kG183, kP183, kR183_1, kR183_3, kR183_5, kR183_6, kR183_7, kR183_8, kR183_9, kR183_21, kR183_26, kR183_27, kR183_30, kR183_31, kR183_33, kR183_34, kR183_36, kR183_37, kR183_38, kR183_39, kR183_40, kR183_41, kR183_42, kR183_43, kR183_44, kL184, kA184, kS184, kL185, kA185, kS185, kL186, kA186, kS186, kL187, kA187, kS187, kL188, kA188, kS188, kL189, kL190, kL191, kA191, kS191, kL192, kA192, kS192, kL193, kA193, kS193, kL194, kA194, kS194, kL195, kA195, kS195, kL196, kA196, kS196, kL197, kA197, kS197, kL198, kA198, kS198, kL199, kA199, kS199, kL200, kA200, kS200, kL201, kL202, kA202, kS202, kL203, kA203, kS203, kL204, kA204, kS204, kL205, kL206, kA206, kS206, e5, h1]
theorem tCan_ok (h : TC σ J g F c m) {i : Nat} (hi : i < gSz g) : f_X9_canTurn (xw σ J) 174 (nI i) = some (if F (48 + i) = 0 then 1 else 0) := by
  obtain ⟨hS, hg, ho, h10, hE, hK, hSR, r5, r6, j7⟩ := h
  obtain ⟨-, -, ⟨p, u, e3, e4, e5, e6⟩, -, -⟩ := hSR
  have hp : p < 65536 := Nat.lt_pow_two_of_testBit (n := 16) p (fun j hj => by rw [e5]; simp; omega)
  have hpb : (p.testBit i = false) = (F (48 + i) = 0) := by rw [e5]; simp [hi]
  unfold f_X9_canTurn
  have e7 : xgN σ 174 9 6 = some 16 := by rw [xgN_ok (sT174 hS), r6]
  have h1 := isPinned_ok (σ := σ) (I := J) hS suA_16 e3 hp (show i < 32 by omega)
  simp (disch := first | assumption | omega) only [Option.bind_some, Option.map_some, xw_gR, xw_gN, xw_al, xw_ck, xw_uI, xw_ur, xup_at, xur_at, if_true, if_false, reduceIte, and_true, true_and, and_false, false_and, not_true_eq_false, not_false_eq_true, Nat.reduceEqDiff, eq_self, Nat.reduceAdd, Nat.reduceMul, kC1, kG1, kP1, kR1_0, kR1_1, kR1_2, kR1_3, kR1_4, kR1_5, kR1_6, kR1_7, kR1_8, kR1_9, kR1_10, kR1_11, kR1_12, kR1_13, kC2, kG2, kP2, kR2_0, kR2_1, kC3, kG3, kP3, kR3_0, kR3_1, kR3_2, kR3_3, kL4, kA4, kS4, kL5, kA5, kS5, kL6, kA6, kS6, kL7, kA7, kS7, kC8, kG8, kP8, kR8_0, kR8_1, kL9, kA9, kS9, kL10, kA10, kS10, kC11, kG11, kP11, kR11_0, kR11_1, kR11_2, kR11_3, kL12, kA12, kS12, kL13, kA13, kS13, kL14, kA14, kS14, kL15, kA15, kS15, kC16, kG16, kP16, kR16_0, kR16_1, kL17, kA17, kS17, kL18, kA18, kS18, kC19, kG19, kP19, kR19_0, kL20, kL141, kL146, kA146, kS146, kL151, kA151, kS151, kL156, kA156, kS156, kC157, kG157, kP157, kR157_0, kR157_1, kL158, kA158, kS158, kL159, kA159, kS159, kC161, kG161, kP161, kR161_0, kR161_1, kL162, kA162, kS162, kL163, kA163, kS163, kC165, kG165, kP165, kR165_0, kR165_1, kR165_2, kR165_3, kL166, kA166, kS166, kL167, kA167, kS167, kL168, kA168, kS168, kL169, kA169, kS169, kC170, kG170, kP170, kR170_0, kR170_1, kR170_2, kL171, kA171, kS171, kL172, kA172, kS172, kL173, kA173, kS173, kC174, kG174, kP174, kR174_0, kR174_1, kR174_2, kR174_3, kR174_4, kL175, kA175, kS175, kL176, kA176, kS176, kL177, kA177, kS177, kL178, kA178, kS178, kL179, kC180, kG180, kP180, kL181, kL182, kA182, kS182, kC183, kG183, kP183, kR183_1, kR183_3, kR183_5, kR183_6, kR183_7, kR183_8, kR183_9, kR183_21, kR183_26, kR183_27, kR183_30, kR183_31, kR183_33, kR183_34, kR183_36, kR183_37, kR183_38, kR183_39, kR183_40, kR183_41, kR183_42, kR183_43, kR183_44, kL184, kA184, kS184, kL185, kA185, kS185, kL186, kA186, kS186, kL187, kA187, kS187, kL188, kA188, kS188, kL189, kL190, kL191, kA191, kS191, kL192, kA192, kS192, kL193, kA193, kS193, kL194, kA194, kS194, kL195, kA195, kS195, kL196, kA196, kS196, kL197, kA197, kS197, kL198, kA198, kS198, kL199, kA199, kS199, kL200, kA200, kS200, kL201, kL202, kA202, kS202, kL203, kA203, kS203, kL204, kA204, kS204, kL205, kL206, kA206, kS206, e7, h1, bI_0, hpb]
  by_cases q : F (48 + i) = 0
  · rw [if_pos q, if_pos q]
  · rw [if_neg q, if_neg q]
theorem isSt_ok {s : Nat} (hs : s < 1024) : f_X9_isState (nI s) = some 1 := by
  unfold f_X9_isState
  rw [if_neg (nI_pos (by omega)), if_neg (by rw [show (1024 : Int32) = nI 1024 from rfl, nn_le (by omega) (by omega)]; omega)]
theorem nxE (hg : g ∈ gAll) {s k : Nat} (hk : k ≤ gSz g) : eE g (zR F) (nxS s (sp g F s k).2) = eE g (zR F) s + (sp g F s k).1 := by
  cases h : (sp g F s k).2 with
  | none =>
    have := (sp_some g F s k).1 h
    show eE g (zR F) s = _
    omega
  | some i =>
    have q := (sp_some g F s k).2 i h
    show eE g (zR F) (s ^^^ 2 ^ i) = _
    rw [eE_flip hg _ (by omega), q.2.2.1]
theorem nxB {s k : Nat} (hs : s < gSt g) (hk : k ≤ gSz g) : nxS s (sp g F s k).2 < gSt g := by
  cases h : (sp g F s k).2 with
  | none => exact hs
  | some i =>
    have q := (sp_some g F s k).2 i h
    exact gSt_flip hs (by omega)
theorem steepFrom_ok (h : TC σ J g F c m) {s : Nat} (hs : s < gSt g) : f_X9_steepestFrom (xw σ J) 174 (nI s) = some (nI (nxS s (sp g F s (gSz g)).2)) := by
  have h' := h
  obtain ⟨hS, hg, ho, h10, hE, hK, hSR, r5, r6, j7⟩ := h'
  unfold f_X9_steepestFrom
  refine xforE (fun i : Nat => (nI (nxS s (sp g F s i).2), nI i)) (gSz g) rfl (fun i hi => ?_) ?_
  · simp only [f_X9_steepestFrom_b4]
    have hf := (gSt_pos (gSt_flip hs hi)).2
    have hn := (gSt_pos (nxB (F := F) hs (show i ≤ gSz g by omega))).2
    have hlb := sp_lb hg ho s i (by omega)
    have hle := (sp_le g F s i).1
    have hcb := sp_b hg ho s hi
    have hb := eE_b hg ho s
    have hq : (iI (eE g (zR F) s + (sp g F s i).1) ≤ iI (eE g (zR F) s + eC g (zR F) s i)) = ((sp g F s i).1 ≤ eC g (zR F) s i) := by
      rw [iI_le (by omega) (by omega) (by omega) (by omega)]; apply propext; omega
    have e1 := tEn_ok h hf
    have e2 := tEn_ok h hn
    rw [eE_flip hg _ hi] at e1
    rw [nxE hg (by omega)] at e2
    have e3 := tCan_ok h hi
    simp (disch := first | assumption | omega) only [Option.bind_some, Option.map_some, xw_gR, xw_gN, xw_al, xw_ck, xw_uI, xw_ur, xup_at, xur_at, if_true, if_false, reduceIte, and_true, true_and, and_false, false_and, not_true_eq_false, not_false_eq_true, Nat.reduceEqDiff, eq_self, Nat.reduceAdd, Nat.reduceMul, kC1, kG1, kP1, kR1_0, kR1_1, kR1_2, kR1_3, kR1_4, kR1_5, kR1_6, kR1_7, kR1_8, kR1_9, kR1_10, kR1_11, kR1_12, kR1_13, kC2, kG2, kP2, kR2_0, kR2_1, kC3, kG3, kP3, kR3_0, kR3_1, kR3_2, kR3_3, kL4, kA4, kS4, kL5, kA5, kS5, kL6, kA6, kS6, kL7, kA7, kS7, kC8, kG8, kP8, kR8_0, kR8_1, kL9, kA9, kS9, kL10, kA10, kS10, kC11, kG11, kP11, kR11_0, kR11_1, kR11_2, kR11_3, kL12, kA12, kS12, kL13, kA13, kS13, kL14, kA14, kS14, kL15, kA15, kS15, kC16, kG16, kP16, kR16_0, kR16_1, kL17, kA17, kS17, kL18, kA18, kS18, kC19, kG19, kP19, kR19_0, kL20, kL141, kL146, kA146, kS146, kL151, kA151, kS151, kL156, kA156, kS156, kC157, kG157, kP157, kR157_0, kR157_1, kL158, kA158, kS158, kL159, kA159, kS159, kC161, kG161, kP161, kR161_0, kR161_1, kL162, kA162, kS162, kL163, kA163, kS163, kC165, kG165, kP165, kR165_0, kR165_1, kR165_2, kR165_3, kL166, kA166, kS166, kL167, kA167, kS167, kL168, kA168, kS168, kL169, kA169, kS169, kC170, kG170, kP170, kR170_0, kR170_1, kR170_2, kL171, kA171, kS171, kL172, kA172, kS172, kL173, kA173, kS173, kC174, kG174, kP174, kR174_0, kR174_1, kR174_2, kR174_3, kR174_4, kL175, kA175, kS175, kL176, kA176, kS176, kL177, kA177, kS177, kL178, kA178, kS178, kL179, kC180, kG180, kP180, kL181, kL182, kA182, kS182, kC183, kG183, kP183, kR183_1, kR183_3, kR183_5, kR183_6, kR183_7, kR183_8, kR183_9, kR183_21, kR183_26, kR183_27, kR183_30, kR183_31, kR183_33, kR183_34, kR183_36, kR183_37, kR183_38, kR183_39, kR183_40, kR183_41, kR183_42, kR183_43, kR183_44, kL184, kA184, kS184, kL185, kA185, kS185, kL186, kA186, kS186, kL187, kA187, kS187, kL188, kA188, kS188, kL189, kL190, kL191, kA191, kS191, kL192, kA192, kS192, kL193, kA193, kS193, kL194, kA194, kS194, kL195, kA195, kS195, kL196, kA196, kS196, kL197, kA197, kS197, kL198, kA198, kS198, kL199, kA199, kS199, kL200, kA200, kS200, kL201, kL202, kA202, kS202, kL203, kA203, kS203, kL204, kA204, kS204, kL205, kL206, kA206, kS206, j7, nn_le, show ¬ (gSz g ≤ i) by omega, e3, nn_one, nn_xor, e1, e2, hq]
    rw [← nI_succ]
    show _ = some (Sum.inl (nI (nxS s (sp g F s (i + 1)).2), nI (i + 1)))
    rw [sp]
    by_cases h0 : F (48 + i) = 0
    · rw [if_pos h0, if_neg (by decide)]
      by_cases h1 : (sp g F s i).1 ≤ eC g (zR F) s i
      · rw [if_pos h1, if_neg (fun z => by omega)]
      · rw [if_neg h1, if_pos ⟨h0, by omega⟩]
        rfl
    · rw [if_neg h0, if_pos rfl, if_neg (fun z => h0 z.1)]
  · simp only [f_X9_steepestFrom_b4]
    simp (disch := first | assumption | omega) only [Option.bind_some, Option.map_some, xw_gR, xw_gN, xw_al, xw_ck, xw_uI, xw_ur, xup_at, xur_at, if_true, if_false, reduceIte, and_true, true_and, and_false, false_and, not_true_eq_false, not_false_eq_true, Nat.reduceEqDiff, eq_self, Nat.reduceAdd, Nat.reduceMul, kC1, kG1, kP1, kR1_0, kR1_1, kR1_2, kR1_3, kR1_4, kR1_5, kR1_6, kR1_7, kR1_8, kR1_9, kR1_10, kR1_11, kR1_12, kR1_13, kC2, kG2, kP2, kR2_0, kR2_1, kC3, kG3, kP3, kR3_0, kR3_1, kR3_2, kR3_3, kL4, kA4, kS4, kL5, kA5, kS5, kL6, kA6, kS6, kL7, kA7, kS7, kC8, kG8, kP8, kR8_0, kR8_1, kL9, kA9, kS9, kL10, kA10, kS10, kC11, kG11, kP11, kR11_0, kR11_1, kR11_2, kR11_3, kL12, kA12, kS12, kL13, kA13, kS13, kL14, kA14, kS14, kL15, kA15, kS15, kC16, kG16, kP16, kR16_0, kR16_1, kL17, kA17, kS17, kL18, kA18, kS18, kC19, kG19, kP19, kR19_0, kL20, kL141, kL146, kA146, kS146, kL151, kA151, kS151, kL156, kA156, kS156, kC157, kG157, kP157, kR157_0, kR157_1, kL158, kA158, kS158, kL159, kA159, kS159, kC161, kG161, kP161, kR161_0, kR161_1, kL162, kA162, kS162, kL163, kA163, kS163, kC165, kG165, kP165, kR165_0, kR165_1, kR165_2, kR165_3, kL166, kA166, kS166, kL167, kA167, kS167, kL168, kA168, kS168, kL169, kA169, kS169, kC170, kG170, kP170, kR170_0, kR170_1, kR170_2, kL171, kA171, kS171, kL172, kA172, kS172, kL173, kA173, kS173, kC174, kG174, kP174, kR174_0, kR174_1, kR174_2, kR174_3, kR174_4, kL175, kA175, kS175, kL176, kA176, kS176, kL177, kA177, kS177, kL178, kA178, kS178, kL179, kC180, kG180, kP180, kL181, kL182, kA182, kS182, kC183, kG183, kP183, kR183_1, kR183_3, kR183_5, kR183_6, kR183_7, kR183_8, kR183_9, kR183_21, kR183_26, kR183_27, kR183_30, kR183_31, kR183_33, kR183_34, kR183_36, kR183_37, kR183_38, kR183_39, kR183_40, kR183_41, kR183_42, kR183_43, kR183_44, kL184, kA184, kS184, kL185, kA185, kS185, kL186, kA186, kS186, kL187, kA187, kS187, kL188, kA188, kS188, kL189, kL190, kL191, kA191, kS191, kL192, kA192, kS192, kL193, kA193, kS193, kL194, kA194, kS194, kL195, kA195, kS195, kL196, kA196, kS196, kL197, kA197, kS197, kL198, kA198, kS198, kL199, kA199, kS199, kL200, kA200, kS200, kL201, kL202, kA202, kS202, kL203, kA203, kS203, kL204, kA204, kS204, kL205, kL206, kA206, kS206, j7, nn_le, Nat.le_refl]
theorem fs_shift (s : Nat) : ∀ j, fs g F (fs g F s 1) j = fs g F s (j + 1)
  | 0 => rfl
  | j + 1 => by rw [fs, fs_shift s j]; rfl
theorem fs_stay {s M : Nat} (h : (sp g F (fs g F s M) (gSz g)).2 = none) : ∀ k, fs g F s (M + k) = fs g F s M
  | 0 => rfl
  | k + 1 => by
    rw [show M + (k + 1) = (M + k) + 1 by omega, fs, fs_stay h k, h]
theorem fE_M (hg : g ∈ gAll) (ho : RO g F) {s M : Nat} (hM : M ≤ 288) (h : (sp g F (fs g F s M) (gSz g)).2 = none) : fE g F s = fs g F s M := by
  unfold fE
  rw [show 288 = M + (288 - M) by omega]
  exact fs_stay h _
theorem fE_nx (hg : g ∈ gAll) (ho : RO g F) (s : Nat) : fE g F (nxS s (sp g F s (gSz g)).2) = fE g F s := by
  obtain ⟨M, hM, h1, h2⟩ := fs_end (s := s) hg ho
  have e : nxS s (sp g F s (gSz g)).2 = fs g F s 1 := rfl
  rw [e]
  unfold fE
  rw [fs_shift, show 288 + 1 = M + (289 - M) by omega, fs_stay h1, show 288 = M + (288 - M) by omega, fs_stay h1]
theorem fE_no {s : Nat} (h : (sp g F s (gSz g)).2 = none) : fE g F s = s := by
  have := fs_stay (g := g) (F := F) (s := s) (M := 0) h 288
  rw [Nat.zero_add] at this
  exact this
theorem bj66 (hS : Shp σ) {i b q cn e : Nat} (hi : i < 1024) (hq : q < 1024) (hv : J 175 i = nI q) (he : e < 1024) (hb : b < 1024) : f_X9_basinOf_j66 (xw σ J) 174 (nI b) (nI cn) (nI i) (nI e) = some (.inl (nI (cn + (if e = b then 1 else 0)), nI (i + 1), xw σ (xup J 178 q (nI e)))) := by
  unfold f_X9_basinOf_j66
  have e0 : (nI e = nI b) = (e = b) := nn_eq (by omega) (by omega)
  simp (disch := first | assumption | omega) only [Option.bind_some, Option.map_some, xw_gR, xw_gN, xw_al, xw_ck, xw_uI, xw_ur, xup_at, xur_at, if_true, if_false, reduceIte, and_true, true_and, and_false, false_and, not_true_eq_false, not_false_eq_true, Nat.reduceEqDiff, eq_self, Nat.reduceAdd, Nat.reduceMul, kC1, kG1, kP1, kR1_0, kR1_1, kR1_2, kR1_3, kR1_4, kR1_5, kR1_6, kR1_7, kR1_8, kR1_9, kR1_10, kR1_11, kR1_12, kR1_13, kC2, kG2, kP2, kR2_0, kR2_1, kC3, kG3, kP3, kR3_0, kR3_1, kR3_2, kR3_3, kL4, kA4, kS4, kL5, kA5, kS5, kL6, kA6, kS6, kL7, kA7, kS7, kC8, kG8, kP8, kR8_0, kR8_1, kL9, kA9, kS9, kL10, kA10, kS10, kC11, kG11, kP11, kR11_0, kR11_1, kR11_2, kR11_3, kL12, kA12, kS12, kL13, kA13, kS13, kL14, kA14, kS14, kL15, kA15, kS15, kC16, kG16, kP16, kR16_0, kR16_1, kL17, kA17, kS17, kL18, kA18, kS18, kC19, kG19, kP19, kR19_0, kL20, kL141, kL146, kA146, kS146, kL151, kA151, kS151, kL156, kA156, kS156, kC157, kG157, kP157, kR157_0, kR157_1, kL158, kA158, kS158, kL159, kA159, kS159, kC161, kG161, kP161, kR161_0, kR161_1, kL162, kA162, kS162, kL163, kA163, kS163, kC165, kG165, kP165, kR165_0, kR165_1, kR165_2, kR165_3, kL166, kA166, kS166, kL167, kA167, kS167, kL168, kA168, kS168, kL169, kA169, kS169, kC170, kG170, kP170, kR170_0, kR170_1, kR170_2, kL171, kA171, kS171, kL172, kA172, kS172, kL173, kA173, kS173, kC174, kG174, kP174, kR174_0, kR174_1, kR174_2, kR174_3, kR174_4, kL175, kA175, kS175, kL176, kA176, kS176, kL177, kA177, kS177, kL178, kA178, kS178, kL179, kC180, kG180, kP180, kL181, kL182, kA182, kS182, kC183, kG183, kP183, kR183_1, kR183_3, kR183_5, kR183_6, kR183_7, kR183_8, kR183_9, kR183_21, kR183_26, kR183_27, kR183_30, kR183_31, kR183_33, kR183_34, kR183_36, kR183_37, kR183_38, kR183_39, kR183_40, kR183_41, kR183_42, kR183_43, kR183_44, kL184, kA184, kS184, kL185, kA185, kS185, kL186, kA186, kS186, kL187, kA187, kS187, kL188, kA188, kS188, kL189, kL190, kL191, kA191, kS191, kL192, kA192, kS192, kL193, kA193, kS193, kL194, kA194, kS194, kL195, kA195, kS195, kL196, kA196, kS196, kL197, kA197, kS197, kL198, kA198, kS198, kL199, kA199, kS199, kL200, kA200, kS200, kL201, kL202, kA202, kS202, kL203, kA203, kS203, kL204, kA204, kS204, kL205, kL206, kA206, kS206, hv, isSt_ok, one0]
  unfold f_X9_basinOf_j93
  simp only [e0]
  by_cases z : e = b
  · rw [if_pos z, if_pos z, nI_succ, nI_succ]
  · rw [if_neg z, if_neg z, nI_succ]
    congr 3
    show nI cn + nI 0 = _
    rw [nn_add]
theorem basinOf_ok (h : TC σ J g F c m) (hO : TO J g F M o) {b : Nat} (hb : b < gSt g) : ∃ J', f_X9_basinOf (xw σ J) 174 (nI b) = some (nI (fb_ct (fun i => decide (fE g F (o i) = b)) M), xw σ J') ∧ ∀ a k, a ≠ 178 → J' a k = J a k := by
  have hst := h.st
  obtain ⟨hS, hg, hro, h10, -⟩ := id h
  obtain ⟨hM, j8, o1, o2, o3⟩ := id hO
  unfold f_X9_basinOf
  have key := xforI (f := f_X9_basinOf_b4 174 (nI b)) (fun k x => ∃ J' : Nat → Nat → Int32, x = (nI (fb_ct (fun i => decide (fE g F (o i) = b)) k), nI k, xw σ J') ∧ (∀ a q, a ≠ 178 → J' a q = J a q) ∧ ∀ i, i < k → J' 178 (o i) = nI (fE g F (o i))) M (Q := fun r => ∃ J', r = (nI (fb_ct (fun i => decide (fE g F (o i) = b)) M), xw σ J') ∧ ∀ a k, a ≠ 178 → J' a k = J a k) (a0 := ((0 : Int32), (0 : Int32), xw σ J)) ⟨J, rfl, fun _ _ _ => rfl, fun i hi => absurd hi (Nat.not_lt_zero _)⟩ ?_ ?_
  · obtain ⟨r, e, J', rfl, u⟩ := key
    exact ⟨J', e, u⟩
  · rintro k x hk ⟨J', rfl, u, v⟩
    have hT' : TC σ J' g F c m := TC_c (fun a k h1 h2 => u a k (by omega)) h
    obtain ⟨k1, k2, k3⟩ := o1 k hk
    have v8 : J' 174 8 = nI M := by rw [u _ _ (by omega)]; exact j8
    have v5 : J' 175 k = nI (o k) := by rw [u _ _ (by omega)]; exact k1
    have st := steepFrom_ok hT' k2
    have hfe : fE g F (o k) < gSt g := (fs_l (g := g) (F := F) k2 k3 288).1
    have stp : f_X9_basinOf_b4 174 (nI b) (nI (fb_ct (fun i => decide (fE g F (o i) = b)) k), nI k, xw σ J') = f_X9_basinOf_j66 (xw σ J') 174 (nI b) (nI (fb_ct (fun i => decide (fE g F (o i) = b)) k)) (nI k) (nI (fE g F (o k))) := by
      simp only [f_X9_basinOf_b4]
      have q1 : (nI M ≤ nI k) = False := by rw [nn_le (by omega) (by omega)]; exact eq_false (by omega)
      have q2 : ((1024 : Int32) ≤ nI k) = False := by rw [show (1024 : Int32) = nI 1024 from rfl, nn_le (by omega) (by omega)]; exact eq_false (by omega)
      have hk' : k < 1024 := by omega
      simp (disch := first | assumption | omega) only [Option.bind_some, Option.map_some, xw_gR, xw_gN, xw_al, xw_ck, xw_uI, xw_ur, xup_at, xur_at, if_true, if_false, reduceIte, and_true, true_and, and_false, false_and, not_true_eq_false, not_false_eq_true, Nat.reduceEqDiff, eq_self, Nat.reduceAdd, Nat.reduceMul, kC1, kG1, kP1, kR1_0, kR1_1, kR1_2, kR1_3, kR1_4, kR1_5, kR1_6, kR1_7, kR1_8, kR1_9, kR1_10, kR1_11, kR1_12, kR1_13, kC2, kG2, kP2, kR2_0, kR2_1, kC3, kG3, kP3, kR3_0, kR3_1, kR3_2, kR3_3, kL4, kA4, kS4, kL5, kA5, kS5, kL6, kA6, kS6, kL7, kA7, kS7, kC8, kG8, kP8, kR8_0, kR8_1, kL9, kA9, kS9, kL10, kA10, kS10, kC11, kG11, kP11, kR11_0, kR11_1, kR11_2, kR11_3, kL12, kA12, kS12, kL13, kA13, kS13, kL14, kA14, kS14, kL15, kA15, kS15, kC16, kG16, kP16, kR16_0, kR16_1, kL17, kA17, kS17, kL18, kA18, kS18, kC19, kG19, kP19, kR19_0, kL20, kL141, kL146, kA146, kS146, kL151, kA151, kS151, kL156, kA156, kS156, kC157, kG157, kP157, kR157_0, kR157_1, kL158, kA158, kS158, kL159, kA159, kS159, kC161, kG161, kP161, kR161_0, kR161_1, kL162, kA162, kS162, kL163, kA163, kS163, kC165, kG165, kP165, kR165_0, kR165_1, kR165_2, kR165_3, kL166, kA166, kS166, kL167, kA167, kS167, kL168, kA168, kS168, kL169, kA169, kS169, kC170, kG170, kP170, kR170_0, kR170_1, kR170_2, kL171, kA171, kS171, kL172, kA172, kS172, kL173, kA173, kS173, kC174, kG174, kP174, kR174_0, kR174_1, kR174_2, kR174_3, kR174_4, kL175, kA175, kS175, kL176, kA176, kS176, kL177, kA177, kS177, kL178, kA178, kS178, kL179, kC180, kG180, kP180, kL181, kL182, kA182, kS182, kC183, kG183, kP183, kR183_1, kR183_3, kR183_5, kR183_6, kR183_7, kR183_8, kR183_9, kR183_21, kR183_26, kR183_27, kR183_30, kR183_31, kR183_33, kR183_34, kR183_36, kR183_37, kR183_38, kR183_39, kR183_40, kR183_41, kR183_42, kR183_43, kR183_44, kL184, kA184, kS184, kL185, kA185, kS185, kL186, kA186, kS186, kL187, kA187, kS187, kL188, kA188, kS188, kL189, kL190, kL191, kA191, kS191, kL192, kA192, kS192, kL193, kA193, kS193, kL194, kA194, kS194, kL195, kA195, kS195, kL196, kA196, kS196, kL197, kA197, kS197, kL198, kA198, kS198, kL199, kA199, kS199, kL200, kA200, kS200, kL201, kL202, kA202, kS202, kL203, kA203, kS203, kL204, kA204, kS204, kL205, kL206, kA206, kS206, v8, q1, q2, v5, st]
      cases hsp : (sp g F (o k) (gSz g)).2 with
      | none =>
        rw [fE_no hsp]
        rw [if_pos (show nI (nxS (o k) none) = nI (o k) from rfl)]
      | some i =>
        have sq := (sp_some g F (o k) (gSz g)).2 i hsp
        have hnx := nxB (F := F) k2 (Nat.le_refl (gSz g))
        have hnE := nxE (g := g) (F := F) hg (s := o k) (Nat.le_refl (gSz g))
        have hfn := fE_nx hg hro (o k)
        rw [hsp] at hnx hnE hfn
        have hlw : lW g F (nxS (o k) (some i)) = true := by
          show lW g F (o k ^^^ 2 ^ i) = true
          rw [lW_flip sq.1 k3]; exact decide_eq_true sq.2.1
        obtain ⟨i', i1, i2⟩ := o3 _ hnx hlw
        have hlt : i' < k := by
          rcases Nat.lt_trichotomy i' k with z | z | z
          · exact z
          · rw [z] at i2
            rw [← i2] at hnE
            omega
          · have := (o2 k i' z i1).1
            rw [i2] at this
            omega
        have hv := v i' hlt
        rw [i2, hfn] at hv
        have hne : (nI (nxS (o k) (some i)) = nI (o k)) = False := by
          rw [nn_eq (by omega) (by omega)]
          apply eq_false
          intro z
          rw [z] at hnE
          omega
        have hs1 := isSt_ok (show nxS (o k) (some i) < 1024 by omega)
        have hA : xaI (xw σ J') 20 178 (nI (nxS (o k) (some i))) = some (J' 178 (nxS (o k) (some i))) := kA178 hS (by omega)
        simp only [hne, if_false, hs1, Option.bind_some, one0, hA, hv]
    refine ⟨_, stp.trans (bj66 hS (by omega) (by omega) v5 (by omega) (by omega)), xup J' 178 (o k) (nI (fE g F (o k))), ?_, fun a q hq => ?_, fun i hi => ?_⟩
    · congr 2
      rw [fb_ct_succ]
      by_cases z : fE g F (o k) = b
      · simp [z]
      · simp [z]
    · rw [xup_at, if_neg (by omega)]; exact u a q hq
    · rw [xup_at]
      by_cases z : i = k
      · rw [z, if_pos ⟨rfl, rfl⟩]
      · have := (o2 i k (by omega) hk).2
        rw [if_neg (fun w => this w.2)]
        exact v i (by omega)
  · rintro x ⟨J', rfl, u, v⟩
    have v8 : J' 174 8 = nI M := by rw [u _ _ (by omega)]; exact j8
    refine ⟨_, ?_, J', rfl, u⟩
    simp only [f_X9_basinOf_b4]
    simp (disch := first | assumption | omega) only [Option.bind_some, Option.map_some, xw_gR, xw_gN, xw_al, xw_ck, xw_uI, xw_ur, xup_at, xur_at, if_true, if_false, reduceIte, and_true, true_and, and_false, false_and, not_true_eq_false, not_false_eq_true, Nat.reduceEqDiff, eq_self, Nat.reduceAdd, Nat.reduceMul, kC1, kG1, kP1, kR1_0, kR1_1, kR1_2, kR1_3, kR1_4, kR1_5, kR1_6, kR1_7, kR1_8, kR1_9, kR1_10, kR1_11, kR1_12, kR1_13, kC2, kG2, kP2, kR2_0, kR2_1, kC3, kG3, kP3, kR3_0, kR3_1, kR3_2, kR3_3, kL4, kA4, kS4, kL5, kA5, kS5, kL6, kA6, kS6, kL7, kA7, kS7, kC8, kG8, kP8, kR8_0, kR8_1, kL9, kA9, kS9, kL10, kA10, kS10, kC11, kG11, kP11, kR11_0, kR11_1, kR11_2, kR11_3, kL12, kA12, kS12, kL13, kA13, kS13, kL14, kA14, kS14, kL15, kA15, kS15, kC16, kG16, kP16, kR16_0, kR16_1, kL17, kA17, kS17, kL18, kA18, kS18, kC19, kG19, kP19, kR19_0, kL20, kL141, kL146, kA146, kS146, kL151, kA151, kS151, kL156, kA156, kS156, kC157, kG157, kP157, kR157_0, kR157_1, kL158, kA158, kS158, kL159, kA159, kS159, kC161, kG161, kP161, kR161_0, kR161_1, kL162, kA162, kS162, kL163, kA163, kS163, kC165, kG165, kP165, kR165_0, kR165_1, kR165_2, kR165_3, kL166, kA166, kS166, kL167, kA167, kS167, kL168, kA168, kS168, kL169, kA169, kS169, kC170, kG170, kP170, kR170_0, kR170_1, kR170_2, kL171, kA171, kS171, kL172, kA172, kS172, kL173, kA173, kS173, kC174, kG174, kP174, kR174_0, kR174_1, kR174_2, kR174_3, kR174_4, kL175, kA175, kS175, kL176, kA176, kS176, kL177, kA177, kS177, kL178, kA178, kS178, kL179, kC180, kG180, kP180, kL181, kL182, kA182, kS182, kC183, kG183, kP183, kR183_1, kR183_3, kR183_5, kR183_6, kR183_7, kR183_8, kR183_9, kR183_21, kR183_26, kR183_27, kR183_30, kR183_31, kR183_33, kR183_34, kR183_36, kR183_37, kR183_38, kR183_39, kR183_40, kR183_41, kR183_42, kR183_43, kR183_44, kL184, kA184, kS184, kL185, kA185, kS185, kL186, kA186, kS186, kL187, kA187, kS187, kL188, kA188, kS188, kL189, kL190, kL191, kA191, kS191, kL192, kA192, kS192, kL193, kA193, kS193, kL194, kA194, kS194, kL195, kA195, kS195, kL196, kA196, kS196, kL197, kA197, kS197, kL198, kA198, kS198, kL199, kA199, kS199, kL200, kA200, kS200, kL201, kL202, kA202, kS202, kL203, kA203, kS203, kL204, kA204, kS204, kL205, kL206, kA206, kS206, v8, nn_le, Nat.le_refl]
end TERR
theorem ct_perm (p : Nat → Bool) (o : Nat → Nat) (N : Nat) : ∀ M, (∀ i, i < M → o i < N) → (∀ i j, i < j → j < M → o i ≠ o j) → ∀ q : Nat → Bool, (∀ s, s < N → (q s = true ↔ ∃ i, i < M ∧ o i = s)) → fb_ct (fun i => p (o i)) M = fb_ct (fun s => q s && p s) N := by
  intro M
  induction M with
  | zero =>
    intro _ _ q hq
    symm
    apply fb_ct_zero.mpr
    intro s hs
    have : q s = false := by
      cases h : q s with
      | false => rfl
      | true =>
        obtain ⟨i, hi, -⟩ := (hq s hs).mp h
        omega
    rw [this]; rfl
  | succ M ih =>
    intro h1 h2 q hq
    have hoM := h1 M (by omega)
    have := ih (fun i hi => h1 i (by omega)) (fun i j hij hj => h2 i j hij (by omega)) (fun s => if s = o M then false else q s) (fun s hs => by
      by_cases z : s = o M
      · simp only [z, if_true]
        constructor
        · intro w; cases w
        · rintro ⟨i, hi, w⟩
          exact absurd w (h2 i M hi (by omega))
      · simp only [z, if_false]
        rw [hq s hs]
        constructor
        · rintro ⟨i, hi, w⟩
          refine ⟨i, ?_, w⟩
          by_cases e : i = M
          · rw [e] at w; exact absurd w.symm z
          · omega
        · rintro ⟨i, hi, w⟩
          exact ⟨i, by omega, w⟩)
    have qM : q (o M) = true := (hq _ hoM).mpr ⟨M, by omega, rfl⟩
    have up : fb_ct (fun k => if k = o M then false else (q k && p k)) N + (if (q (o M) && p (o M)) = true then 1 else 0) = fb_ct (fun s => q s && p s) N + (if false = true then 1 else 0) := fb_ct_upd (fun s => q s && p s) false hoM
    have cg : fb_ct (fun s => (if s = o M then false else q s) && p s) N = fb_ct (fun k => if k = o M then false else (q k && p k)) N := fb_ct_cong (fun k _ => by
      by_cases z : k = o M
      · simp [z]
      · simp [z])
    rw [fb_ct_succ, this, cg]
    rw [qM, Bool.true_and, if_neg (show ¬ (false = true) by decide)] at up
    exact up
end
section
/-! basin -/
theorem isSmall_ok {σ : XS} {I : Nat → Nat → Int32} {g : GD} (hS : Shp σ) (hG : GRD I g) : f_X11_isSmall (xw σ I) 1 = some (if gSz g ≤ 10 then 1 else 0) := by
  have h16 := (gAll_b g hG.1).2.2.1
  unfold f_X11_isSmall
  have e : ((10 : Int32) < nI (gSz g)) = (10 < gSz g) := nn_lt (a := 10) (by omega) (by omega)
  simp (disch := first | assumption | omega) only [Option.bind_some, Option.map_some, xw_gR, xw_gN, xw_al, xw_ck, xw_uI, xw_ur, xup_at, xur_at, if_true, if_false, reduceIte, and_true, true_and, and_false, false_and, not_true_eq_false, not_false_eq_true, Nat.reduceEqDiff, eq_self, Nat.reduceAdd, Nat.reduceMul, kC1, kG1, kP1, kR1_0, kR1_1, kR1_2, kR1_3, kR1_4, kR1_5, kR1_6, kR1_7, kR1_8, kR1_9, kR1_10, kR1_11, kR1_12, kR1_13, kC2, kG2, kP2, kR2_0, kR2_1, kC3, kG3, kP3, kR3_0, kR3_1, kR3_2, kR3_3, kL4, kA4, kS4, kL5, kA5, kS5, kL6, kA6, kS6, kL7, kA7, kS7, kC8, kG8, kP8, kR8_0, kR8_1, kL9, kA9, kS9, kL10, kA10, kS10, kC11, kG11, kP11, kR11_0, kR11_1, kR11_2, kR11_3, kL12, kA12, kS12, kL13, kA13, kS13, kL14, kA14, kS14, kL15, kA15, kS15, kC16, kG16, kP16, kR16_0, kR16_1, kL17, kA17, kS17, kL18, kA18, kS18, kC19, kG19, kP19, kR19_0, kL20, kL141, kL146, kA146, kS146, kL151, kA151, kS151, kL156, kA156, kS156, kC157, kG157, kP157, kR157_0, kR157_1, kL158, kA158, kS158, kL159, kA159, kS159, kC161, kG161, kP161, kR161_0, kR161_1, kL162, kA162, kS162, kL163, kA163, kS163, kC165, kG165, kP165, kR165_0, kR165_1, kR165_2, kR165_3, kL166, kA166, kS166, kL167, kA167, kS167, kL168, kA168, kS168, kL169, kA169, kS169, kC170, kG170, kP170, kR170_0, kR170_1, kR170_2, kL171, kA171, kS171, kL172, kA172, kS172, kL173, kA173, kS173, kC174, kG174, kP174, kR174_0, kR174_1, kR174_2, kR174_3, kR174_4, kL175, kA175, kS175, kL176, kA176, kS176, kL177, kA177, kS177, kL178, kA178, kS178, kL179, kC180, kG180, kP180, kL181, kL182, kA182, kS182, kC183, kG183, kP183, kR183_1, kR183_3, kR183_5, kR183_6, kR183_7, kR183_8, kR183_9, kR183_21, kR183_26, kR183_27, kR183_30, kR183_31, kR183_33, kR183_34, kR183_36, kR183_37, kR183_38, kR183_39, kR183_40, kR183_41, kR183_42, kR183_43, kR183_44, kL184, kA184, kS184, kL185, kA185, kS185, kL186, kA186, kS186, kL187, kA187, kS187, kL188, kA188, kS188, kL189, kL190, kL191, kA191, kS191, kL192, kA192, kS192, kL193, kA193, kS193, kL194, kA194, kS194, kL195, kA195, kS195, kL196, kA196, kS196, kL197, kA197, kS197, kL198, kA198, kS198, kL199, kA199, kS199, kL200, kA200, kS200, kL201, kL202, kA202, kS202, kL203, kA203, kS203, kL204, kA204, kS204, kL205, kL206, kA206, kS206, hG.2.2.2.2.1, e]
  by_cases h : gSz g ≤ 10
  · rw [if_pos h, if_neg (by omega)]
  · rw [if_neg h, if_pos (by omega)]
theorem terr_ready {n : Nat} {σ : XS} {g : GD} {gT gP : GH} {st : Nat} (hn : n ≤ 512) (H : IV n σ g gT gP st) (h10 : gSz g ≤ 10) : ∃ τ c m M o, f_X11_terrainNow σ 1 = some (174, τ) ∧ IV n τ g gT gP st ∧ TC τ (xI τ) g (xI σ 191) c m ∧ TO (xI τ) g (xI σ 191) M o ∧ xI τ 191 = xI σ 191 := by
  obtain ⟨τ, e1, H1, K1, L1, T1, u1⟩ := terrainNow_ok hn H h10
  have r1 : xI τ 191 = xI σ 191 := by funext k; exact u1 191 k (by omega)
  rw [r1] at K1 T1
  obtain ⟨t1, t2, t3, M, o, t4⟩ := T1 h10
  obtain ⟨c, a, hE, ha, hcn⟩ := H1.en157
  have hN := H1.now
  rw [r1] at hN
  exact ⟨τ, c, 2 ^ a, M, o, e1, H1, ⟨H1.shp, H1.grd.1, hN.2.1, h10, hE, K1, hN.1, t2, t3, t1⟩, t4, r1⟩
theorem small12 {σ : XS} {I : Nat → Nat → Int32} {g : GD} (hS : Shp σ) (hG : GRD I g) : (nI (gSz g) ≤ (10 : Int32)) = (gSz g ≤ 10) := nn_le (b := 10) (by have := (gAll_b g hG.1).2.2.1; omega) (by decide)
theorem op_basin : Op_basin INV := by
  intro n σ hn ⟨g, gT, gP, st, H⟩ x
  have hS := H.shp
  have hG := H.grd
  have hg := hG.1
  have h16 := (gAll_b g hg).2.2.1
  have hSt := (gSt_b hg).1
  have sm := isSmall_ok (σ := σ) (I := xI σ) hS hG
  have l1 := isLawful11_ok (σ := σ) (I := xI σ) hS hG H.now.1 x
  have l2 := isLawful12_ok (σ := σ) (I := xI σ) hS hG H.now.2.1 x
  have s2 := sites_ok (σ := σ) (I := xI σ) hS hG
  by_cases h10 : gSz g ≤ 10
  · rw [if_pos h10] at sm
    by_cases hb : isB g (xI σ 191) x = true
    · rw [hb, if_pos rfl] at l1
      obtain ⟨b, hb1, rfl, hbl⟩ := isB_t hb
      obtain ⟨τ, c, m, M, o, e1, H1, hT, hO, r1⟩ := terr_ready (by omega) H h10
      obtain ⟨F, hF⟩ : ∃ F, F = xI σ 191 := ⟨_, rfl⟩
      rw [← hF] at hT hO hbl r1
      obtain ⟨J', e3, u3⟩ := basinOf_ok hT hO hb1
      have H3 : IV n (xw τ J') g gT gP st := H1.terr (fun a k h1 h2 => u3 a k (by omega))
      obtain ⟨Q, e4, H4, K4, u4⟩ := knows_ok H3
      have e4 : f_X12_knows (xw τ J') 183 = some (xw τ Q) := e4
      have H4 : IV n (xw τ Q) g gT gP st := H4
      have r3 : J' 191 = F := by rw [← r1]; funext k; exact u3 191 k (by omega)
      have r4 : Q 191 = F := by rw [← r3]; funext k; exact u4 191 k (by omega) (by omega)
      rw [r4] at K4
      have hS3 : Shp τ := H1.shp
      have hG4 : GRD Q g := H4.grd
      have ho := hT.2.2.1
      have l3 := isLawful12_ok (σ := τ) (I := J') hS3 (show GRD J' g from H3.grd) (show RO g (J' 191) from H3.now.2.1) (nI b)
      rw [r3, isB_n hg hb1, hbl, if_pos rfl] at l3
      obtain ⟨hM, j8, o1, o2, o3⟩ := id hO
      have cnt : fb_ct (fun i => decide (fE g F (o i) = b)) M = fb_ct (fun s => lW g F s && decide (fE g F s = b)) (gSt g) := ct_perm (fun s => decide (fE g F s = b)) o (gSt g) M (fun i hi => (o1 i hi).2.1) (fun i j hij hj => (o2 i j hij hj).2) (lW g F) (fun s hs => ⟨fun hl => o3 s hs hl, fun ⟨i, hi, z⟩ => by rw [← z]; exact (o1 i hi).2.2⟩)
      rw [cnt] at e3
      refine ⟨nI (fb_ct (fun s => lW g F s && decide (fE g F s = b)) (gSt g)), xw τ J', xw τ Q, ?_, ?_, INV_i H4.nop⟩
      · unfold f_X11_basin
        show ((xck σ 1 11).bind fun _ => (f_X11_isSmall (xw σ (xI σ)) 1).bind _) = _
        rw [xck_ok (sT1 hS), Option.bind_some, sm, Option.bind_some, if_neg (by decide), Option.bind_some]
        show ((f_X11_isLawful (xw σ (xI σ)) 1 (nI b)).bind _) = _
        rw [l1, Option.bind_some, if_neg (by decide), Option.bind_some, e1, Option.bind_some]
        dsimp only
        rw [xnz_ok (by decide), Option.bind_some]
        unfold f_X11_basin_j22
        rw [xck_ok (sT174 hS3), Option.bind_some]
        show ((f_X9_basinOf (xw τ (xI τ)) 174 (nI b)).bind _) = _
        rw [e3, Option.bind_some]
      · unfold f_X12_basin
        have sm2 := small12 hS hG
        simp (disch := first | assumption | omega) only [Option.bind_some, Option.map_some, xw_gR, xw_gN, xw_al, xw_ck, xw_uI, xw_ur, xup_at, xur_at, if_true, if_false, reduceIte, and_true, true_and, and_false, false_and, not_true_eq_false, not_false_eq_true, Nat.reduceEqDiff, eq_self, Nat.reduceAdd, Nat.reduceMul, kC1, kG1, kP1, kR1_0, kR1_1, kR1_2, kR1_3, kR1_4, kR1_5, kR1_6, kR1_7, kR1_8, kR1_9, kR1_10, kR1_11, kR1_12, kR1_13, kC2, kG2, kP2, kR2_0, kR2_1, kC3, kG3, kP3, kR3_0, kR3_1, kR3_2, kR3_3, kL4, kA4, kS4, kL5, kA5, kS5, kL6, kA6, kS6, kL7, kA7, kS7, kC8, kG8, kP8, kR8_0, kR8_1, kL9, kA9, kS9, kL10, kA10, kS10, kC11, kG11, kP11, kR11_0, kR11_1, kR11_2, kR11_3, kL12, kA12, kS12, kL13, kA13, kS13, kL14, kA14, kS14, kL15, kA15, kS15, kC16, kG16, kP16, kR16_0, kR16_1, kL17, kA17, kS17, kL18, kA18, kS18, kC19, kG19, kP19, kR19_0, kL20, kL141, kL146, kA146, kS146, kL151, kA151, kS151, kL156, kA156, kS156, kC157, kG157, kP157, kR157_0, kR157_1, kL158, kA158, kS158, kL159, kA159, kS159, kC161, kG161, kP161, kR161_0, kR161_1, kL162, kA162, kS162, kL163, kA163, kS163, kC165, kG165, kP165, kR165_0, kR165_1, kR165_2, kR165_3, kL166, kA166, kS166, kL167, kA167, kS167, kL168, kA168, kS168, kL169, kA169, kS169, kC170, kG170, kP170, kR170_0, kR170_1, kR170_2, kL171, kA171, kS171, kL172, kA172, kS172, kL173, kA173, kS173, kC174, kG174, kP174, kR174_0, kR174_1, kR174_2, kR174_3, kR174_4, kL175, kA175, kS175, kL176, kA176, kS176, kL177, kA177, kS177, kL178, kA178, kS178, kL179, kC180, kG180, kP180, kL181, kL182, kA182, kS182, kC183, kG183, kP183, kR183_1, kR183_3, kR183_5, kR183_6, kR183_7, kR183_8, kR183_9, kR183_21, kR183_26, kR183_27, kR183_30, kR183_31, kR183_33, kR183_34, kR183_36, kR183_37, kR183_38, kR183_39, kR183_40, kR183_41, kR183_42, kR183_43, kR183_44, kL184, kA184, kS184, kL185, kA185, kS185, kL186, kA186, kS186, kL187, kA187, kS187, kL188, kA188, kS188, kL189, kL190, kL191, kA191, kS191, kL192, kA192, kS192, kL193, kA193, kS193, kL194, kA194, kS194, kL195, kA195, kS195, kL196, kA196, kS196, kL197, kA197, kS197, kL198, kA198, kS198, kL199, kA199, kS199, kL200, kA200, kS200, kL201, kL202, kA202, kS202, kL203, kA203, kS203, kL204, kA204, kS204, kL205, kL206, kA206, kS206, l3, one0, sites_ok hS3 (show GRD J' g from H3.grd), sm2, h10, e4]
        refine xforE (fun s : Nat => (nI (fb_ct (fun s => lW g F s && decide (fE g F s = b)) s), nI s)) (gSt g) rfl (fun s hs => ?_) ?_
        · simp only [f_X12_basin_b29]
          have hv := K4.1 s hs
          rw [fb_ct_succ]
          cases hl : lW g F s with
          | false =>
            rw [hl, if_neg (by decide)] at hv
            have q : ((100000 : Int32) ≤ nI 100000) = True := eq_true (by decide)
            simp (disch := first | assumption | omega) only [Option.bind_some, Option.map_some, xw_gR, xw_gN, xw_al, xw_ck, xw_uI, xw_ur, xup_at, xur_at, if_true, if_false, reduceIte, and_true, true_and, and_false, false_and, not_true_eq_false, not_false_eq_true, Nat.reduceEqDiff, eq_self, Nat.reduceAdd, Nat.reduceMul, kC1, kG1, kP1, kR1_0, kR1_1, kR1_2, kR1_3, kR1_4, kR1_5, kR1_6, kR1_7, kR1_8, kR1_9, kR1_10, kR1_11, kR1_12, kR1_13, kC2, kG2, kP2, kR2_0, kR2_1, kC3, kG3, kP3, kR3_0, kR3_1, kR3_2, kR3_3, kL4, kA4, kS4, kL5, kA5, kS5, kL6, kA6, kS6, kL7, kA7, kS7, kC8, kG8, kP8, kR8_0, kR8_1, kL9, kA9, kS9, kL10, kA10, kS10, kC11, kG11, kP11, kR11_0, kR11_1, kR11_2, kR11_3, kL12, kA12, kS12, kL13, kA13, kS13, kL14, kA14, kS14, kL15, kA15, kS15, kC16, kG16, kP16, kR16_0, kR16_1, kL17, kA17, kS17, kL18, kA18, kS18, kC19, kG19, kP19, kR19_0, kL20, kL141, kL146, kA146, kS146, kL151, kA151, kS151, kL156, kA156, kS156, kC157, kG157, kP157, kR157_0, kR157_1, kL158, kA158, kS158, kL159, kA159, kS159, kC161, kG161, kP161, kR161_0, kR161_1, kL162, kA162, kS162, kL163, kA163, kS163, kC165, kG165, kP165, kR165_0, kR165_1, kR165_2, kR165_3, kL166, kA166, kS166, kL167, kA167, kS167, kL168, kA168, kS168, kL169, kA169, kS169, kC170, kG170, kP170, kR170_0, kR170_1, kR170_2, kL171, kA171, kS171, kL172, kA172, kS172, kL173, kA173, kS173, kC174, kG174, kP174, kR174_0, kR174_1, kR174_2, kR174_3, kR174_4, kL175, kA175, kS175, kL176, kA176, kS176, kL177, kA177, kS177, kL178, kA178, kS178, kL179, kC180, kG180, kP180, kL181, kL182, kA182, kS182, kC183, kG183, kP183, kR183_1, kR183_3, kR183_5, kR183_6, kR183_7, kR183_8, kR183_9, kR183_21, kR183_26, kR183_27, kR183_30, kR183_31, kR183_33, kR183_34, kR183_36, kR183_37, kR183_38, kR183_39, kR183_40, kR183_41, kR183_42, kR183_43, kR183_44, kL184, kA184, kS184, kL185, kA185, kS185, kL186, kA186, kS186, kL187, kA187, kS187, kL188, kA188, kS188, kL189, kL190, kL191, kA191, kS191, kL192, kA192, kS192, kL193, kA193, kS193, kL194, kA194, kS194, kL195, kA195, kS195, kL196, kA196, kS196, kL197, kA197, kS197, kL198, kA198, kS198, kL199, kA199, kS199, kL200, kA200, kS200, kL201, kL202, kA202, kS202, kL203, kA203, kS203, kL204, kA204, kS204, kL205, kL206, kA206, kS206, states12_ok hS3 hG4, nn_le, show ¬ (gSt g ≤ s) by omega, hv, q]
            rw [nI_succ]
            rfl
          | true =>
            rw [hl, if_pos rfl] at hv
            have hb2 := eE_b hg ho s
            have q : ((100000 : Int32) ≤ iI (eE g (zR F) s)) = False := by
              rw [show (100000 : Int32) = iI 100000 from rfl, iI_le (by omega) (by omega) (by omega) (by omega)]; exact eq_false (by omega)
            obtain ⟨M', hM', m1, m2⟩ := fs_end (s := s) hg ho
            have fe := fallEnd_ok (σ := τ) (J := Q) hS3 hG4 ho K4 hs hl m1 m2
            rw [← fE_M hg ho hM' m1] at fe
            have hfe : fE g F s < gSt g := (fs_l (g := g) (F := F) hs hl 288).1
            have q2 : (nI (fE g F s) = nI b) = (fE g F s = b) := nn_eq (by omega) (by omega)
            simp (disch := first | assumption | omega) only [Option.bind_some, Option.map_some, xw_gR, xw_gN, xw_al, xw_ck, xw_uI, xw_ur, xup_at, xur_at, if_true, if_false, reduceIte, and_true, true_and, and_false, false_and, not_true_eq_false, not_false_eq_true, Nat.reduceEqDiff, eq_self, Nat.reduceAdd, Nat.reduceMul, kC1, kG1, kP1, kR1_0, kR1_1, kR1_2, kR1_3, kR1_4, kR1_5, kR1_6, kR1_7, kR1_8, kR1_9, kR1_10, kR1_11, kR1_12, kR1_13, kC2, kG2, kP2, kR2_0, kR2_1, kC3, kG3, kP3, kR3_0, kR3_1, kR3_2, kR3_3, kL4, kA4, kS4, kL5, kA5, kS5, kL6, kA6, kS6, kL7, kA7, kS7, kC8, kG8, kP8, kR8_0, kR8_1, kL9, kA9, kS9, kL10, kA10, kS10, kC11, kG11, kP11, kR11_0, kR11_1, kR11_2, kR11_3, kL12, kA12, kS12, kL13, kA13, kS13, kL14, kA14, kS14, kL15, kA15, kS15, kC16, kG16, kP16, kR16_0, kR16_1, kL17, kA17, kS17, kL18, kA18, kS18, kC19, kG19, kP19, kR19_0, kL20, kL141, kL146, kA146, kS146, kL151, kA151, kS151, kL156, kA156, kS156, kC157, kG157, kP157, kR157_0, kR157_1, kL158, kA158, kS158, kL159, kA159, kS159, kC161, kG161, kP161, kR161_0, kR161_1, kL162, kA162, kS162, kL163, kA163, kS163, kC165, kG165, kP165, kR165_0, kR165_1, kR165_2, kR165_3, kL166, kA166, kS166, kL167, kA167, kS167, kL168, kA168, kS168, kL169, kA169, kS169, kC170, kG170, kP170, kR170_0, kR170_1, kR170_2, kL171, kA171, kS171, kL172, kA172, kS172, kL173, kA173, kS173, kC174, kG174, kP174, kR174_0, kR174_1, kR174_2, kR174_3, kR174_4, kL175, kA175, kS175, kL176, kA176, kS176, kL177, kA177, kS177, kL178, kA178, kS178, kL179, kC180, kG180, kP180, kL181, kL182, kA182, kS182, kC183, kG183, kP183, kR183_1, kR183_3, kR183_5, kR183_6, kR183_7, kR183_8, kR183_9, kR183_21, kR183_26, kR183_27, kR183_30, kR183_31, kR183_33, kR183_34, kR183_36, kR183_37, kR183_38, kR183_39, kR183_40, kR183_41, kR183_42, kR183_43, kR183_44, kL184, kA184, kS184, kL185, kA185, kS185, kL186, kA186, kS186, kL187, kA187, kS187, kL188, kA188, kS188, kL189, kL190, kL191, kA191, kS191, kL192, kA192, kS192, kL193, kA193, kS193, kL194, kA194, kS194, kL195, kA195, kS195, kL196, kA196, kS196, kL197, kA197, kS197, kL198, kA198, kS198, kL199, kA199, kS199, kL200, kA200, kS200, kL201, kL202, kA202, kS202, kL203, kA203, kS203, kL204, kA204, kS204, kL205, kL206, kA206, kS206, states12_ok hS3 hG4, nn_le, show ¬ (gSt g ≤ s) by omega, hv, q, fe, q2]
            rw [← nI_succ, ← nI_succ]
            by_cases z : fE g F s = b
            · simp [z]
            · simp [z]
        · simp only [f_X12_basin_b29]
          simp (disch := first | assumption | omega) only [Option.bind_some, Option.map_some, xw_gR, xw_gN, xw_al, xw_ck, xw_uI, xw_ur, xup_at, xur_at, if_true, if_false, reduceIte, and_true, true_and, and_false, false_and, not_true_eq_false, not_false_eq_true, Nat.reduceEqDiff, eq_self, Nat.reduceAdd, Nat.reduceMul, kC1, kG1, kP1, kR1_0, kR1_1, kR1_2, kR1_3, kR1_4, kR1_5, kR1_6, kR1_7, kR1_8, kR1_9, kR1_10, kR1_11, kR1_12, kR1_13, kC2, kG2, kP2, kR2_0, kR2_1, kC3, kG3, kP3, kR3_0, kR3_1, kR3_2, kR3_3, kL4, kA4, kS4, kL5, kA5, kS5, kL6, kA6, kS6, kL7, kA7, kS7, kC8, kG8, kP8, kR8_0, kR8_1, kL9, kA9, kS9, kL10, kA10, kS10, kC11, kG11, kP11, kR11_0, kR11_1, kR11_2, kR11_3, kL12, kA12, kS12, kL13, kA13, kS13, kL14, kA14, kS14, kL15, kA15, kS15, kC16, kG16, kP16, kR16_0, kR16_1, kL17, kA17, kS17, kL18, kA18, kS18, kC19, kG19, kP19, kR19_0, kL20, kL141, kL146, kA146, kS146, kL151, kA151, kS151, kL156, kA156, kS156, kC157, kG157, kP157, kR157_0, kR157_1, kL158, kA158, kS158, kL159, kA159, kS159, kC161, kG161, kP161, kR161_0, kR161_1, kL162, kA162, kS162, kL163, kA163, kS163, kC165, kG165, kP165, kR165_0, kR165_1, kR165_2, kR165_3, kL166, kA166, kS166, kL167, kA167, kS167, kL168, kA168, kS168, kL169, kA169, kS169, kC170, kG170, kP170, kR170_0, kR170_1, kR170_2, kL171, kA171, kS171, kL172, kA172, kS172, kL173, kA173, kS173, kC174, kG174, kP174, kR174_0, kR174_1, kR174_2, kR174_3, kR174_4, kL175, kA175, kS175, kL176, kA176, kS176, kL177, kA177, kS177, kL178, kA178, kS178, kL179, kC180, kG180, kP180, kL181, kL182, kA182, kS182, kC183, kG183, kP183, kR183_1, kR183_3, kR183_5, kR183_6, kR183_7, kR183_8, kR183_9, kR183_21, kR183_26, kR183_27, kR183_30, kR183_31, kR183_33, kR183_34, kR183_36, kR183_37, kR183_38, kR183_39, kR183_40, kR183_41, kR183_42, kR183_43, kR183_44, kL184, kA184, kS184, kL185, kA185, kS185, kL186, kA186, kS186, kL187, kA187, kS187, kL188, kA188, kS188, kL189, kL190, kL191, kA191, kS191, kL192, kA192, kS192, kL193, kA193, kS193, kL194, kA194, kS194, kL195, kA195, kS195, kL196, kA196, kS196, kL197, kA197, kS197, kL198, kA198, kS198, kL199, kA199, kS199, kL200, kA200, kS200, kL201, kL202, kA202, kS202, kL203, kA203, kS203, kL204, kA204, kS204, kL205, kL206, kA206, kS206, states12_ok hS3 hG4, nn_le, Nat.le_refl]
    · have hb' : isB g (xI σ 191) x = false := Bool.not_eq_true _ ▸ hb
      rw [hb', if_neg (by decide)] at l1 l2
      refine ⟨-100000, σ, σ, ?_, ?_, g, gT, gP, st, H.nop⟩
      · show f_X11_basin (xw σ (xI σ)) 1 x = _
        unfold f_X11_basin
        simp (disch := first | assumption | omega) only [Option.bind_some, Option.map_some, xw_gR, xw_gN, xw_al, xw_ck, xw_uI, xw_ur, xup_at, xur_at, if_true, if_false, reduceIte, and_true, true_and, and_false, false_and, not_true_eq_false, not_false_eq_true, Nat.reduceEqDiff, eq_self, Nat.reduceAdd, Nat.reduceMul, kC1, kG1, kP1, kR1_0, kR1_1, kR1_2, kR1_3, kR1_4, kR1_5, kR1_6, kR1_7, kR1_8, kR1_9, kR1_10, kR1_11, kR1_12, kR1_13, kC2, kG2, kP2, kR2_0, kR2_1, kC3, kG3, kP3, kR3_0, kR3_1, kR3_2, kR3_3, kL4, kA4, kS4, kL5, kA5, kS5, kL6, kA6, kS6, kL7, kA7, kS7, kC8, kG8, kP8, kR8_0, kR8_1, kL9, kA9, kS9, kL10, kA10, kS10, kC11, kG11, kP11, kR11_0, kR11_1, kR11_2, kR11_3, kL12, kA12, kS12, kL13, kA13, kS13, kL14, kA14, kS14, kL15, kA15, kS15, kC16, kG16, kP16, kR16_0, kR16_1, kL17, kA17, kS17, kL18, kA18, kS18, kC19, kG19, kP19, kR19_0, kL20, kL141, kL146, kA146, kS146, kL151, kA151, kS151, kL156, kA156, kS156, kC157, kG157, kP157, kR157_0, kR157_1, kL158, kA158, kS158, kL159, kA159, kS159, kC161, kG161, kP161, kR161_0, kR161_1, kL162, kA162, kS162, kL163, kA163, kS163, kC165, kG165, kP165, kR165_0, kR165_1, kR165_2, kR165_3, kL166, kA166, kS166, kL167, kA167, kS167, kL168, kA168, kS168, kL169, kA169, kS169, kC170, kG170, kP170, kR170_0, kR170_1, kR170_2, kL171, kA171, kS171, kL172, kA172, kS172, kL173, kA173, kS173, kC174, kG174, kP174, kR174_0, kR174_1, kR174_2, kR174_3, kR174_4, kL175, kA175, kS175, kL176, kA176, kS176, kL177, kA177, kS177, kL178, kA178, kS178, kL179, kC180, kG180, kP180, kL181, kL182, kA182, kS182, kC183, kG183, kP183, kR183_1, kR183_3, kR183_5, kR183_6, kR183_7, kR183_8, kR183_9, kR183_21, kR183_26, kR183_27, kR183_30, kR183_31, kR183_33, kR183_34, kR183_36, kR183_37, kR183_38, kR183_39, kR183_40, kR183_41, kR183_42, kR183_43, kR183_44, kL184, kA184, kS184, kL185, kA185, kS185, kL186, kA186, kS186, kL187, kA187, kS187, kL188, kA188, kS188, kL189, kL190, kL191, kA191, kS191, kL192, kA192, kS192, kL193, kA193, kS193, kL194, kA194, kS194, kL195, kA195, kS195, kL196, kA196, kS196, kL197, kA197, kS197, kL198, kA198, kS198, kL199, kA199, kS199, kL200, kA200, kS200, kL201, kL202, kA202, kS202, kL203, kA203, kS203, kL204, kA204, kS204, kL205, kL206, kA206, kS206, sm, one0, l1]
        rfl
      · show f_X12_basin (xw σ (xI σ)) 183 x = _
        unfold f_X12_basin
        simp (disch := first | assumption | omega) only [Option.bind_some, Option.map_some, xw_gR, xw_gN, xw_al, xw_ck, xw_uI, xw_ur, xup_at, xur_at, if_true, if_false, reduceIte, and_true, true_and, and_false, false_and, not_true_eq_false, not_false_eq_true, Nat.reduceEqDiff, eq_self, Nat.reduceAdd, Nat.reduceMul, kC1, kG1, kP1, kR1_0, kR1_1, kR1_2, kR1_3, kR1_4, kR1_5, kR1_6, kR1_7, kR1_8, kR1_9, kR1_10, kR1_11, kR1_12, kR1_13, kC2, kG2, kP2, kR2_0, kR2_1, kC3, kG3, kP3, kR3_0, kR3_1, kR3_2, kR3_3, kL4, kA4, kS4, kL5, kA5, kS5, kL6, kA6, kS6, kL7, kA7, kS7, kC8, kG8, kP8, kR8_0, kR8_1, kL9, kA9, kS9, kL10, kA10, kS10, kC11, kG11, kP11, kR11_0, kR11_1, kR11_2, kR11_3, kL12, kA12, kS12, kL13, kA13, kS13, kL14, kA14, kS14, kL15, kA15, kS15, kC16, kG16, kP16, kR16_0, kR16_1, kL17, kA17, kS17, kL18, kA18, kS18, kC19, kG19, kP19, kR19_0, kL20, kL141, kL146, kA146, kS146, kL151, kA151, kS151, kL156, kA156, kS156, kC157, kG157, kP157, kR157_0, kR157_1, kL158, kA158, kS158, kL159, kA159, kS159, kC161, kG161, kP161, kR161_0, kR161_1, kL162, kA162, kS162, kL163, kA163, kS163, kC165, kG165, kP165, kR165_0, kR165_1, kR165_2, kR165_3, kL166, kA166, kS166, kL167, kA167, kS167, kL168, kA168, kS168, kL169, kA169, kS169, kC170, kG170, kP170, kR170_0, kR170_1, kR170_2, kL171, kA171, kS171, kL172, kA172, kS172, kL173, kA173, kS173, kC174, kG174, kP174, kR174_0, kR174_1, kR174_2, kR174_3, kR174_4, kL175, kA175, kS175, kL176, kA176, kS176, kL177, kA177, kS177, kL178, kA178, kS178, kL179, kC180, kG180, kP180, kL181, kL182, kA182, kS182, kC183, kG183, kP183, kR183_1, kR183_3, kR183_5, kR183_6, kR183_7, kR183_8, kR183_9, kR183_21, kR183_26, kR183_27, kR183_30, kR183_31, kR183_33, kR183_34, kR183_36, kR183_37, kR183_38, kR183_39, kR183_40, kR183_41, kR183_42, kR183_43, kR183_44, kL184, kA184, kS184, kL185, kA185, kS185, kL186, kA186, kS186, kL187, kA187, kS187, kL188, kA188, kS188, kL189, kL190, kL191, kA191, kS191, kL192, kA192, kS192, kL193, kA193, kS193, kL194, kA194, kS194, kL195, kA195, kS195, kL196, kA196, kS196, kL197, kA197, kS197, kL198, kA198, kS198, kL199, kA199, kS199, kL200, kA200, kS200, kL201, kL202, kA202, kS202, kL203, kA203, kS203, kL204, kA204, kS204, kL205, kL206, kA206, kS206, l2]
        rfl
  · rw [if_neg h10] at sm
    refine ⟨-100000, σ, σ, ?_, ?_, g, gT, gP, st, H.nop⟩
    · show f_X11_basin (xw σ (xI σ)) 1 x = _
      unfold f_X11_basin
      simp (disch := first | assumption | omega) only [Option.bind_some, Option.map_some, xw_gR, xw_gN, xw_al, xw_ck, xw_uI, xw_ur, xup_at, xur_at, if_true, if_false, reduceIte, and_true, true_and, and_false, false_and, not_true_eq_false, not_false_eq_true, Nat.reduceEqDiff, eq_self, Nat.reduceAdd, Nat.reduceMul, kC1, kG1, kP1, kR1_0, kR1_1, kR1_2, kR1_3, kR1_4, kR1_5, kR1_6, kR1_7, kR1_8, kR1_9, kR1_10, kR1_11, kR1_12, kR1_13, kC2, kG2, kP2, kR2_0, kR2_1, kC3, kG3, kP3, kR3_0, kR3_1, kR3_2, kR3_3, kL4, kA4, kS4, kL5, kA5, kS5, kL6, kA6, kS6, kL7, kA7, kS7, kC8, kG8, kP8, kR8_0, kR8_1, kL9, kA9, kS9, kL10, kA10, kS10, kC11, kG11, kP11, kR11_0, kR11_1, kR11_2, kR11_3, kL12, kA12, kS12, kL13, kA13, kS13, kL14, kA14, kS14, kL15, kA15, kS15, kC16, kG16, kP16, kR16_0, kR16_1, kL17, kA17, kS17, kL18, kA18, kS18, kC19, kG19, kP19, kR19_0, kL20, kL141, kL146, kA146, kS146, kL151, kA151, kS151, kL156, kA156, kS156, kC157, kG157, kP157, kR157_0, kR157_1, kL158, kA158, kS158, kL159, kA159, kS159, kC161, kG161, kP161, kR161_0, kR161_1, kL162, kA162, kS162, kL163, kA163, kS163, kC165, kG165, kP165, kR165_0, kR165_1, kR165_2, kR165_3, kL166, kA166, kS166, kL167, kA167, kS167, kL168, kA168, kS168, kL169, kA169, kS169, kC170, kG170, kP170, kR170_0, kR170_1, kR170_2, kL171, kA171, kS171, kL172, kA172, kS172, kL173, kA173, kS173, kC174, kG174, kP174, kR174_0, kR174_1, kR174_2, kR174_3, kR174_4, kL175, kA175, kS175, kL176, kA176, kS176, kL177, kA177, kS177, kL178, kA178, kS178, kL179, kC180, kG180, kP180, kL181, kL182, kA182, kS182, kC183, kG183, kP183, kR183_1, kR183_3, kR183_5, kR183_6, kR183_7, kR183_8, kR183_9, kR183_21, kR183_26, kR183_27, kR183_30, kR183_31, kR183_33, kR183_34, kR183_36, kR183_37, kR183_38, kR183_39, kR183_40, kR183_41, kR183_42, kR183_43, kR183_44, kL184, kA184, kS184, kL185, kA185, kS185, kL186, kA186, kS186, kL187, kA187, kS187, kL188, kA188, kS188, kL189, kL190, kL191, kA191, kS191, kL192, kA192, kS192, kL193, kA193, kS193, kL194, kA194, kS194, kL195, kA195, kS195, kL196, kA196, kS196, kL197, kA197, kS197, kL198, kA198, kS198, kL199, kA199, kS199, kL200, kA200, kS200, kL201, kL202, kA202, kS202, kL203, kA203, kS203, kL204, kA204, kS204, kL205, kL206, kA206, kS206, sm]
      rfl
    · show f_X12_basin (xw σ (xI σ)) 183 x = _
      unfold f_X12_basin
      have sm2 := small12 hS hG
      simp (disch := first | assumption | omega) only [Option.bind_some, Option.map_some, xw_gR, xw_gN, xw_al, xw_ck, xw_uI, xw_ur, xup_at, xur_at, if_true, if_false, reduceIte, and_true, true_and, and_false, false_and, not_true_eq_false, not_false_eq_true, Nat.reduceEqDiff, eq_self, Nat.reduceAdd, Nat.reduceMul, kC1, kG1, kP1, kR1_0, kR1_1, kR1_2, kR1_3, kR1_4, kR1_5, kR1_6, kR1_7, kR1_8, kR1_9, kR1_10, kR1_11, kR1_12, kR1_13, kC2, kG2, kP2, kR2_0, kR2_1, kC3, kG3, kP3, kR3_0, kR3_1, kR3_2, kR3_3, kL4, kA4, kS4, kL5, kA5, kS5, kL6, kA6, kS6, kL7, kA7, kS7, kC8, kG8, kP8, kR8_0, kR8_1, kL9, kA9, kS9, kL10, kA10, kS10, kC11, kG11, kP11, kR11_0, kR11_1, kR11_2, kR11_3, kL12, kA12, kS12, kL13, kA13, kS13, kL14, kA14, kS14, kL15, kA15, kS15, kC16, kG16, kP16, kR16_0, kR16_1, kL17, kA17, kS17, kL18, kA18, kS18, kC19, kG19, kP19, kR19_0, kL20, kL141, kL146, kA146, kS146, kL151, kA151, kS151, kL156, kA156, kS156, kC157, kG157, kP157, kR157_0, kR157_1, kL158, kA158, kS158, kL159, kA159, kS159, kC161, kG161, kP161, kR161_0, kR161_1, kL162, kA162, kS162, kL163, kA163, kS163, kC165, kG165, kP165, kR165_0, kR165_1, kR165_2, kR165_3, kL166, kA166, kS166, kL167, kA167, kS167, kL168, kA168, kS168, kL169, kA169, kS169, kC170, kG170, kP170, kR170_0, kR170_1, kR170_2, kL171, kA171, kS171, kL172, kA172, kS172, kL173, kA173, kS173, kC174, kG174, kP174, kR174_0, kR174_1, kR174_2, kR174_3, kR174_4, kL175, kA175, kS175, kL176, kA176, kS176, kL177, kA177, kS177, kL178, kA178, kS178, kL179, kC180, kG180, kP180, kL181, kL182, kA182, kS182, kC183, kG183, kP183, kR183_1, kR183_3, kR183_5, kR183_6, kR183_7, kR183_8, kR183_9, kR183_21, kR183_26, kR183_27, kR183_30, kR183_31, kR183_33, kR183_34, kR183_36, kR183_37, kR183_38, kR183_39, kR183_40, kR183_41, kR183_42, kR183_43, kR183_44, kL184, kA184, kS184, kL185, kA185, kS185, kL186, kA186, kS186, kL187, kA187, kS187, kL188, kA188, kS188, kL189, kL190, kL191, kA191, kS191, kL192, kA192, kS192, kL193, kA193, kS193, kL194, kA194, kS194, kL195, kA195, kS195, kL196, kA196, kS196, kL197, kA197, kS197, kL198, kA198, kS198, kL199, kA199, kS199, kL200, kA200, kS200, kL201, kL202, kA202, kS202, kL203, kA203, kS203, kL204, kA204, kS204, kL205, kL206, kA206, kS206, l2, s2, sm2, h10]
      by_cases hb : isB g (xI σ 191) x = true
      · rw [hb, if_pos rfl, if_neg (by decide)]; rfl
      · rw [if_neg hb, if_pos rfl]; rfl
end
section
/-! connected states; a forest of pointers -/
def cn (S : Nat → Nat → Prop) (s t : Nat) : Prop := ∀ P : Nat → Prop, P s → (∀ a b, P a → S a b → P b) → P t
section CONN
variable {S S' : Nat → Nat → Prop} {s t u : Nat}
theorem cn_r (S : Nat → Nat → Prop) (s : Nat) : cn S s s := fun _ h _ => h
theorem cn_s (h : cn S s t) (h2 : S t u) : cn S s u := fun P p q => q t u (h P p q) h2
theorem cn_t (h : cn S s t) (h2 : cn S t u) : cn S s u := fun P p q => h2 P (h P p q) q
theorem cn_y (hy : ∀ a b, S a b → S b a) (h : cn S s t) : cn S t s := h (fun x => cn S x s) (cn_r S s) (fun a b p q => cn_t (cn_s (cn_r S b) (hy a b q)) p)
theorem cn_m (hm : ∀ a b, S a b → S' a b) (h : cn S s t) : cn S' s t := fun P p q => h P p (fun a b pa sab => q a b pa (hm a b sab))
end CONN
def aj (g : GD) (F : Nat → Int32) (a b : Nat) : Prop := ∃ i, i < gSz g ∧ F (48 + i) = 0 ∧ b = a ^^^ 2 ^ i
theorem xor2 (a i : Nat) : a ^^^ 2 ^ i ^^^ 2 ^ i = a := by rw [Nat.xor_assoc, Nat.xor_self, Nat.xor_zero]
theorem aj_y {g : GD} {F : Nat → Int32} {a b : Nat} (h : aj g F a b) : aj g F b a := by
  obtain ⟨i, h1, h2, rfl⟩ := h
  exact ⟨i, h1, h2, (xor2 a i).symm⟩
def lwS (g : GD) (F : Nat → Int32) (a : Nat) : Prop := a < gSt g ∧ lW g F a = true
theorem cn_al {g : GD} {F : Nat → Int32} {t : Nat} (ht : lwS g F t) : ∀ j, j ≤ gSz g → ∀ s, lwS g F s → (∀ i, j ≤ i → s.testBit i = t.testBit i) → cn (fun a b => lwS g F a ∧ lwS g F b ∧ aj g F a b) s t := by
  intro j
  induction j with
  | zero =>
    intro _ s hs h
    have : s = t := Nat.eq_of_testBit_eq (fun i => h i (Nat.zero_le _))
    rw [this]; exact cn_r _ _
  | succ j ih =>
    intro hj s hs h
    by_cases hb : s.testBit j = t.testBit j
    · refine ih (by omega) s hs (fun i hi => ?_)
      by_cases z : i = j
      · rw [z]; exact hb
      · exact h i (by omega)
    · have hp : F (48 + j) = 0 := by
        apply Classical.byContradiction
        intro hne
        exact hb ((lW_iff.mp hs.2 j (by omega) hne).trans (lW_iff.mp ht.2 j (by omega) hne).symm)
      have hs' := gSt_flip hs.1 (show j < gSz g by omega)
      have hl' : lW g F (s ^^^ 2 ^ j) = true := by rw [lW_flip (by omega) hs.2]; exact decide_eq_true hp
      refine cn_t (cn_s (cn_r _ _) ⟨hs, ⟨hs', hl'⟩, j, by omega, hp, rfl⟩) (ih (by omega) _ ⟨hs', hl'⟩ (fun i hi => ?_))
      rw [fb_bit_flip]
      by_cases z : i = j
      · subst z
        cases h1 : s.testBit i <;> cases h2 : t.testBit i <;> simp_all
      · simp [z]; exact h i (by omega)
theorem cn_all {g : GD} {F : Nat → Int32} {s t : Nat} (hs : lwS g F s) (ht : lwS g F t) : cn (fun a b => lwS g F a ∧ lwS g F b ∧ aj g F a b) s t := by
  refine cn_al ht (gSz g) (Nat.le_refl _) s hs (fun i hi => ?_)
  have e : ∀ x, x < 2 ^ gSz g → x.testBit i = false := fun x hx => Nat.testBit_lt_two_pow (Nat.lt_of_lt_of_le hx (Nat.pow_le_pow_right (by decide) hi))
  rw [e s (gSt_pos hs.1).2, e t (gSt_pos ht.1).2]
/-- pointers that lead to roots -/
def UF (w : Nat → Bool) (T r ρ : Nat → Nat) (R : Nat) : Prop := ∀ x, w x = true → x < 1024 ∧ w (T x) = true ∧ r (T x) = r x ∧ (T x = x ∨ ρ x < ρ (T x)) ∧ (T x = x → r x = x) ∧ ρ x ≤ R ∧ w (r x) = true ∧ T (r x) = r x
def rc (w : Nat → Bool) (r : Nat → Nat) : Nat := fb_ct (fun x => w x && decide (r x = x)) 1024
def TW (J : Nat → Nat → Int32) (w : Nat → Bool) (T : Nat → Nat) : Prop := ∀ x, x < 1024 → J 177 x = if w x then nI (T x) else -1
def UFH (J : Nat → Nat → Int32) (w : Nat → Bool) (r : Nat → Nat) (N : Nat) : Prop := ∃ T ρ R, TW J w T ∧ UF w T r ρ R ∧ R + rc w r = N ∧ J 174 9 = nI (rc w r)
theorem UF_half {w : Nat → Bool} {T r ρ : Nat → Nat} {R y : Nat} (h : UF w T r ρ R) (hy : w y = true) (hne : T y ≠ y) : UF w (fun z => if z = y then T (T y) else T z) r ρ R ∧ ρ y < ρ (T (T y)) := by
  obtain ⟨y1, y2, y3, y4, y5, y6, y7, y8⟩ := h y hy
  obtain ⟨t1, t2, t3, t4, t5, t6, t7, t8⟩ := h (T y) y2
  have hlt : ρ y < ρ (T (T y)) := by
    rcases y4 with z | z
    · exact absurd z hne
    · rcases t4 with q | q
      · rw [q]; exact z
      · omega
  refine ⟨fun x hw => ?_, hlt⟩
  obtain ⟨x1, x2, x3, x4, x5, x6, x7, x8⟩ := h x hw
  have hr : ¬ (r x = y) := fun z => hne (by rw [z] at x8; exact x8)
  have e8 : (if r x = y then T (T y) else T (r x)) = r x := by rw [if_neg hr]; exact x8
  by_cases hxy : x = y
  · subst hxy
    have e : (if x = x then T (T x) else T x) = T (T x) := if_pos rfl
    show x < 1024 ∧ w (if x = x then T (T x) else T x) = true ∧ r (if x = x then T (T x) else T x) = r x ∧ ((if x = x then T (T x) else T x) = x ∨ ρ x < ρ (if x = x then T (T x) else T x)) ∧ ((if x = x then T (T x) else T x) = x → r x = x) ∧ ρ x ≤ R ∧ w (r x) = true ∧ (if r x = x then T (T x) else T (r x)) = r x
    rw [e]
    refine ⟨x1, t2, t3.trans y3, .inr hlt, fun z => ?_, x6, x7, e8⟩
    rw [z] at hlt; exact absurd hlt (Nat.lt_irrefl _)
  · have e : (if x = y then T (T y) else T x) = T x := if_neg hxy
    show x < 1024 ∧ w (if x = y then T (T y) else T x) = true ∧ r (if x = y then T (T y) else T x) = r x ∧ ((if x = y then T (T y) else T x) = x ∨ ρ x < ρ (if x = y then T (T y) else T x)) ∧ ((if x = y then T (T y) else T x) = x → r x = x) ∧ ρ x ≤ R ∧ w (r x) = true ∧ (if r x = y then T (T y) else T (r x)) = r x
    rw [e]
    exact ⟨x1, x2, x3, x4, x5, x6, x7, e8⟩
theorem rc_pos {w : Nat → Bool} {T r ρ : Nat → Nat} {R x : Nat} (h : UF w T r ρ R) (hw : w x = true) : 0 < rc w r := by
  obtain ⟨x1, x2, x3, x4, x5, x6, x7, x8⟩ := h x hw
  obtain ⟨q1, q2, q3, q4, q5, -⟩ := h _ x7
  refine fb_ct_pos.mpr ⟨r x, q1, ?_⟩
  rw [x7, q5 x8]; simp
theorem rc_joinN {w : Nat → Bool} {T r ρ : Nat → Nat} {R a b n : Nat} (h : UF w T r ρ R) (ha : w a = true) (hb : w b = true) (hab : r a ≠ r b) (hn : r a < n) : fb_ct (fun x => w x && decide ((if r x = r a then r b else r x) = x)) n + 1 = fb_ct (fun x => w x && decide (r x = x)) n := by
  obtain ⟨a1, a2, a3, a4, a5, a6, a7, a8⟩ := h a ha
  obtain ⟨b1, b2, b3, b4, b5, b6, b7, b8⟩ := h b hb
  obtain ⟨p1, p2, p3, p4, p5, p6, p7, p8⟩ := h _ a7
  obtain ⟨q1, q2, q3, q4, q5, q6, q7, q8⟩ := h _ b7
  have up : fb_ct (fun k => if k = r a then false else (w k && decide (r k = k))) n + (if (w (r a) && decide (r (r a) = r a)) = true then 1 else 0) = fb_ct (fun x => w x && decide (r x = x)) n + (if false = true then 1 else 0) := fb_ct_upd (fun x => w x && decide (r x = x)) false hn
  have cg : fb_ct (fun x => w x && decide ((if r x = r a then r b else r x) = x)) n = fb_ct (fun k => if k = r a then false else (w k && decide (r k = k))) n := fb_ct_cong (fun k hk => by
    cases hw : w k with
    | false => simp
    | true =>
      rw [Bool.true_and, Bool.true_and]
      by_cases z : k = r a
      · rw [if_pos z, z, if_pos (p5 a8)]
        exact decide_eq_false (fun y => hab y.symm)
      · rw [if_neg z]
        by_cases y : r k = r a
        · rw [if_pos y, decide_eq_false (show ¬ r k = k from fun v => z (v.symm.trans y))]
          refine decide_eq_false (fun v => hab ?_)
          rw [← v, q5 b8] at y
          exact y.symm
        · rw [if_neg y])
  rw [a7, decide_eq_true (p5 a8), if_neg (show ¬ (false = true) by decide), if_pos (show (true && true) = true by decide), Nat.add_zero] at up
  rw [cg]
  exact up
theorem rc_join {w : Nat → Bool} {T r ρ : Nat → Nat} {R a b : Nat} (h : UF w T r ρ R) (ha : w a = true) (hb : w b = true) (hab : r a ≠ r b) : rc w (fun x => if r x = r a then r b else r x) + 1 = rc w r := rc_joinN h ha hb hab (h _ (h a ha).2.2.2.2.2.2.1).1
theorem UF_join {w : Nat → Bool} {T r ρ : Nat → Nat} {R a b : Nat} (h : UF w T r ρ R) (ha : w a = true) (hb : w b = true) (hab : r a ≠ r b) : UF w (fun z => if z = r a then r b else T z) (fun x => if r x = r a then r b else r x) (fun z => if z = r b then max (ρ (r a)) (ρ (r b)) + 1 else ρ z) (R + 1) := by
  obtain ⟨a1, a2, a3, a4, a5, a6, a7, a8⟩ := h a ha
  obtain ⟨b1, b2, b3, b4, b5, b6, b7, b8⟩ := h b hb
  obtain ⟨p1, p2, p3, p4, p5, p6, p7, p8⟩ := h _ a7
  obtain ⟨q1, q2, q3, q4, q5, q6, q7, q8⟩ := h _ b7
  have hba : ¬ r b = r a := fun z => hab z.symm
  intro x hw
  obtain ⟨x1, x2, x3, x4, x5, x6, x7, x8⟩ := h x hw
  have last : w (if r x = r a then r b else r x) = true ∧ (if (if r x = r a then r b else r x) = r a then r b else T (if r x = r a then r b else r x)) = (if r x = r a then r b else r x) := by
    by_cases y : r x = r a
    · rw [if_pos y, if_neg hba]; exact ⟨b7, b8⟩
    · rw [if_neg y, if_neg y]; exact ⟨x7, x8⟩
  have rk : (if x = r b then max (ρ (r a)) (ρ (r b)) + 1 else ρ x) ≤ R + 1 := by
    split <;> omega
  by_cases z : x = r a
  · have e : (if x = r a then r b else T x) = r b := if_pos z
    have e2 : (if r x = r a then r b else r x) = r b := by rw [z, p5 a8, if_pos rfl]
    have e3 : (if r (r b) = r a then r b else r (r b)) = r b := by rw [q5 b8, if_neg hba]
    have e4 : (if x = r b then max (ρ (r a)) (ρ (r b)) + 1 else ρ x) = ρ (r a) := by rw [z, if_neg hab]
    have e5 : (if r b = r b then max (ρ (r a)) (ρ (r b)) + 1 else ρ (r b)) = max (ρ (r a)) (ρ (r b)) + 1 := if_pos rfl
    refine ⟨x1, ?_, ?_, .inr ?_, fun y => ?_, rk, last⟩
    · show w (if x = r a then r b else T x) = true
      rw [e]; exact b7
    · show (if r (if x = r a then r b else T x) = r a then r b else r (if x = r a then r b else T x)) = (if r x = r a then r b else r x)
      rw [e, e2, e3]
    · show (if x = r b then max (ρ (r a)) (ρ (r b)) + 1 else ρ x) < (if (if x = r a then r b else T x) = r b then max (ρ (r a)) (ρ (r b)) + 1 else ρ (if x = r a then r b else T x))
      rw [e, e4, e5]; omega
    · have y' : (if x = r a then r b else T x) = x := y
      rw [e, z] at y'
      exact absurd y' hba
  · have e : (if x = r a then r b else T x) = T x := if_neg z
    refine ⟨x1, ?_, ?_, ?_, fun y => ?_, rk, last⟩
    · show w (if x = r a then r b else T x) = true
      rw [e]; exact x2
    · show (if r (if x = r a then r b else T x) = r a then r b else r (if x = r a then r b else T x)) = (if r x = r a then r b else r x)
      rw [e, x3]
    · show (if x = r a then r b else T x) = x ∨ (if x = r b then max (ρ (r a)) (ρ (r b)) + 1 else ρ x) < (if (if x = r a then r b else T x) = r b then max (ρ (r a)) (ρ (r b)) + 1 else ρ (if x = r a then r b else T x))
      rw [e]
      rcases x4 with v | v
      · exact .inl v
      · right
        have nb : ¬ x = r b := fun y => by
          rw [y, b8] at v
          exact absurd v (Nat.lt_irrefl _)
        rw [if_neg nb]
        split
        · next y => rw [y] at v; omega
        · exact v
    · have y' : (if x = r a then r b else T x) = x := y
      rw [e] at y'
      have v := x5 y'
      show (if r x = r a then r b else r x) = x
      rw [if_neg (fun q => z (v.symm.trans q))]; exact v
section FOREST
variable {σ : XS} {J : Nat → Nat → Int32} {w : Nat → Bool} {r : Nat → Nat} {N : Nat}
theorem wet_ok (hS : Shp σ) {T : Nat → Nat} (hJ : TW J w T) (hT : ∀ x, w x = true → T x < 1024) {x : Nat} (h1 : x < 1024) : f_X9_isWet (xw σ J) 174 (nI x) = some (if w x then 1 else 0) := by
  unfold f_X9_isWet
  have hv := hJ x h1
  cases hw : w x with
  | false =>
    rw [hw, if_neg (by decide)] at hv
    simp (disch := first | assumption | omega) only [Option.bind_some, Option.map_some, xw_gR, xw_gN, xw_al, xw_ck, xw_uI, xw_ur, xup_at, xur_at, if_true, if_false, reduceIte, and_true, true_and, and_false, false_and, not_true_eq_false, not_false_eq_true, Nat.reduceEqDiff, eq_self, Nat.reduceAdd, Nat.reduceMul, kC1, kG1, kP1, kR1_0, kR1_1, kR1_2, kR1_3, kR1_4, kR1_5, kR1_6, kR1_7, kR1_8, kR1_9, kR1_10, kR1_11, kR1_12, kR1_13, kC2, kG2, kP2, kR2_0, kR2_1, kC3, kG3, kP3, kR3_0, kR3_1, kR3_2, kR3_3, kL4, kA4, kS4, kL5, kA5, kS5, kL6, kA6, kS6, kL7, kA7, kS7, kC8, kG8, kP8, kR8_0, kR8_1, kL9, kA9, kS9, kL10, kA10, kS10, kC11, kG11, kP11, kR11_0, kR11_1, kR11_2, kR11_3, kL12, kA12, kS12, kL13, kA13, kS13, kL14, kA14, kS14, kL15, kA15, kS15, kC16, kG16, kP16, kR16_0, kR16_1, kL17, kA17, kS17, kL18, kA18, kS18, kC19, kG19, kP19, kR19_0, kL20, kL141, kL146, kA146, kS146, kL151, kA151, kS151, kL156, kA156, kS156, kC157, kG157, kP157, kR157_0, kR157_1, kL158, kA158, kS158, kL159, kA159, kS159, kC161, kG161, kP161, kR161_0, kR161_1, kL162, kA162, kS162, kL163, kA163, kS163, kC165, kG165, kP165, kR165_0, kR165_1, kR165_2, kR165_3, kL166, kA166, kS166, kL167, kA167, kS167, kL168, kA168, kS168, kL169, kA169, kS169, kC170, kG170, kP170, kR170_0, kR170_1, kR170_2, kL171, kA171, kS171, kL172, kA172, kS172, kL173, kA173, kS173, kC174, kG174, kP174, kR174_0, kR174_1, kR174_2, kR174_3, kR174_4, kL175, kA175, kS175, kL176, kA176, kS176, kL177, kA177, kS177, kL178, kA178, kS178, kL179, kC180, kG180, kP180, kL181, kL182, kA182, kS182, kC183, kG183, kP183, kR183_1, kR183_3, kR183_5, kR183_6, kR183_7, kR183_8, kR183_9, kR183_21, kR183_26, kR183_27, kR183_30, kR183_31, kR183_33, kR183_34, kR183_36, kR183_37, kR183_38, kR183_39, kR183_40, kR183_41, kR183_42, kR183_43, kR183_44, kL184, kA184, kS184, kL185, kA185, kS185, kL186, kA186, kS186, kL187, kA187, kS187, kL188, kA188, kS188, kL189, kL190, kL191, kA191, kS191, kL192, kA192, kS192, kL193, kA193, kS193, kL194, kA194, kS194, kL195, kA195, kS195, kL196, kA196, kS196, kL197, kA197, kS197, kL198, kA198, kS198, kL199, kA199, kS199, kL200, kA200, kS200, kL201, kL202, kA202, kS202, kL203, kA203, kS203, kL204, kA204, kS204, kL205, kL206, kA206, kS206, isSt_ok, one0, hv]
    rfl
  | true =>
    rw [hw, if_pos rfl] at hv
    have := hT x hw
    have q : (nI (T x) = -1) = False := nn_m1 (by omega)
    simp (disch := first | assumption | omega) only [Option.bind_some, Option.map_some, xw_gR, xw_gN, xw_al, xw_ck, xw_uI, xw_ur, xup_at, xur_at, if_true, if_false, reduceIte, and_true, true_and, and_false, false_and, not_true_eq_false, not_false_eq_true, Nat.reduceEqDiff, eq_self, Nat.reduceAdd, Nat.reduceMul, kC1, kG1, kP1, kR1_0, kR1_1, kR1_2, kR1_3, kR1_4, kR1_5, kR1_6, kR1_7, kR1_8, kR1_9, kR1_10, kR1_11, kR1_12, kR1_13, kC2, kG2, kP2, kR2_0, kR2_1, kC3, kG3, kP3, kR3_0, kR3_1, kR3_2, kR3_3, kL4, kA4, kS4, kL5, kA5, kS5, kL6, kA6, kS6, kL7, kA7, kS7, kC8, kG8, kP8, kR8_0, kR8_1, kL9, kA9, kS9, kL10, kA10, kS10, kC11, kG11, kP11, kR11_0, kR11_1, kR11_2, kR11_3, kL12, kA12, kS12, kL13, kA13, kS13, kL14, kA14, kS14, kL15, kA15, kS15, kC16, kG16, kP16, kR16_0, kR16_1, kL17, kA17, kS17, kL18, kA18, kS18, kC19, kG19, kP19, kR19_0, kL20, kL141, kL146, kA146, kS146, kL151, kA151, kS151, kL156, kA156, kS156, kC157, kG157, kP157, kR157_0, kR157_1, kL158, kA158, kS158, kL159, kA159, kS159, kC161, kG161, kP161, kR161_0, kR161_1, kL162, kA162, kS162, kL163, kA163, kS163, kC165, kG165, kP165, kR165_0, kR165_1, kR165_2, kR165_3, kL166, kA166, kS166, kL167, kA167, kS167, kL168, kA168, kS168, kL169, kA169, kS169, kC170, kG170, kP170, kR170_0, kR170_1, kR170_2, kL171, kA171, kS171, kL172, kA172, kS172, kL173, kA173, kS173, kC174, kG174, kP174, kR174_0, kR174_1, kR174_2, kR174_3, kR174_4, kL175, kA175, kS175, kL176, kA176, kS176, kL177, kA177, kS177, kL178, kA178, kS178, kL179, kC180, kG180, kP180, kL181, kL182, kA182, kS182, kC183, kG183, kP183, kR183_1, kR183_3, kR183_5, kR183_6, kR183_7, kR183_8, kR183_9, kR183_21, kR183_26, kR183_27, kR183_30, kR183_31, kR183_33, kR183_34, kR183_36, kR183_37, kR183_38, kR183_39, kR183_40, kR183_41, kR183_42, kR183_43, kR183_44, kL184, kA184, kS184, kL185, kA185, kS185, kL186, kA186, kS186, kL187, kA187, kS187, kL188, kA188, kS188, kL189, kL190, kL191, kA191, kS191, kL192, kA192, kS192, kL193, kA193, kS193, kL194, kA194, kS194, kL195, kA195, kS195, kL196, kA196, kS196, kL197, kA197, kS197, kL198, kA198, kS198, kL199, kA199, kS199, kL200, kA200, kS200, kL201, kL202, kA202, kS202, kL203, kA203, kS203, kL204, kA204, kS204, kL205, kL206, kA206, kS206, isSt_ok, one0, hv, q]
theorem UFH.wet (hS : Shp σ) (h : UFH J w r N) {x : Nat} (h1 : x < 1024) : f_X9_isWet (xw σ J) 174 (nI x) = some (if w x then 1 else 0) := by
  obtain ⟨T, ρ, R, hJ, hU, hR, h9⟩ := h
  exact wet_ok hS hJ (fun x hw => (hU _ (hU x hw).2.1).1) h1
theorem rootOf_ok (hS : Shp σ) (hN : N ≤ 1024) (h : UFH J w r N) {x : Nat} (hw : w x = true) : ∃ J', f_X9_rootOf (xw σ J) 174 (nI x) = some (nI (r x), xw σ J') ∧ UFH J' w r N ∧ ∀ a k, a ≠ 177 → J' a k = J a k := by
  obtain ⟨T0, ρ, R, hJ0, hU0, hR, h9⟩ := h
  have hpos := rc_pos hU0 hw
  unfold f_X9_rootOf
  have key := xloop_run (f := f_X9_rootOf_b4 174) (fun k a => ∃ (y n : Nat) (J' : Nat → Nat → Int32) (T : Nat → Nat), a = (nI y, nI n, xw σ J') ∧ k = R - ρ y ∧ w y = true ∧ r y = r x ∧ n ≤ ρ y ∧ TW J' w T ∧ UF w T r ρ R ∧ ∀ a k, a ≠ 177 → J' a k = J a k) (fun b => ∃ J', b = (nI (r x), xw σ J') ∧ UFH J' w r N ∧ ∀ a k, a ≠ 177 → J' a k = J a k) ?_ (R - ρ x) (nI x, (0 : Int32), xw σ J) ⟨x, 0, J, T0, rfl, rfl, hw, rfl, Nat.zero_le _, hJ0, hU0, fun _ _ _ => rfl⟩
  · obtain ⟨b, e, J', rfl, h1, h2⟩ := key
    exact ⟨J', e, h1, h2⟩
  · rintro k a ⟨y, n, J', T, rfl, rfl, wy, ry, hn, hJ, hU, u⟩
    obtain ⟨y1, y2, y3, y4, y5, y6, y7, y8⟩ := hU y wy
    obtain ⟨t1, t2, -⟩ := hU (T y) y2
    obtain ⟨z1, z2, z3, z4, z5, z6, -⟩ := hU (T (T y)) t2
    have hT : ∀ x, w x = true → T x < 1024 := fun x hw => (hU _ (hU x hw).2.1).1
    have w1 := wet_ok (σ := σ) hS hJ hT y1
    have w2 := wet_ok (σ := σ) hS hJ hT t1
    rw [wy, if_pos rfl] at w1
    rw [y2, if_pos rfl] at w2
    have v1 := hJ y y1
    rw [wy, if_pos rfl] at v1
    have v2 := hJ (T y) t1
    rw [y2, if_pos rfl] at v2
    have q0 : ((1024 : Int32) ≤ nI n) = False := by rw [show (1024 : Int32) = nI 1024 from rfl, nn_le (by omega) (by omega)]; exact eq_false (by omega)
    have q1 : (nI (T y) = nI y) = (T y = y) := nn_eq (by omega) (by omega)
    by_cases hy : T y = y
    · left
      refine ⟨_, ?_, J', rfl, ⟨T, ρ, R, hJ, hU, hR, by rw [u _ _ (by omega)]; exact h9⟩, u⟩
      simp only [f_X9_rootOf_b4]
      rw [hy] at v1 
      simp (disch := first | assumption | omega) only [Option.bind_some, Option.map_some, xw_gR, xw_gN, xw_al, xw_ck, xw_uI, xw_ur, xup_at, xur_at, if_true, if_false, reduceIte, and_true, true_and, and_false, false_and, not_true_eq_false, not_false_eq_true, Nat.reduceEqDiff, eq_self, Nat.reduceAdd, Nat.reduceMul, kC1, kG1, kP1, kR1_0, kR1_1, kR1_2, kR1_3, kR1_4, kR1_5, kR1_6, kR1_7, kR1_8, kR1_9, kR1_10, kR1_11, kR1_12, kR1_13, kC2, kG2, kP2, kR2_0, kR2_1, kC3, kG3, kP3, kR3_0, kR3_1, kR3_2, kR3_3, kL4, kA4, kS4, kL5, kA5, kS5, kL6, kA6, kS6, kL7, kA7, kS7, kC8, kG8, kP8, kR8_0, kR8_1, kL9, kA9, kS9, kL10, kA10, kS10, kC11, kG11, kP11, kR11_0, kR11_1, kR11_2, kR11_3, kL12, kA12, kS12, kL13, kA13, kS13, kL14, kA14, kS14, kL15, kA15, kS15, kC16, kG16, kP16, kR16_0, kR16_1, kL17, kA17, kS17, kL18, kA18, kS18, kC19, kG19, kP19, kR19_0, kL20, kL141, kL146, kA146, kS146, kL151, kA151, kS151, kL156, kA156, kS156, kC157, kG157, kP157, kR157_0, kR157_1, kL158, kA158, kS158, kL159, kA159, kS159, kC161, kG161, kP161, kR161_0, kR161_1, kL162, kA162, kS162, kL163, kA163, kS163, kC165, kG165, kP165, kR165_0, kR165_1, kR165_2, kR165_3, kL166, kA166, kS166, kL167, kA167, kS167, kL168, kA168, kS168, kL169, kA169, kS169, kC170, kG170, kP170, kR170_0, kR170_1, kR170_2, kL171, kA171, kS171, kL172, kA172, kS172, kL173, kA173, kS173, kC174, kG174, kP174, kR174_0, kR174_1, kR174_2, kR174_3, kR174_4, kL175, kA175, kS175, kL176, kA176, kS176, kL177, kA177, kS177, kL178, kA178, kS178, kL179, kC180, kG180, kP180, kL181, kL182, kA182, kS182, kC183, kG183, kP183, kR183_1, kR183_3, kR183_5, kR183_6, kR183_7, kR183_8, kR183_9, kR183_21, kR183_26, kR183_27, kR183_30, kR183_31, kR183_33, kR183_34, kR183_36, kR183_37, kR183_38, kR183_39, kR183_40, kR183_41, kR183_42, kR183_43, kR183_44, kL184, kA184, kS184, kL185, kA185, kS185, kL186, kA186, kS186, kL187, kA187, kS187, kL188, kA188, kS188, kL189, kL190, kL191, kA191, kS191, kL192, kA192, kS192, kL193, kA193, kS193, kL194, kA194, kS194, kL195, kA195, kS195, kL196, kA196, kS196, kL197, kA197, kS197, kL198, kA198, kS198, kL199, kA199, kS199, kL200, kA200, kS200, kL201, kL202, kA202, kS202, kL203, kA203, kS203, kL204, kA204, kS204, kL205, kL206, kA206, kS206, q0, w1, one0, v1]
      rw [← ry, y5 hy]
    · right
      obtain ⟨g1, g2⟩ := UF_half hU wy hy
      refine ⟨R - ρ (T (T y)), (nI (T (T y)), nI (n + 1), xw σ (xup J' 177 y (nI (T (T y))))), by omega, ?_, T (T y), n + 1, _, _, rfl, rfl, t2, ?_, by omega, ?_, g1, fun a k ha => by rw [xup_at, if_neg (by omega)]; exact u a k ha⟩
      · simp only [f_X9_rootOf_b4]
        simp (disch := first | assumption | omega) only [Option.bind_some, Option.map_some, xw_gR, xw_gN, xw_al, xw_ck, xw_uI, xw_ur, xup_at, xur_at, if_true, if_false, reduceIte, and_true, true_and, and_false, false_and, not_true_eq_false, not_false_eq_true, Nat.reduceEqDiff, eq_self, Nat.reduceAdd, Nat.reduceMul, kC1, kG1, kP1, kR1_0, kR1_1, kR1_2, kR1_3, kR1_4, kR1_5, kR1_6, kR1_7, kR1_8, kR1_9, kR1_10, kR1_11, kR1_12, kR1_13, kC2, kG2, kP2, kR2_0, kR2_1, kC3, kG3, kP3, kR3_0, kR3_1, kR3_2, kR3_3, kL4, kA4, kS4, kL5, kA5, kS5, kL6, kA6, kS6, kL7, kA7, kS7, kC8, kG8, kP8, kR8_0, kR8_1, kL9, kA9, kS9, kL10, kA10, kS10, kC11, kG11, kP11, kR11_0, kR11_1, kR11_2, kR11_3, kL12, kA12, kS12, kL13, kA13, kS13, kL14, kA14, kS14, kL15, kA15, kS15, kC16, kG16, kP16, kR16_0, kR16_1, kL17, kA17, kS17, kL18, kA18, kS18, kC19, kG19, kP19, kR19_0, kL20, kL141, kL146, kA146, kS146, kL151, kA151, kS151, kL156, kA156, kS156, kC157, kG157, kP157, kR157_0, kR157_1, kL158, kA158, kS158, kL159, kA159, kS159, kC161, kG161, kP161, kR161_0, kR161_1, kL162, kA162, kS162, kL163, kA163, kS163, kC165, kG165, kP165, kR165_0, kR165_1, kR165_2, kR165_3, kL166, kA166, kS166, kL167, kA167, kS167, kL168, kA168, kS168, kL169, kA169, kS169, kC170, kG170, kP170, kR170_0, kR170_1, kR170_2, kL171, kA171, kS171, kL172, kA172, kS172, kL173, kA173, kS173, kC174, kG174, kP174, kR174_0, kR174_1, kR174_2, kR174_3, kR174_4, kL175, kA175, kS175, kL176, kA176, kS176, kL177, kA177, kS177, kL178, kA178, kS178, kL179, kC180, kG180, kP180, kL181, kL182, kA182, kS182, kC183, kG183, kP183, kR183_1, kR183_3, kR183_5, kR183_6, kR183_7, kR183_8, kR183_9, kR183_21, kR183_26, kR183_27, kR183_30, kR183_31, kR183_33, kR183_34, kR183_36, kR183_37, kR183_38, kR183_39, kR183_40, kR183_41, kR183_42, kR183_43, kR183_44, kL184, kA184, kS184, kL185, kA185, kS185, kL186, kA186, kS186, kL187, kA187, kS187, kL188, kA188, kS188, kL189, kL190, kL191, kA191, kS191, kL192, kA192, kS192, kL193, kA193, kS193, kL194, kA194, kS194, kL195, kA195, kS195, kL196, kA196, kS196, kL197, kA197, kS197, kL198, kA198, kS198, kL199, kA199, kS199, kL200, kA200, kS200, kL201, kL202, kA202, kS202, kL203, kA203, kS203, kL204, kA204, kS204, kL205, kL206, kA206, kS206, q0, w1, one0, v1, w2, q1, hy, v2]
        rw [nI_succ]
      · rw [(hU (T y) y2).2.2.1, y3]; exact ry
      · intro x h1
        rw [xup_at]
        by_cases z : x = y
        · rw [if_pos ⟨rfl, z⟩, z, wy, if_pos rfl]
          show nI (T (T y)) = nI (if y = y then T (T y) else T y)
          rw [if_pos rfl]
        · rw [if_neg (by omega), hJ x h1]
          show _ = if w x = true then nI (if x = y then T (T y) else T x) else -1
          rw [if_neg z]
theorem join_ok (hS : Shp σ) (hN : N ≤ 1024) (h : UFH J w r N) {a b : Nat} (ha : w a = true) (hb : w b = true) : ∃ J', f_X9_join (xw σ J) 174 (nI a) (nI b) = some (xw σ J') ∧ UFH J' w (fun x => if r x = r a then r b else r x) N ∧ (∀ c k, c ≠ 177 → ¬ (c = 174 ∧ k = 9) → J' c k = J c k) := by
  obtain ⟨J1, e1, h1, u1⟩ := rootOf_ok hS hN h ha
  obtain ⟨J2, e2, h2, u2⟩ := rootOf_ok hS hN h1 hb
  have h2' := h2
  obtain ⟨T, ρ, R, hJ, hU, hR, h9⟩ := h2'
  obtain ⟨a1, a2, a3, a4, a5, a6, a7, a8⟩ := hU a ha
  obtain ⟨b1, b2, b3, b4, b5, b6, b7, b8⟩ := hU b hb
  obtain ⟨p1, p2, p3, p4, p5, p6, p7, p8⟩ := hU _ a7
  obtain ⟨q1, q2, q3, q4, q5, q6, q7, q8⟩ := hU _ b7
  have qe : (nI (r a) = nI (r b)) = (r a = r b) := nn_eq (by omega) (by omega)
  have fr : ∀ c k, c ≠ 177 → J2 c k = J c k := fun c k hc => by rw [u2 c k hc, u1 c k hc]
  by_cases hab : r a = r b
  · have er : (fun x => if r x = r a then r b else r x) = r := by
      funext x
      by_cases z : r x = r a
      · rw [if_pos z, z, hab]
      · rw [if_neg z]
    rw [er]
    refine ⟨J2, ?_, h2, fun c k h1 h2 => fr c k h1⟩
    unfold f_X9_join
    rw [xw_ck, kC174 hS, Option.bind_some, e1, Option.bind_some]
    dsimp only
    rw [xw_ck, kC174 hS, Option.bind_some, e2, Option.bind_some]
    dsimp only
    rw [if_pos (by rw [hab])]
  · have hrc := rc_join hU ha hb hab
    have hpos := rc_pos hU ha
    have es : nI (rc w r) - (1 : Int32) = nI (rc w (fun x => if r x = r a then r b else r x)) := by
      rw [show (1 : Int32) = nI 1 from rfl, nn_sub (by omega), ← hrc, Nat.add_sub_cancel]
    refine ⟨xup (xup J2 177 (r a) (nI (r b))) 174 9 (nI (rc w (fun x => if r x = r a then r b else r x))), ?_, ⟨_, _, R + 1, ?_, UF_join hU ha hb hab, by omega, ?_⟩, fun c k h1 h2 => ?_⟩
    · unfold f_X9_join
      rw [xw_ck, kC174 hS, Option.bind_some, e1, Option.bind_some]
      dsimp only
      rw [xw_ck, kC174 hS, Option.bind_some, e2, Option.bind_some]
      dsimp only
      rw [if_neg (by rw [qe]; exact hab), isSt_ok p1, Option.bind_some, if_neg (by decide)]
      simp (disch := first | assumption | omega) only [Option.bind_some, Option.map_some, xw_gR, xw_gN, xw_al, xw_ck, xw_uI, xw_ur, xup_at, xur_at, if_true, if_false, reduceIte, and_true, true_and, and_false, false_and, not_true_eq_false, not_false_eq_true, Nat.reduceEqDiff, eq_self, Nat.reduceAdd, Nat.reduceMul, kC1, kG1, kP1, kR1_0, kR1_1, kR1_2, kR1_3, kR1_4, kR1_5, kR1_6, kR1_7, kR1_8, kR1_9, kR1_10, kR1_11, kR1_12, kR1_13, kC2, kG2, kP2, kR2_0, kR2_1, kC3, kG3, kP3, kR3_0, kR3_1, kR3_2, kR3_3, kL4, kA4, kS4, kL5, kA5, kS5, kL6, kA6, kS6, kL7, kA7, kS7, kC8, kG8, kP8, kR8_0, kR8_1, kL9, kA9, kS9, kL10, kA10, kS10, kC11, kG11, kP11, kR11_0, kR11_1, kR11_2, kR11_3, kL12, kA12, kS12, kL13, kA13, kS13, kL14, kA14, kS14, kL15, kA15, kS15, kC16, kG16, kP16, kR16_0, kR16_1, kL17, kA17, kS17, kL18, kA18, kS18, kC19, kG19, kP19, kR19_0, kL20, kL141, kL146, kA146, kS146, kL151, kA151, kS151, kL156, kA156, kS156, kC157, kG157, kP157, kR157_0, kR157_1, kL158, kA158, kS158, kL159, kA159, kS159, kC161, kG161, kP161, kR161_0, kR161_1, kL162, kA162, kS162, kL163, kA163, kS163, kC165, kG165, kP165, kR165_0, kR165_1, kR165_2, kR165_3, kL166, kA166, kS166, kL167, kA167, kS167, kL168, kA168, kS168, kL169, kA169, kS169, kC170, kG170, kP170, kR170_0, kR170_1, kR170_2, kL171, kA171, kS171, kL172, kA172, kS172, kL173, kA173, kS173, kC174, kG174, kP174, kR174_0, kR174_1, kR174_2, kR174_3, kR174_4, kL175, kA175, kS175, kL176, kA176, kS176, kL177, kA177, kS177, kL178, kA178, kS178, kL179, kC180, kG180, kP180, kL181, kL182, kA182, kS182, kC183, kG183, kP183, kR183_1, kR183_3, kR183_5, kR183_6, kR183_7, kR183_8, kR183_9, kR183_21, kR183_26, kR183_27, kR183_30, kR183_31, kR183_33, kR183_34, kR183_36, kR183_37, kR183_38, kR183_39, kR183_40, kR183_41, kR183_42, kR183_43, kR183_44, kL184, kA184, kS184, kL185, kA185, kS185, kL186, kA186, kS186, kL187, kA187, kS187, kL188, kA188, kS188, kL189, kL190, kL191, kA191, kS191, kL192, kA192, kS192, kL193, kA193, kS193, kL194, kA194, kS194, kL195, kA195, kS195, kL196, kA196, kS196, kL197, kA197, kS197, kL198, kA198, kS198, kL199, kA199, kS199, kL200, kA200, kS200, kL201, kL202, kA202, kS202, kL203, kA203, kS203, kL204, kA204, kS204, kL205, kL206, kA206, kS206, h9, es]
    · intro x h1
      rw [xup_at, if_neg (by omega), xup_at]
      by_cases z : x = r a
      · rw [if_pos ⟨rfl, z⟩, z, a7, if_pos rfl]
        show nI (r b) = nI (if r a = r a then r b else T (r a))
        rw [if_pos rfl]
      · rw [if_neg (by omega), hJ x h1]
        show _ = if w x = true then nI (if x = r a then r b else T x) else -1
        rw [if_neg z]
    · rw [xup_at, if_pos ⟨rfl, rfl⟩]
    · rw [xup_at, if_neg h2, xup_at, if_neg (by omega)]; exact fr c k h1
end FOREST
end
section
/-! the water rises -/
def Sw (w : Nat → Bool) (S : Nat → Nat → Prop) (a b : Nat) : Prop := w a = true ∧ w b = true ∧ S a b
def wA (w : Nat → Bool) (b : Nat) : Nat → Bool := fun x => w x || decide (b = x)
def wt (o : Nat → Nat) : Nat → Nat → Bool
  | 0 => fun _ => false
  | i + 1 => wA (wt o i) (o i)
theorem wA_b (w : Nat → Bool) (b : Nat) : wA w b b = true := by unfold wA; simp
theorem wA_o {w : Nat → Bool} {b x : Nat} (h : w x = true) : wA w b x = true := by unfold wA; simp [h]
theorem wA_iff {w : Nat → Bool} {b x : Nat} : wA w b x = true ↔ w x = true ∨ b = x := by unfold wA; simp
theorem wt_iff {o : Nat → Nat} {x : Nat} : ∀ {i : Nat}, wt o i x = true ↔ ∃ j, j < i ∧ o j = x := by
  intro i
  induction i with
  | zero =>
    constructor
    · intro h; cases h
    · rintro ⟨j, hj, -⟩; omega
  | succ i ih =>
    show wA (wt o i) (o i) x = true ↔ _
    rw [wA_iff, ih]
    constructor
    · rintro (⟨j, h1, h2⟩ | h)
      · exact ⟨j, by omega, h2⟩
      · exact ⟨i, by omega, h⟩
    · rintro ⟨j, h1, h2⟩
      by_cases z : j = i
      · right; rw [← z]; exact h2
      · left; exact ⟨j, by omega, h2⟩
section RISE
variable {w : Nat → Bool} {S : Nat → Nat → Prop} {r : Nat → Nat}
theorem Sw_y (hSy : ∀ a b, S a b → S b a) (a b : Nat) (h : Sw w S a b) : Sw w S b a := ⟨h.2.1, h.1, hSy a b h.2.2⟩
theorem snd_join (hSy : ∀ a b, S a b → S b a) {a b : Nat} (h : ∀ x, w x = true → cn (Sw w S) x (r x)) (ha : w a = true) (hb : w b = true) (hab : S a b) : ∀ x, w x = true → cn (Sw w S) x (if r x = r a then r b else r x) := by
  intro x hw
  by_cases z : r x = r a
  · rw [if_pos z]
    have h1 := h x hw
    rw [z] at h1
    exact cn_t h1 (cn_t (cn_y (Sw_y hSy) (h a ha)) (cn_t (cn_s (cn_r _ _) ⟨ha, hb, hab⟩) (h b hb)))
  · rw [if_neg z]; exact h x hw
theorem rc_addN {b n : Nat} (hwb : w b = false) (hn : b < n) : fb_ct (fun x => wA w b x && decide ((if x = b then b else r x) = x)) n = fb_ct (fun x => w x && decide (r x = x)) n + 1 := by
  have up : fb_ct (fun k => if k = b then true else (w k && decide (r k = k))) n + (if (w b && decide (r b = b)) = true then 1 else 0) = fb_ct (fun x => w x && decide (r x = x)) n + (if true = true then 1 else 0) := fb_ct_upd (fun x => w x && decide (r x = x)) true hn
  rw [hwb, Bool.false_and, if_neg (show ¬ (false = true) by decide), if_pos rfl, Nat.add_zero] at up
  rw [← up]
  refine fb_ct_cong (fun k hk => ?_)
  by_cases z : k = b
  · rw [if_pos z, z, wA_b, if_pos rfl]; simp
  · rw [if_neg z, if_neg z]
    have : wA w b k = w k := by
      unfold wA
      rw [decide_eq_false (fun y => z y.symm), Bool.or_false]
    rw [this]
theorem UFH_add {J : Nat → Nat → Int32} {N : Nat} (h : UFH J w r N) {b : Nat} (hb : b < 1024) (hwb : w b = false) : UFH (xup (xup J 177 b (nI b)) 174 9 (nI (rc w r + 1))) (wA w b) (fun x => if x = b then b else r x) (N + 1) := by
  obtain ⟨T, ρ, R, hJ, hU, hR, h9⟩ := h
  have hrc : rc (wA w b) (fun x => if x = b then b else r x) = rc w r + 1 := rc_addN hwb hb
  have nb : ∀ x, w x = true → x ≠ b := fun x hw z => by rw [z, hwb] at hw; cases hw
  refine ⟨fun x => if x = b then b else T x, fun x => if x = b then 0 else ρ x, R, fun x h1 => ?_, fun x hw => ?_, by rw [hrc]; omega, by rw [hrc, xup_at, if_pos ⟨rfl, rfl⟩]⟩
  · rw [xup_at, if_neg (by omega), xup_at]
    by_cases z : x = b
    · rw [if_pos ⟨rfl, z⟩, z, wA_b, if_pos rfl]
      show nI b = nI (if b = b then b else T b)
      rw [if_pos rfl]
    · rw [if_neg (by omega), hJ x h1]
      have : wA w b x = w x := by
        unfold wA
        rw [decide_eq_false (fun y => z y.symm), Bool.or_false]
      rw [this]
      show _ = if w x = true then nI (if x = b then b else T x) else -1
      rw [if_neg z]
  · show x < 1024 ∧ wA w b (if x = b then b else T x) = true ∧ (if (if x = b then b else T x) = b then b else r (if x = b then b else T x)) = (if x = b then b else r x) ∧ ((if x = b then b else T x) = x ∨ (if x = b then 0 else ρ x) < (if (if x = b then b else T x) = b then 0 else ρ (if x = b then b else T x))) ∧ ((if x = b then b else T x) = x → (if x = b then b else r x) = x) ∧ (if x = b then 0 else ρ x) ≤ R ∧ wA w b (if x = b then b else r x) = true ∧ (if (if x = b then b else r x) = b then b else T (if x = b then b else r x)) = (if x = b then b else r x)
    by_cases z : x = b
    · rw [if_pos z, if_pos z, if_pos z, if_pos rfl, if_pos rfl]
      exact ⟨by omega, wA_b w b, rfl, .inl z.symm, fun _ => z.symm, Nat.zero_le _, wA_b w b, if_pos rfl⟩
    · have hw' : w x = true := by
        rcases wA_iff.mp hw with y | y
        · exact y
        · exact absurd y.symm z
      obtain ⟨x1, x2, x3, x4, x5, x6, x7, x8⟩ := hU x hw'
      have t1 := nb _ x2
      have t2 := nb _ x7
      rw [if_neg z, if_neg z, if_neg z, if_neg t1, if_neg t1, if_neg t2]
      exact ⟨x1, wA_o x2, x3, x4, x5, x6, wA_o x7, x8⟩
variable {σ : XS} {J : Nat → Nat → Int32} {g : GD} {F : Nat → Int32} {c m M N : Nat} {o : Nat → Nat}
theorem dry_ok (hS : Shp σ) : ∃ J', f_X9_dry (xw σ J) 174 = some (xw σ J') ∧ UFH J' (fun _ => false) (fun x => x) 0 ∧ ∀ a k, ¬ (176 ≤ a ∧ a ≤ 182) → ¬ (a = 174 ∧ k = 9) → J' a k = J a k := by
  have K : σ.1 177 = (20, 1024) := xw_K hS (by decide) (by decide) (by decide)
  have fi := fillI_ok (σ := σ) (I := J) (v := -1) K (by decide)
  have z0 : rc (fun _ => false) (fun x => x) = 0 := fb_ct_zero.mpr (fun k _ => rfl)
  refine ⟨xup (xur J 177 (fun j => if j < 1024 then -1 else J 177 j)) 174 9 0, ?_, ⟨fun x => x, fun _ => 0, 0, fun x h1 => ?_, (fun x hw => absurd hw Bool.false_ne_true), by rw [z0], ?_⟩, fun a k h1 h2 => ?_⟩
  · unfold f_X9_dry
    simp (disch := first | assumption | omega) only [Option.bind_some, Option.map_some, xw_gR, xw_gN, xw_al, xw_ck, xw_uI, xw_ur, xup_at, xur_at, if_true, if_false, reduceIte, and_true, true_and, and_false, false_and, not_true_eq_false, not_false_eq_true, Nat.reduceEqDiff, eq_self, Nat.reduceAdd, Nat.reduceMul, kC1, kG1, kP1, kR1_0, kR1_1, kR1_2, kR1_3, kR1_4, kR1_5, kR1_6, kR1_7, kR1_8, kR1_9, kR1_10, kR1_11, kR1_12, kR1_13, kC2, kG2, kP2, kR2_0, kR2_1, kC3, kG3, kP3, kR3_0, kR3_1, kR3_2, kR3_3, kL4, kA4, kS4, kL5, kA5, kS5, kL6, kA6, kS6, kL7, kA7, kS7, kC8, kG8, kP8, kR8_0, kR8_1, kL9, kA9, kS9, kL10, kA10, kS10, kC11, kG11, kP11, kR11_0, kR11_1, kR11_2, kR11_3, kL12, kA12, kS12, kL13, kA13, kS13, kL14, kA14, kS14, kL15, kA15, kS15, kC16, kG16, kP16, kR16_0, kR16_1, kL17, kA17, kS17, kL18, kA18, kS18, kC19, kG19, kP19, kR19_0, kL20, kL141, kL146, kA146, kS146, kL151, kA151, kS151, kL156, kA156, kS156, kC157, kG157, kP157, kR157_0, kR157_1, kL158, kA158, kS158, kL159, kA159, kS159, kC161, kG161, kP161, kR161_0, kR161_1, kL162, kA162, kS162, kL163, kA163, kS163, kC165, kG165, kP165, kR165_0, kR165_1, kR165_2, kR165_3, kL166, kA166, kS166, kL167, kA167, kS167, kL168, kA168, kS168, kL169, kA169, kS169, kC170, kG170, kP170, kR170_0, kR170_1, kR170_2, kL171, kA171, kS171, kL172, kA172, kS172, kL173, kA173, kS173, kC174, kG174, kP174, kR174_0, kR174_1, kR174_2, kR174_3, kR174_4, kL175, kA175, kS175, kL176, kA176, kS176, kL177, kA177, kS177, kL178, kA178, kS178, kL179, kC180, kG180, kP180, kL181, kL182, kA182, kS182, kC183, kG183, kP183, kR183_1, kR183_3, kR183_5, kR183_6, kR183_7, kR183_8, kR183_9, kR183_21, kR183_26, kR183_27, kR183_30, kR183_31, kR183_33, kR183_34, kR183_36, kR183_37, kR183_38, kR183_39, kR183_40, kR183_41, kR183_42, kR183_43, kR183_44, kL184, kA184, kS184, kL185, kA185, kS185, kL186, kA186, kS186, kL187, kA187, kS187, kL188, kA188, kS188, kL189, kL190, kL191, kA191, kS191, kL192, kA192, kS192, kL193, kA193, kS193, kL194, kA194, kS194, kL195, kA195, kS195, kL196, kA196, kS196, kL197, kA197, kS197, kL198, kA198, kS198, kL199, kA199, kS199, kL200, kA200, kS200, kL201, kL202, kA202, kS202, kL203, kA203, kS203, kL204, kA204, kS204, kL205, kL206, kA206, kS206, fi]
  · rw [xup_at, if_neg (by omega), xur_at, if_pos rfl, if_pos h1]
    exact (if_neg Bool.false_ne_true).symm
  · rw [z0, xup_at, if_pos ⟨rfl, rfl⟩]; rfl
  · rw [xup_at, if_neg h2, xur_at, if_neg (by omega)]
theorem flood_ok (hT : TC σ J g F c m) (hSy : ∀ a b, S a b → S b a) (hSa : ∀ a b, aj g F a b → S a b) (hN : N < 1024) (h : UFH J w r N) {b : Nat} (hb : b < gSt g) (hwb : w b = false) (sd : ∀ x, w x = true → cn (Sw w S) x (r x)) :
    ∃ J' r', f_X9_flood (xw σ J) 174 (nI b) = some (xw σ J') ∧ UFH J' (wA w b) r' (N + 1) ∧ (∀ a k, ¬ (176 ≤ a ∧ a ≤ 182) → ¬ (a = 174 ∧ k = 9) → J' a k = J a k) ∧ (∀ x, wA w b x = true → cn (Sw (wA w b) S) x (r' x)) ∧ (∀ x y, w x = true → w y = true → r x = r y → r' x = r' y) ∧ ∀ i, i < gSz g → F (48 + i) = 0 → wA w b (b ^^^ 2 ^ i) = true → r' b = r' (b ^^^ 2 ^ i) := by
  have hst := hT.st
  have hS := hT.1
  have h9 : J 174 9 = nI (rc w r) := by
    obtain ⟨T, ρ, R, hJ, hU, hR, h9⟩ := h
    exact h9
  have nb : ∀ x, w x = true → x ≠ b := fun x hw z => by rw [z, hwb] at hw; cases hw
  have key := xforI (f := f_X9_flood_b27 174 (nI b)) (fun i x => ∃ (J' : Nat → Nat → Int32) (r' : Nat → Nat), x = (nI i, xw σ J') ∧ UFH J' (wA w b) r' (N + 1) ∧ (∀ a k, ¬ (176 ≤ a ∧ a ≤ 182) → ¬ (a = 174 ∧ k = 9) → J' a k = J a k) ∧ (∀ x, wA w b x = true → cn (Sw (wA w b) S) x (r' x)) ∧ (∀ x y, w x = true → w y = true → r x = r y → r' x = r' y) ∧ ∀ j, j < i → F (48 + j) = 0 → wA w b (b ^^^ 2 ^ j) = true → r' b = r' (b ^^^ 2 ^ j)) (gSz g) (Q := fun q => ∃ (J' : Nat → Nat → Int32) (r' : Nat → Nat), q = xw σ J' ∧ UFH J' (wA w b) r' (N + 1) ∧ (∀ a k, ¬ (176 ≤ a ∧ a ≤ 182) → ¬ (a = 174 ∧ k = 9) → J' a k = J a k) ∧ (∀ x, wA w b x = true → cn (Sw (wA w b) S) x (r' x)) ∧ (∀ x y, w x = true → w y = true → r x = r y → r' x = r' y) ∧ ∀ j, j < gSz g → F (48 + j) = 0 → wA w b (b ^^^ 2 ^ j) = true → r' b = r' (b ^^^ 2 ^ j)) (a0 := ((0 : Int32), xw σ (xup (xup J 177 b (nI b)) 174 9 (nI (rc w r + 1))))) ⟨_, _, rfl, UFH_add h (by omega) hwb, fun a k h1 h2 => by rw [xup_at, if_neg h2, xup_at, if_neg (by omega)], fun x hw => ?_, fun x y hwx hwy e => ?_, fun j hj => absurd hj (Nat.not_lt_zero _)⟩ ?_ ?_
  · obtain ⟨q, e, J', r', rfl, rest⟩ := key
    refine ⟨J', r', ?_, rest⟩
    unfold f_X9_flood
    rw [isSt_ok (by omega), Option.bind_some, if_neg (by decide)]
    have hb' : b < 1024 := by omega
    simp (disch := first | assumption | omega) only [Option.bind_some, Option.map_some, xw_gR, xw_gN, xw_al, xw_ck, xw_uI, xw_ur, xup_at, xur_at, if_true, if_false, reduceIte, and_true, true_and, and_false, false_and, not_true_eq_false, not_false_eq_true, Nat.reduceEqDiff, eq_self, Nat.reduceAdd, Nat.reduceMul, kC1, kG1, kP1, kR1_0, kR1_1, kR1_2, kR1_3, kR1_4, kR1_5, kR1_6, kR1_7, kR1_8, kR1_9, kR1_10, kR1_11, kR1_12, kR1_13, kC2, kG2, kP2, kR2_0, kR2_1, kC3, kG3, kP3, kR3_0, kR3_1, kR3_2, kR3_3, kL4, kA4, kS4, kL5, kA5, kS5, kL6, kA6, kS6, kL7, kA7, kS7, kC8, kG8, kP8, kR8_0, kR8_1, kL9, kA9, kS9, kL10, kA10, kS10, kC11, kG11, kP11, kR11_0, kR11_1, kR11_2, kR11_3, kL12, kA12, kS12, kL13, kA13, kS13, kL14, kA14, kS14, kL15, kA15, kS15, kC16, kG16, kP16, kR16_0, kR16_1, kL17, kA17, kS17, kL18, kA18, kS18, kC19, kG19, kP19, kR19_0, kL20, kL141, kL146, kA146, kS146, kL151, kA151, kS151, kL156, kA156, kS156, kC157, kG157, kP157, kR157_0, kR157_1, kL158, kA158, kS158, kL159, kA159, kS159, kC161, kG161, kP161, kR161_0, kR161_1, kL162, kA162, kS162, kL163, kA163, kS163, kC165, kG165, kP165, kR165_0, kR165_1, kR165_2, kR165_3, kL166, kA166, kS166, kL167, kA167, kS167, kL168, kA168, kS168, kL169, kA169, kS169, kC170, kG170, kP170, kR170_0, kR170_1, kR170_2, kL171, kA171, kS171, kL172, kA172, kS172, kL173, kA173, kS173, kC174, kG174, kP174, kR174_0, kR174_1, kR174_2, kR174_3, kR174_4, kL175, kA175, kS175, kL176, kA176, kS176, kL177, kA177, kS177, kL178, kA178, kS178, kL179, kC180, kG180, kP180, kL181, kL182, kA182, kS182, kC183, kG183, kP183, kR183_1, kR183_3, kR183_5, kR183_6, kR183_7, kR183_8, kR183_9, kR183_21, kR183_26, kR183_27, kR183_30, kR183_31, kR183_33, kR183_34, kR183_36, kR183_37, kR183_38, kR183_39, kR183_40, kR183_41, kR183_42, kR183_43, kR183_44, kL184, kA184, kS184, kL185, kA185, kS185, kL186, kA186, kS186, kL187, kA187, kS187, kL188, kA188, kS188, kL189, kL190, kL191, kA191, kS191, kL192, kA192, kS192, kL193, kA193, kS193, kL194, kA194, kS194, kL195, kA195, kS195, kL196, kA196, kS196, kL197, kA197, kS197, kL198, kA198, kS198, kL199, kA199, kS199, kL200, kA200, kS200, kL201, kL202, kA202, kS202, kL203, kA203, kS203, kL204, kA204, kS204, kL205, kL206, kA206, kS206, h9]
    rw [← nI_succ]
    exact e
  · show cn (Sw (wA w b) S) x (if x = b then b else r x)
    by_cases z : x = b
    · rw [if_pos z, z]; exact cn_r _ _
    · rw [if_neg z]
      rcases wA_iff.mp hw with y | y
      · exact cn_m (fun p q ⟨h1, h2, h3⟩ => ⟨wA_o h1, wA_o h2, h3⟩) (sd x y)
      · exact absurd y.symm z
  · show (if x = b then b else r x) = (if y = b then b else r y)
    rw [if_neg (nb x hwx), if_neg (nb y hwy)]; exact e
  · rintro i x hi ⟨J', r', rfl, hU, u, sd', mo, fl⟩
    have hT' : TC σ J' g F c m := TC_c u hT
    have ct := tCan_ok hT' hi
    have j7 : J' 174 7 = nI (gSz g) := hT'.2.2.2.2.2.2.2.2.2
    have hnb := gSt_flip hb hi
    have h10 := hT.2.2.2.1
    have we := hU.wet hS (show b ^^^ 2 ^ i < 1024 by omega)
    by_cases hp : F (48 + i) = 0
    · rw [if_pos hp] at ct
      cases hw : wA w b (b ^^^ 2 ^ i) with
      | false =>
        rw [hw, if_neg (by decide)] at we
        refine ⟨(nI (i + 1), xw σ J'), ?_, J', r', rfl, hU, u, sd', mo, fun j hj h0 hwj => ?_⟩
        · simp only [f_X9_flood_b27]
          simp (disch := first | assumption | omega) only [Option.bind_some, Option.map_some, xw_gR, xw_gN, xw_al, xw_ck, xw_uI, xw_ur, xup_at, xur_at, if_true, if_false, reduceIte, and_true, true_and, and_false, false_and, not_true_eq_false, not_false_eq_true, Nat.reduceEqDiff, eq_self, Nat.reduceAdd, Nat.reduceMul, kC1, kG1, kP1, kR1_0, kR1_1, kR1_2, kR1_3, kR1_4, kR1_5, kR1_6, kR1_7, kR1_8, kR1_9, kR1_10, kR1_11, kR1_12, kR1_13, kC2, kG2, kP2, kR2_0, kR2_1, kC3, kG3, kP3, kR3_0, kR3_1, kR3_2, kR3_3, kL4, kA4, kS4, kL5, kA5, kS5, kL6, kA6, kS6, kL7, kA7, kS7, kC8, kG8, kP8, kR8_0, kR8_1, kL9, kA9, kS9, kL10, kA10, kS10, kC11, kG11, kP11, kR11_0, kR11_1, kR11_2, kR11_3, kL12, kA12, kS12, kL13, kA13, kS13, kL14, kA14, kS14, kL15, kA15, kS15, kC16, kG16, kP16, kR16_0, kR16_1, kL17, kA17, kS17, kL18, kA18, kS18, kC19, kG19, kP19, kR19_0, kL20, kL141, kL146, kA146, kS146, kL151, kA151, kS151, kL156, kA156, kS156, kC157, kG157, kP157, kR157_0, kR157_1, kL158, kA158, kS158, kL159, kA159, kS159, kC161, kG161, kP161, kR161_0, kR161_1, kL162, kA162, kS162, kL163, kA163, kS163, kC165, kG165, kP165, kR165_0, kR165_1, kR165_2, kR165_3, kL166, kA166, kS166, kL167, kA167, kS167, kL168, kA168, kS168, kL169, kA169, kS169, kC170, kG170, kP170, kR170_0, kR170_1, kR170_2, kL171, kA171, kS171, kL172, kA172, kS172, kL173, kA173, kS173, kC174, kG174, kP174, kR174_0, kR174_1, kR174_2, kR174_3, kR174_4, kL175, kA175, kS175, kL176, kA176, kS176, kL177, kA177, kS177, kL178, kA178, kS178, kL179, kC180, kG180, kP180, kL181, kL182, kA182, kS182, kC183, kG183, kP183, kR183_1, kR183_3, kR183_5, kR183_6, kR183_7, kR183_8, kR183_9, kR183_21, kR183_26, kR183_27, kR183_30, kR183_31, kR183_33, kR183_34, kR183_36, kR183_37, kR183_38, kR183_39, kR183_40, kR183_41, kR183_42, kR183_43, kR183_44, kL184, kA184, kS184, kL185, kA185, kS185, kL186, kA186, kS186, kL187, kA187, kS187, kL188, kA188, kS188, kL189, kL190, kL191, kA191, kS191, kL192, kA192, kS192, kL193, kA193, kS193, kL194, kA194, kS194, kL195, kA195, kS195, kL196, kA196, kS196, kL197, kA197, kS197, kL198, kA198, kS198, kL199, kA199, kS199, kL200, kA200, kS200, kL201, kL202, kA202, kS202, kL203, kA203, kS203, kL204, kA204, kS204, kL205, kL206, kA206, kS206, j7, nn_le, show ¬ (gSz g ≤ i) by omega, ct, one0, nn_one, nn_xor, we]
          rw [nI_succ]
        · by_cases z : j = i
          · rw [z, hw] at hwj; cases hwj
          · exact fl j (by omega) h0 hwj
      | true =>
        rw [hw, if_pos rfl] at we
        obtain ⟨J2, e2, h2, u2⟩ := join_ok hS (show N + 1 ≤ 1024 by omega) hU (wA_b w b) hw
        refine ⟨(nI (i + 1), xw σ J2), ?_, J2, _, rfl, h2, fun a k h1 h3 => by rw [u2 a k (by omega) h3]; exact u a k h1 h3, snd_join hSy sd' (wA_b w b) hw (hSa _ _ ⟨i, hi, hp, rfl⟩), fun x y hwx hwy e => ?_, fun j hj h0 hwj => ?_⟩
        · simp only [f_X9_flood_b27]
          simp (disch := first | assumption | omega) only [Option.bind_some, Option.map_some, xw_gR, xw_gN, xw_al, xw_ck, xw_uI, xw_ur, xup_at, xur_at, if_true, if_false, reduceIte, and_true, true_and, and_false, false_and, not_true_eq_false, not_false_eq_true, Nat.reduceEqDiff, eq_self, Nat.reduceAdd, Nat.reduceMul, kC1, kG1, kP1, kR1_0, kR1_1, kR1_2, kR1_3, kR1_4, kR1_5, kR1_6, kR1_7, kR1_8, kR1_9, kR1_10, kR1_11, kR1_12, kR1_13, kC2, kG2, kP2, kR2_0, kR2_1, kC3, kG3, kP3, kR3_0, kR3_1, kR3_2, kR3_3, kL4, kA4, kS4, kL5, kA5, kS5, kL6, kA6, kS6, kL7, kA7, kS7, kC8, kG8, kP8, kR8_0, kR8_1, kL9, kA9, kS9, kL10, kA10, kS10, kC11, kG11, kP11, kR11_0, kR11_1, kR11_2, kR11_3, kL12, kA12, kS12, kL13, kA13, kS13, kL14, kA14, kS14, kL15, kA15, kS15, kC16, kG16, kP16, kR16_0, kR16_1, kL17, kA17, kS17, kL18, kA18, kS18, kC19, kG19, kP19, kR19_0, kL20, kL141, kL146, kA146, kS146, kL151, kA151, kS151, kL156, kA156, kS156, kC157, kG157, kP157, kR157_0, kR157_1, kL158, kA158, kS158, kL159, kA159, kS159, kC161, kG161, kP161, kR161_0, kR161_1, kL162, kA162, kS162, kL163, kA163, kS163, kC165, kG165, kP165, kR165_0, kR165_1, kR165_2, kR165_3, kL166, kA166, kS166, kL167, kA167, kS167, kL168, kA168, kS168, kL169, kA169, kS169, kC170, kG170, kP170, kR170_0, kR170_1, kR170_2, kL171, kA171, kS171, kL172, kA172, kS172, kL173, kA173, kS173, kC174, kG174, kP174, kR174_0, kR174_1, kR174_2, kR174_3, kR174_4, kL175, kA175, kS175, kL176, kA176, kS176, kL177, kA177, kS177, kL178, kA178, kS178, kL179, kC180, kG180, kP180, kL181, kL182, kA182, kS182, kC183, kG183, kP183, kR183_1, kR183_3, kR183_5, kR183_6, kR183_7, kR183_8, kR183_9, kR183_21, kR183_26, kR183_27, kR183_30, kR183_31, kR183_33, kR183_34, kR183_36, kR183_37, kR183_38, kR183_39, kR183_40, kR183_41, kR183_42, kR183_43, kR183_44, kL184, kA184, kS184, kL185, kA185, kS185, kL186, kA186, kS186, kL187, kA187, kS187, kL188, kA188, kS188, kL189, kL190, kL191, kA191, kS191, kL192, kA192, kS192, kL193, kA193, kS193, kL194, kA194, kS194, kL195, kA195, kS195, kL196, kA196, kS196, kL197, kA197, kS197, kL198, kA198, kS198, kL199, kA199, kS199, kL200, kA200, kS200, kL201, kL202, kA202, kS202, kL203, kA203, kS203, kL204, kA204, kS204, kL205, kL206, kA206, kS206, j7, nn_le, show ¬ (gSz g ≤ i) by omega, ct, one0, nn_one, nn_xor, we, e2]
          rw [nI_succ]
        · show (if r' x = r' b then _ else r' x) = (if r' y = r' b then _ else r' y)
          rw [mo x y hwx hwy e]
        · show (if r' b = r' b then r' (b ^^^ 2 ^ i) else r' b) = (if r' (b ^^^ 2 ^ j) = r' b then r' (b ^^^ 2 ^ i) else r' (b ^^^ 2 ^ j))
          rw [if_pos rfl]
          by_cases z : j = i
          · rw [z]
            split <;> rfl
          · rw [if_pos (fl j (by omega) h0 hwj).symm]
    · rw [if_neg hp] at ct
      refine ⟨(nI (i + 1), xw σ J'), ?_, J', r', rfl, hU, u, sd', mo, fun j hj h0 hwj => ?_⟩
      · simp only [f_X9_flood_b27]
        simp (disch := first | assumption | omega) only [Option.bind_some, Option.map_some, xw_gR, xw_gN, xw_al, xw_ck, xw_uI, xw_ur, xup_at, xur_at, if_true, if_false, reduceIte, and_true, true_and, and_false, false_and, not_true_eq_false, not_false_eq_true, Nat.reduceEqDiff, eq_self, Nat.reduceAdd, Nat.reduceMul, kC1, kG1, kP1, kR1_0, kR1_1, kR1_2, kR1_3, kR1_4, kR1_5, kR1_6, kR1_7, kR1_8, kR1_9, kR1_10, kR1_11, kR1_12, kR1_13, kC2, kG2, kP2, kR2_0, kR2_1, kC3, kG3, kP3, kR3_0, kR3_1, kR3_2, kR3_3, kL4, kA4, kS4, kL5, kA5, kS5, kL6, kA6, kS6, kL7, kA7, kS7, kC8, kG8, kP8, kR8_0, kR8_1, kL9, kA9, kS9, kL10, kA10, kS10, kC11, kG11, kP11, kR11_0, kR11_1, kR11_2, kR11_3, kL12, kA12, kS12, kL13, kA13, kS13, kL14, kA14, kS14, kL15, kA15, kS15, kC16, kG16, kP16, kR16_0, kR16_1, kL17, kA17, kS17, kL18, kA18, kS18, kC19, kG19, kP19, kR19_0, kL20, kL141, kL146, kA146, kS146, kL151, kA151, kS151, kL156, kA156, kS156, kC157, kG157, kP157, kR157_0, kR157_1, kL158, kA158, kS158, kL159, kA159, kS159, kC161, kG161, kP161, kR161_0, kR161_1, kL162, kA162, kS162, kL163, kA163, kS163, kC165, kG165, kP165, kR165_0, kR165_1, kR165_2, kR165_3, kL166, kA166, kS166, kL167, kA167, kS167, kL168, kA168, kS168, kL169, kA169, kS169, kC170, kG170, kP170, kR170_0, kR170_1, kR170_2, kL171, kA171, kS171, kL172, kA172, kS172, kL173, kA173, kS173, kC174, kG174, kP174, kR174_0, kR174_1, kR174_2, kR174_3, kR174_4, kL175, kA175, kS175, kL176, kA176, kS176, kL177, kA177, kS177, kL178, kA178, kS178, kL179, kC180, kG180, kP180, kL181, kL182, kA182, kS182, kC183, kG183, kP183, kR183_1, kR183_3, kR183_5, kR183_6, kR183_7, kR183_8, kR183_9, kR183_21, kR183_26, kR183_27, kR183_30, kR183_31, kR183_33, kR183_34, kR183_36, kR183_37, kR183_38, kR183_39, kR183_40, kR183_41, kR183_42, kR183_43, kR183_44, kL184, kA184, kS184, kL185, kA185, kS185, kL186, kA186, kS186, kL187, kA187, kS187, kL188, kA188, kS188, kL189, kL190, kL191, kA191, kS191, kL192, kA192, kS192, kL193, kA193, kS193, kL194, kA194, kS194, kL195, kA195, kS195, kL196, kA196, kS196, kL197, kA197, kS197, kL198, kA198, kS198, kL199, kA199, kS199, kL200, kA200, kS200, kL201, kL202, kA202, kS202, kL203, kA203, kS203, kL204, kA204, kS204, kL205, kL206, kA206, kS206, j7, nn_le, show ¬ (gSz g ≤ i) by omega, ct]
        rw [nI_succ]
      · by_cases z : j = i
        · rw [z] at h0; exact absurd h0 hp
        · exact fl j (by omega) h0 hwj
  · rintro x ⟨J', r', rfl, hU, u, rest⟩
    refine ⟨xw σ J', ?_, J', r', rfl, hU, u, rest⟩
    have hT' : TC σ J' g F c m := TC_c u hT
    have j7 : J' 174 7 = nI (gSz g) := hT'.2.2.2.2.2.2.2.2.2
    have h10 := hT.2.2.2.1
    simp only [f_X9_flood_b27]
    simp (disch := first | assumption | omega) only [Option.bind_some, Option.map_some, xw_gR, xw_gN, xw_al, xw_ck, xw_uI, xw_ur, xup_at, xur_at, if_true, if_false, reduceIte, and_true, true_and, and_false, false_and, not_true_eq_false, not_false_eq_true, Nat.reduceEqDiff, eq_self, Nat.reduceAdd, Nat.reduceMul, kC1, kG1, kP1, kR1_0, kR1_1, kR1_2, kR1_3, kR1_4, kR1_5, kR1_6, kR1_7, kR1_8, kR1_9, kR1_10, kR1_11, kR1_12, kR1_13, kC2, kG2, kP2, kR2_0, kR2_1, kC3, kG3, kP3, kR3_0, kR3_1, kR3_2, kR3_3, kL4, kA4, kS4, kL5, kA5, kS5, kL6, kA6, kS6, kL7, kA7, kS7, kC8, kG8, kP8, kR8_0, kR8_1, kL9, kA9, kS9, kL10, kA10, kS10, kC11, kG11, kP11, kR11_0, kR11_1, kR11_2, kR11_3, kL12, kA12, kS12, kL13, kA13, kS13, kL14, kA14, kS14, kL15, kA15, kS15, kC16, kG16, kP16, kR16_0, kR16_1, kL17, kA17, kS17, kL18, kA18, kS18, kC19, kG19, kP19, kR19_0, kL20, kL141, kL146, kA146, kS146, kL151, kA151, kS151, kL156, kA156, kS156, kC157, kG157, kP157, kR157_0, kR157_1, kL158, kA158, kS158, kL159, kA159, kS159, kC161, kG161, kP161, kR161_0, kR161_1, kL162, kA162, kS162, kL163, kA163, kS163, kC165, kG165, kP165, kR165_0, kR165_1, kR165_2, kR165_3, kL166, kA166, kS166, kL167, kA167, kS167, kL168, kA168, kS168, kL169, kA169, kS169, kC170, kG170, kP170, kR170_0, kR170_1, kR170_2, kL171, kA171, kS171, kL172, kA172, kS172, kL173, kA173, kS173, kC174, kG174, kP174, kR174_0, kR174_1, kR174_2, kR174_3, kR174_4, kL175, kA175, kS175, kL176, kA176, kS176, kL177, kA177, kS177, kL178, kA178, kS178, kL179, kC180, kG180, kP180, kL181, kL182, kA182, kS182, kC183, kG183, kP183, kR183_1, kR183_3, kR183_5, kR183_6, kR183_7, kR183_8, kR183_9, kR183_21, kR183_26, kR183_27, kR183_30, kR183_31, kR183_33, kR183_34, kR183_36, kR183_37, kR183_38, kR183_39, kR183_40, kR183_41, kR183_42, kR183_43, kR183_44, kL184, kA184, kS184, kL185, kA185, kS185, kL186, kA186, kS186, kL187, kA187, kS187, kL188, kA188, kS188, kL189, kL190, kL191, kA191, kS191, kL192, kA192, kS192, kL193, kA193, kS193, kL194, kA194, kS194, kL195, kA195, kS195, kL196, kA196, kS196, kL197, kA197, kS197, kL198, kA198, kS198, kL199, kA199, kS199, kL200, kA200, kS200, kL201, kL202, kA202, kS202, kL203, kA203, kS203, kL204, kA204, kS204, kL205, kL206, kA206, kS206, j7, nn_le, Nat.le_refl]
end RISE
end
section
/-! where two lakes meet; how many lakes there are -/
section MEET
variable {σ : XS} {J : Nat → Nat → Int32} {g : GD} {F : Nat → Int32} {c m M : Nat} {o : Nat → Nat} {Q : Nat → Prop}
def sQ (g : GD) (F : Nat → Int32) (Q : Nat → Prop) (a b : Nat) : Prop := aj g F a b ∨ (Q a ∧ Q b)
theorem sQ_y (a b : Nat) (h : sQ g F Q a b) : sQ g F Q b a := by
  rcases h with h | h
  · exact .inl (aj_y h)
  · exact .inr ⟨h.2, h.1⟩
theorem wt_new (hO : TO J g F M o) {i : Nat} (hi : i < M) : wt o i (o i) = false := by
  cases h : wt o i (o i) with
  | false => rfl
  | true =>
    obtain ⟨j, h1, h2⟩ := wt_iff.mp h
    exact absurd h2 (hO.2.2.2.1 j i h1 hi).2
/-- what is known once i states are under water -/
def RS (J0 J : Nat → Nat → Int32) (g : GD) (F : Nat → Int32) (o : Nat → Nat) (Q : Nat → Prop) (i : Nat) (r : Nat → Nat) : Prop := UFH J (wt o i) r i ∧ (∀ a k, ¬ (176 ≤ a ∧ a ≤ 182) → ¬ (a = 174 ∧ k = 9) → J a k = J0 a k) ∧ (∀ x, wt o i x = true → cn (Sw (wt o i) (sQ g F Q)) x (r x)) ∧ ∀ x y, wt o i x = true → wt o i y = true → sQ g F Q x y → r x = r y
theorem flood_s (hT : TC σ J g F c m) (hO : TO J g F M o) {J' : Nat → Nat → Int32} {r : Nat → Nat} {i : Nat} (hi : i < M) (h : RS J J' g F o Q i r) :
    ∃ J2 r', f_X9_flood (xw σ J') 174 (nI (o i)) = some (xw σ J2) ∧ UFH J2 (wt o (i + 1)) r' (i + 1) ∧ (∀ a k, ¬ (176 ≤ a ∧ a ≤ 182) → ¬ (a = 174 ∧ k = 9) → J2 a k = J a k) ∧ (∀ x, wt o (i + 1) x = true → cn (Sw (wt o (i + 1)) (sQ g F Q)) x (r' x)) ∧ (∀ x y, wt o i x = true → wt o i y = true → sQ g F Q x y → r' x = r' y) ∧ ∀ x y, wt o (i + 1) x = true → wt o (i + 1) y = true → aj g F x y → r' x = r' y := by
  obtain ⟨h1, h2, h3, h4⟩ := h
  have hM := hO.1
  obtain ⟨J2, r', e, a1, a2, a3, a4, a5⟩ := flood_ok (TC_c h2 hT) (S := sQ g F Q) sQ_y (fun a b z => .inl z) (show i < 1024 by omega) h1 (hO.2.2.1 i hi).2.1 (wt_new hO hi) h3
  refine ⟨J2, r', e, a1, fun a k z1 z2 => by rw [a2 a k z1 z2]; exact h2 a k z1 z2, a3, fun x y hx1 hy1 hs => a4 x y hx1 hy1 (h4 x y hx1 hy1 hs), fun x y hx1 hy1 hs => ?_⟩
  have nw : ∀ y, wt o (i + 1) y = true → aj g F (o i) y → r' (o i) = r' y := by
    rintro y hy ⟨j, j1, j2, rfl⟩
    exact a5 j j1 j2 hy
  rcases wA_iff.mp (show wA (wt o i) (o i) x = true from hx1) with z | z
  · rcases wA_iff.mp (show wA (wt o i) (o i) y = true from hy1) with v | v
    · exact a4 x y z v (h4 x y z v (.inl hs))
    · rw [← v] at hs ⊢
      exact (nw x hx1 (aj_y hs)).symm
  · rw [← z] at hs ⊢
    exact nw y hy1 hs
def met (g : GD) (F : Nat → Int32) (o : Nat → Nat) (Q : Nat → Prop) (i one other : Nat) : Prop := wt o i one = true ∧ wt o i other = true ∧ cn (Sw (wt o i) (sQ g F Q)) one other
theorem met_iff {J0 : Nat → Nat → Int32} {r : Nat → Nat} {i one other : Nat} (h : RS J0 J g F o Q i r) (h1 : wt o i one = true) (h2 : wt o i other = true) : r one = r other ↔ met g F o Q i one other := by
  obtain ⟨a1, a2, a3, a4⟩ := h
  constructor
  · intro e
    have q := a3 one h1
    rw [e] at q
    exact ⟨h1, h2, cn_t q (cn_y (Sw_y sQ_y) (a3 other h2))⟩
  · rintro ⟨-, -, q⟩
    exact q (fun x => r one = r x) rfl (fun a b p ⟨s1, s2, s3⟩ => p.trans (a4 a b s1 s2 s3))
theorem j70_ok (hT : TC σ J g F c m) (hO : TO J g F M o) {J' : Nat → Nat → Int32} {r : Nat → Nat} {i one other : Nat} (hi : i < M) (h : RS J J' g F o Q (i + 1) r) (x3 : Int32) (h1 : one < 1024) (h2 : other < 1024) :
    ∃ J2, RS J J2 g F o Q (i + 1) r ∧ ((met g F o Q (i + 1) one other ∧ f_X9_meetingEnergy_j70 (xw σ J') 174 (nI one) (nI other) x3 (nI i) (nI (o i)) = some (.inr (iI (eE g (zR F) (o i)), xw σ J2))) ∨ (¬ met g F o Q (i + 1) one other ∧ f_X9_meetingEnergy_j70 (xw σ J') 174 (nI one) (nI other) x3 (nI i) (nI (o i)) = some (.inl (nI (i + 1), xw σ J2)))) := by
  have hM := hO.1
  have hS := hT.1
  obtain ⟨b1, b2, b3, b4⟩ := id h
  have we1 := b1.wet hS h1
  have we2 := b1.wet hS h2
  have st : f_X9_meetingEnergy_j70 (xw σ J') 174 (nI one) (nI other) x3 (nI i) (nI (o i)) = if wt o (i + 1) one = true ∧ wt o (i + 1) other = true then (xck (xw σ J') 174 9).bind fun _ => (f_X9_rootOf (xw σ J') 174 (nI one)).bind fun (v10, σ9) => (xck σ9 174 9).bind fun _ => (f_X9_rootOf σ9 174 (nI other)).bind fun (v14, σ13) => if v10 = v14 then (((xck σ13 174 9).bind fun _ => (f_X9_energyOf σ13 174 (nI (o i))).bind fun v17 => some (v17, σ13)).map .inr) else some (.inl (nI i + (1 : Int32), σ13)) else some (.inl (nI (i + 1), xw σ J')) := by
    unfold f_X9_meetingEnergy_j70
    rw [xw_ck, kC174 hS, Option.bind_some, we1, Option.bind_some]
    cases hw1 : wt o (i + 1) one with
    | false => simp [nI_succ]
    | true =>
      rw [if_pos rfl, if_neg (by decide), Option.bind_some, we2, Option.bind_some]
      cases hw2 : wt o (i + 1) other with
      | false => simp [nI_succ]
      | true => simp
  rw [st]
  by_cases hw : wt o (i + 1) one = true ∧ wt o (i + 1) other = true
  · rw [if_pos hw]
    obtain ⟨J1, e1, c1, u1⟩ := rootOf_ok hS (show i + 1 ≤ 1024 by omega) b1 hw.1
    obtain ⟨J2, e2, c2, u2⟩ := rootOf_ok hS (show i + 1 ≤ 1024 by omega) c1 hw.2
    have u : ∀ a k, ¬ (176 ≤ a ∧ a ≤ 182) → ¬ (a = 174 ∧ k = 9) → J2 a k = J a k := fun a k z1 z2 => by rw [u2 a k (by omega), u1 a k (by omega)]; exact b2 a k z1 z2
    have hR : RS J J2 g F o Q (i + 1) r := ⟨c2, u, b3, b4⟩
    refine ⟨J2, hR, ?_⟩
    obtain ⟨T, ρ, R, hJ, hU, -⟩ := c2
    have l1 := (hU _ (hU _ hw.1).2.2.2.2.2.2.1).1
    have l2 := (hU _ (hU _ hw.2).2.2.2.2.2.2.1).1
    have qe : (nI (r one) = nI (r other)) = (r one = r other) := nn_eq (by omega) (by omega)
    have en := tEn_ok (TC_c u hT) (gSt_pos (hO.2.2.1 i hi).2.1).2
    rw [xw_ck, kC174 hS, Option.bind_some, e1, Option.bind_some]
    dsimp only
    rw [xw_ck, kC174 hS, Option.bind_some, e2, Option.bind_some]
    dsimp only
    by_cases e : r one = r other
    · left
      refine ⟨(met_iff hR hw.1 hw.2).mp e, ?_⟩
      rw [if_pos (by rw [e]), xw_ck, kC174 hS, Option.bind_some, en, Option.bind_some]
      rfl
    · right
      refine ⟨fun z => e ((met_iff hR hw.1 hw.2).mpr z), ?_⟩
      rw [if_neg (by rw [qe]; exact e), nI_succ]
  · rw [if_neg hw]
    exact ⟨J', h, .inr ⟨fun z => hw ⟨z.1, z.2.1⟩, rfl⟩⟩
theorem met_M (hO : TO J g F M o) {one other : Nat} (h1 : lwS g F one) (h2 : lwS g F other) : met g F o Q M one other := by
  have hw : ∀ x, lwS g F x → wt o M x = true := fun x hl => wt_iff.mpr (hO.2.2.2.2 x hl.1 hl.2)
  exact ⟨hw _ h1, hw _ h2, cn_m (fun a b ⟨z1, z2, z3⟩ => ⟨hw a z1, hw b z2, .inl z3⟩) (cn_all h1 h2)⟩
/-- the loop, whatever the body does between the flood and the look -/
theorem meet_l (hT : TC σ J g F c m) (hO : TO J g F M o) {one other : Nat} {x3 : Int32} (h1 : lwS g F one) (h2 : lwS g F other)
    (hb : ∀ i J' r, i < M → RS J J' g F o Q i r → ∃ J2 r', f_X9_meetingEnergy_b7 174 (nI one) (nI other) x3 (nI i, xw σ J') = f_X9_meetingEnergy_j70 (xw σ J2) 174 (nI one) (nI other) x3 (nI i) (nI (o i)) ∧ RS J J2 g F o Q (i + 1) r') :
    ∃ i J', i < M ∧ f_X9_meetingEnergy (xw σ J) 174 (nI one) (nI other) x3 = some (iI (eE g (zR F) (o i)), xw σ J') ∧ met g F o Q (i + 1) one other ∧ ¬ met g F o Q i one other ∧ ∀ a k, ¬ (176 ≤ a ∧ a ≤ 182) → ¬ (a = 174 ∧ k = 9) → J' a k = J a k := by
  have hst := hT.st
  have hS := hT.1
  have hM := hO.1
  obtain ⟨J0, e0, d0, u0⟩ := dry_ok (σ := σ) (J := J) hS
  have key := xloop_run (f := f_X9_meetingEnergy_b7 174 (nI one) (nI other) x3) (fun k a => ∃ (i : Nat) (J' : Nat → Nat → Int32) (r : Nat → Nat), a = (nI i, xw σ J') ∧ k = M - i ∧ i ≤ M ∧ RS J J' g F o Q i r ∧ ¬ met g F o Q i one other) (fun b => ∃ (i : Nat) (J' : Nat → Nat → Int32), i < M ∧ b = (iI (eE g (zR F) (o i)), xw σ J') ∧ met g F o Q (i + 1) one other ∧ ¬ met g F o Q i one other ∧ ∀ a k, ¬ (176 ≤ a ∧ a ≤ 182) → ¬ (a = 174 ∧ k = 9) → J' a k = J a k) ?_ (M - 0) ((0 : Int32), xw σ J0) ⟨0, J0, fun x => x, rfl, rfl, Nat.zero_le _, ⟨d0, u0, fun x hw => absurd hw Bool.false_ne_true, fun x y hw => absurd hw Bool.false_ne_true⟩, fun z => absurd z.1 Bool.false_ne_true⟩
  · obtain ⟨b, e, i, J', i1, rfl, rest⟩ := key
    refine ⟨i, J', i1, ?_, rest⟩
    unfold f_X9_meetingEnergy
    rw [xw_ck, kC174 hS, Option.bind_some, e0, Option.bind_some]
    exact e
  · rintro k a ⟨i, J', r, rfl, rfl, hi, hR, hn⟩
    by_cases him : i = M
    · rw [him] at hn
      exact absurd (met_M hO h1 h2) hn
    · have hi' : i < M := by omega
      obtain ⟨J2, r', e2, R2⟩ := hb i J' r hi' hR
      obtain ⟨J3, R3, h3⟩ := j70_ok hT hO hi' R2 x3 (show one < 1024 by have := h1.1; omega) (show other < 1024 by have := h2.1; omega)
      rcases h3 with ⟨q1, q2⟩ | ⟨q1, q2⟩
      · left
        exact ⟨_, e2.trans q2, i, J3, hi', rfl, q1, hn, R3.2.1⟩
      · right
        exact ⟨M - (i + 1), _, by omega, e2.trans q2, i + 1, J3, r', rfl, rfl, by omega, R3, q1⟩
theorem meetP_ok (hT : TC σ J g F c m) (hO : TO J g F M o) {one other : Nat} (h1 : lwS g F one) (h2 : lwS g F other) :
    ∃ i J', i < M ∧ f_X9_meetingEnergy (xw σ J) 174 (nI one) (nI other) 0 = some (iI (eE g (zR F) (o i)), xw σ J') ∧ met g F o (fun x => x = other) (i + 1) one other ∧ ¬ met g F o (fun x => x = other) i one other ∧ ∀ a k, ¬ (176 ≤ a ∧ a ≤ 182) → ¬ (a = 174 ∧ k = 9) → J' a k = J a k := by
  refine meet_l hT hO h1 h2 (fun i J' r hi hR => ?_)
  have hM := hO.1
  have hS := hT.1
  obtain ⟨J2, r', e, a1, a2, a3, a4, a5⟩ := flood_s hT hO hi hR
  have v8 : J' 174 8 = nI M := by rw [hR.2.1 _ _ (by omega) (by omega)]; exact hO.2.1
  have v5 : J' 175 i = nI (o i) := by rw [hR.2.1 _ _ (by omega) (by omega)]; exact (hO.2.2.1 i hi).1
  refine ⟨J2, r', ?_, a1, a2, a3, fun x y hx1 hy1 hs => ?_⟩
  · have q1 : (nI M ≤ nI i) = False := by rw [nn_le (by omega) (by omega)]; exact eq_false (by omega)
    have q2 : ((1024 : Int32) ≤ nI i) = False := by rw [show (1024 : Int32) = nI 1024 from rfl, nn_le (by omega) (by omega)]; exact eq_false (by omega)
    have hi' : i < 1024 := by omega
    simp only [f_X9_meetingEnergy_b7]
    simp (disch := first | assumption | omega) only [Option.bind_some, Option.map_some, xw_gR, xw_gN, xw_al, xw_ck, xw_uI, xw_ur, xup_at, xur_at, if_true, if_false, reduceIte, and_true, true_and, and_false, false_and, not_true_eq_false, not_false_eq_true, Nat.reduceEqDiff, eq_self, Nat.reduceAdd, Nat.reduceMul, kC1, kG1, kP1, kR1_0, kR1_1, kR1_2, kR1_3, kR1_4, kR1_5, kR1_6, kR1_7, kR1_8, kR1_9, kR1_10, kR1_11, kR1_12, kR1_13, kC2, kG2, kP2, kR2_0, kR2_1, kC3, kG3, kP3, kR3_0, kR3_1, kR3_2, kR3_3, kL4, kA4, kS4, kL5, kA5, kS5, kL6, kA6, kS6, kL7, kA7, kS7, kC8, kG8, kP8, kR8_0, kR8_1, kL9, kA9, kS9, kL10, kA10, kS10, kC11, kG11, kP11, kR11_0, kR11_1, kR11_2, kR11_3, kL12, kA12, kS12, kL13, kA13, kS13, kL14, kA14, kS14, kL15, kA15, kS15, kC16, kG16, kP16, kR16_0, kR16_1, kL17, kA17, kS17, kL18, kA18, kS18, kC19, kG19, kP19, kR19_0, kL20, kL141, kL146, kA146, kS146, kL151, kA151, kS151, kL156, kA156, kS156, kC157, kG157, kP157, kR157_0, kR157_1, kL158, kA158, kS158, kL159, kA159, kS159, kC161, kG161, kP161, kR161_0, kR161_1, kL162, kA162, kS162, kL163, kA163, kS163, kC165, kG165, kP165, kR165_0, kR165_1, kR165_2, kR165_3, kL166, kA166, kS166, kL167, kA167, kS167, kL168, kA168, kS168, kL169, kA169, kS169, kC170, kG170, kP170, kR170_0, kR170_1, kR170_2, kL171, kA171, kS171, kL172, kA172, kS172, kL173, kA173, kS173, kC174, kG174, kP174, kR174_0, kR174_1, kR174_2, kR174_3, kR174_4, kL175, kA175, kS175, kL176, kA176, kS176, kL177, kA177, kS177, kL178, kA178, kS178, kL179, kC180, kG180, kP180, kL181, kL182, kA182, kS182, kC183, kG183, kP183, kR183_1, kR183_3, kR183_5, kR183_6, kR183_7, kR183_8, kR183_9, kR183_21, kR183_26, kR183_27, kR183_30, kR183_31, kR183_33, kR183_34, kR183_36, kR183_37, kR183_38, kR183_39, kR183_40, kR183_41, kR183_42, kR183_43, kR183_44, kL184, kA184, kS184, kL185, kA185, kS185, kL186, kA186, kS186, kL187, kA187, kS187, kL188, kA188, kS188, kL189, kL190, kL191, kA191, kS191, kL192, kA192, kS192, kL193, kA193, kS193, kL194, kA194, kS194, kL195, kA195, kS195, kL196, kA196, kS196, kL197, kA197, kS197, kL198, kA198, kS198, kL199, kA199, kS199, kL200, kA200, kS200, kL201, kL202, kA202, kS202, kL203, kA203, kS203, kL204, kA204, kS204, kL205, kL206, kA206, kS206, v8, q1, q2, v5, e]
  · rcases hs with z | ⟨z1, z2⟩
    · exact a5 x y hx1 hy1 z
    · rw [show x = other from z1, show y = other from z2]
theorem meetH_ok (hT : TC σ J g F c m) (hO : TO J g F M o) {one : Nat} (h1 : lwS g F one) (hM0 : 0 < M) :
    ∃ i J', i < M ∧ f_X9_meetingEnergy (xw σ J) 174 (nI one) (nI (o 0)) 1 = some (iI (eE g (zR F) (o i)), xw σ J') ∧ met g F o (fun x => eE g (zR F) x = eE g (zR F) (o 0)) (i + 1) one (o 0) ∧ ¬ met g F o (fun x => eE g (zR F) x = eE g (zR F) (o 0)) i one (o 0) ∧ ∀ a k, ¬ (176 ≤ a ∧ a ≤ 182) → ¬ (a = 174 ∧ k = 9) → J' a k = J a k := by
  refine meet_l hT hO h1 (hO.2.2.1 0 hM0).2 (fun i J' r hi hR => ?_)
  have hM := hO.1
  have hS := hT.1
  have hg := hT.2.1
  have ho := hT.2.2.1
  obtain ⟨J2, r', e, a1, a2, a3, a4, a5⟩ := flood_s hT hO hi hR
  have v8 : J' 174 8 = nI M := by rw [hR.2.1 _ _ (by omega) (by omega)]; exact hO.2.1
  have v5 : J' 175 i = nI (o i) := by rw [hR.2.1 _ _ (by omega) (by omega)]; exact (hO.2.2.1 i hi).1
  have v0 : J2 175 0 = nI (o 0) := by rw [a2 _ _ (by omega) (by omega)]; exact (hO.2.2.1 0 hM0).1
  have low : f_X9_lowest (xw σ J2) 174 = some (nI (o 0)) := by
    unfold f_X9_lowest
    have z0 : xaI (xw σ J2) 20 175 (0 : Int32) = some (J2 175 0) := kA175 hS (i := 0) (by decide)
    simp (disch := first | assumption | omega) only [Option.bind_some, Option.map_some, xw_gR, xw_gN, xw_al, xw_ck, xw_uI, xw_ur, xup_at, xur_at, if_true, if_false, reduceIte, and_true, true_and, and_false, false_and, not_true_eq_false, not_false_eq_true, Nat.reduceEqDiff, eq_self, Nat.reduceAdd, Nat.reduceMul, kC1, kG1, kP1, kR1_0, kR1_1, kR1_2, kR1_3, kR1_4, kR1_5, kR1_6, kR1_7, kR1_8, kR1_9, kR1_10, kR1_11, kR1_12, kR1_13, kC2, kG2, kP2, kR2_0, kR2_1, kC3, kG3, kP3, kR3_0, kR3_1, kR3_2, kR3_3, kL4, kA4, kS4, kL5, kA5, kS5, kL6, kA6, kS6, kL7, kA7, kS7, kC8, kG8, kP8, kR8_0, kR8_1, kL9, kA9, kS9, kL10, kA10, kS10, kC11, kG11, kP11, kR11_0, kR11_1, kR11_2, kR11_3, kL12, kA12, kS12, kL13, kA13, kS13, kL14, kA14, kS14, kL15, kA15, kS15, kC16, kG16, kP16, kR16_0, kR16_1, kL17, kA17, kS17, kL18, kA18, kS18, kC19, kG19, kP19, kR19_0, kL20, kL141, kL146, kA146, kS146, kL151, kA151, kS151, kL156, kA156, kS156, kC157, kG157, kP157, kR157_0, kR157_1, kL158, kA158, kS158, kL159, kA159, kS159, kC161, kG161, kP161, kR161_0, kR161_1, kL162, kA162, kS162, kL163, kA163, kS163, kC165, kG165, kP165, kR165_0, kR165_1, kR165_2, kR165_3, kL166, kA166, kS166, kL167, kA167, kS167, kL168, kA168, kS168, kL169, kA169, kS169, kC170, kG170, kP170, kR170_0, kR170_1, kR170_2, kL171, kA171, kS171, kL172, kA172, kS172, kL173, kA173, kS173, kC174, kG174, kP174, kR174_0, kR174_1, kR174_2, kR174_3, kR174_4, kL175, kA175, kS175, kL176, kA176, kS176, kL177, kA177, kS177, kL178, kA178, kS178, kL179, kC180, kG180, kP180, kL181, kL182, kA182, kS182, kC183, kG183, kP183, kR183_1, kR183_3, kR183_5, kR183_6, kR183_7, kR183_8, kR183_9, kR183_21, kR183_26, kR183_27, kR183_30, kR183_31, kR183_33, kR183_34, kR183_36, kR183_37, kR183_38, kR183_39, kR183_40, kR183_41, kR183_42, kR183_43, kR183_44, kL184, kA184, kS184, kL185, kA185, kS185, kL186, kA186, kS186, kL187, kA187, kS187, kL188, kA188, kS188, kL189, kL190, kL191, kA191, kS191, kL192, kA192, kS192, kL193, kA193, kS193, kL194, kA194, kS194, kL195, kA195, kS195, kL196, kA196, kS196, kL197, kA197, kS197, kL198, kA198, kS198, kL199, kA199, kS199, kL200, kA200, kS200, kL201, kL202, kA202, kS202, kL203, kA203, kS203, kL204, kA204, kS204, kL205, kL206, kA206, kS206, z0, v0]
  have en1 := tEn_ok (TC_c a2 hT) (gSt_pos (hO.2.2.1 i hi).2.1).2
  have en0 := tEn_ok (TC_c a2 hT) (gSt_pos (hO.2.2.1 0 hM0).2.1).2
  have b1 := eE_b hg ho (o i)
  have b0 := eE_b hg ho (o 0)
  have qe : (iI (eE g (zR F) (o i)) = iI (eE g (zR F) (o 0))) = (eE g (zR F) (o i) = eE g (zR F) (o 0)) := iI_eq (by omega) (by omega) (by omega) (by omega)
  have w0 : wt o (i + 1) (o 0) = true := wt_iff.mpr ⟨0, by omega, rfl⟩
  have wi : wt o (i + 1) (o i) = true := wt_iff.mpr ⟨i, by omega, rfl⟩
  have q1 : (nI M ≤ nI i) = False := by rw [nn_le (by omega) (by omega)]; exact eq_false (by omega)
  have q2 : ((1024 : Int32) ≤ nI i) = False := by rw [show (1024 : Int32) = nI 1024 from rfl, nn_le (by omega) (by omega)]; exact eq_false (by omega)
  have hi' : i < 1024 := by omega
  by_cases hq : eE g (zR F) (o i) = eE g (zR F) (o 0)
  · obtain ⟨J3, e3, c3, u3⟩ := join_ok hS (show i + 1 ≤ 1024 by omega) a1 wi w0
    refine ⟨J3, _, ?_, c3, fun a k z1 z2 => by rw [u3 a k (by omega) z2]; exact a2 a k z1 z2, snd_join sQ_y a3 wi w0 (.inr ⟨hq, rfl⟩), fun x y hx1 hy1 hs => ?_⟩
    · simp only [f_X9_meetingEnergy_b7]
      simp (disch := first | assumption | omega) only [Option.bind_some, Option.map_some, xw_gR, xw_gN, xw_al, xw_ck, xw_uI, xw_ur, xup_at, xur_at, if_true, if_false, reduceIte, and_true, true_and, and_false, false_and, not_true_eq_false, not_false_eq_true, Nat.reduceEqDiff, eq_self, Nat.reduceAdd, Nat.reduceMul, kC1, kG1, kP1, kR1_0, kR1_1, kR1_2, kR1_3, kR1_4, kR1_5, kR1_6, kR1_7, kR1_8, kR1_9, kR1_10, kR1_11, kR1_12, kR1_13, kC2, kG2, kP2, kR2_0, kR2_1, kC3, kG3, kP3, kR3_0, kR3_1, kR3_2, kR3_3, kL4, kA4, kS4, kL5, kA5, kS5, kL6, kA6, kS6, kL7, kA7, kS7, kC8, kG8, kP8, kR8_0, kR8_1, kL9, kA9, kS9, kL10, kA10, kS10, kC11, kG11, kP11, kR11_0, kR11_1, kR11_2, kR11_3, kL12, kA12, kS12, kL13, kA13, kS13, kL14, kA14, kS14, kL15, kA15, kS15, kC16, kG16, kP16, kR16_0, kR16_1, kL17, kA17, kS17, kL18, kA18, kS18, kC19, kG19, kP19, kR19_0, kL20, kL141, kL146, kA146, kS146, kL151, kA151, kS151, kL156, kA156, kS156, kC157, kG157, kP157, kR157_0, kR157_1, kL158, kA158, kS158, kL159, kA159, kS159, kC161, kG161, kP161, kR161_0, kR161_1, kL162, kA162, kS162, kL163, kA163, kS163, kC165, kG165, kP165, kR165_0, kR165_1, kR165_2, kR165_3, kL166, kA166, kS166, kL167, kA167, kS167, kL168, kA168, kS168, kL169, kA169, kS169, kC170, kG170, kP170, kR170_0, kR170_1, kR170_2, kL171, kA171, kS171, kL172, kA172, kS172, kL173, kA173, kS173, kC174, kG174, kP174, kR174_0, kR174_1, kR174_2, kR174_3, kR174_4, kL175, kA175, kS175, kL176, kA176, kS176, kL177, kA177, kS177, kL178, kA178, kS178, kL179, kC180, kG180, kP180, kL181, kL182, kA182, kS182, kC183, kG183, kP183, kR183_1, kR183_3, kR183_5, kR183_6, kR183_7, kR183_8, kR183_9, kR183_21, kR183_26, kR183_27, kR183_30, kR183_31, kR183_33, kR183_34, kR183_36, kR183_37, kR183_38, kR183_39, kR183_40, kR183_41, kR183_42, kR183_43, kR183_44, kL184, kA184, kS184, kL185, kA185, kS185, kL186, kA186, kS186, kL187, kA187, kS187, kL188, kA188, kS188, kL189, kL190, kL191, kA191, kS191, kL192, kA192, kS192, kL193, kA193, kS193, kL194, kA194, kS194, kL195, kA195, kS195, kL196, kA196, kS196, kL197, kA197, kS197, kL198, kA198, kS198, kL199, kA199, kS199, kL200, kA200, kS200, kL201, kL202, kA202, kS202, kL203, kA203, kS203, kL204, kA204, kS204, kL205, kL206, kA206, kS206, v8, q1, q2, v5, e, one0, en1, low, en0, qe, hq, e3]
    · show (if r' x = r' (o i) then r' (o 0) else r' x) = (if r' y = r' (o i) then r' (o 0) else r' y)
      have gr : ∀ x, wt o (i + 1) x = true → eE g (zR F) x = eE g (zR F) (o 0) → (if r' x = r' (o i) then r' (o 0) else r' x) = r' (o 0) := by
        intro x hx1 hxe
        rcases wA_iff.mp (show wA (wt o i) (o i) x = true from hx1) with z | z
        · have w00 : wt o i (o 0) = true := by
            obtain ⟨j, j1, j2⟩ := wt_iff.mp z
            exact wt_iff.mpr ⟨0, by omega, rfl⟩
          rw [a4 x (o 0) z w00 (.inr ⟨hxe, rfl⟩)]
          split <;> rfl
        · rw [← z, if_pos rfl]
      rcases hs with z | ⟨z1, z2⟩
      · rw [a5 x y hx1 hy1 z]
      · rw [gr x hx1 z1, gr y hy1 z2]
  · refine ⟨J2, r', ?_, a1, a2, a3, fun x y hx1 hy1 hs => ?_⟩
    · simp only [f_X9_meetingEnergy_b7]
      simp (disch := first | assumption | omega) only [Option.bind_some, Option.map_some, xw_gR, xw_gN, xw_al, xw_ck, xw_uI, xw_ur, xup_at, xur_at, if_true, if_false, reduceIte, and_true, true_and, and_false, false_and, not_true_eq_false, not_false_eq_true, Nat.reduceEqDiff, eq_self, Nat.reduceAdd, Nat.reduceMul, kC1, kG1, kP1, kR1_0, kR1_1, kR1_2, kR1_3, kR1_4, kR1_5, kR1_6, kR1_7, kR1_8, kR1_9, kR1_10, kR1_11, kR1_12, kR1_13, kC2, kG2, kP2, kR2_0, kR2_1, kC3, kG3, kP3, kR3_0, kR3_1, kR3_2, kR3_3, kL4, kA4, kS4, kL5, kA5, kS5, kL6, kA6, kS6, kL7, kA7, kS7, kC8, kG8, kP8, kR8_0, kR8_1, kL9, kA9, kS9, kL10, kA10, kS10, kC11, kG11, kP11, kR11_0, kR11_1, kR11_2, kR11_3, kL12, kA12, kS12, kL13, kA13, kS13, kL14, kA14, kS14, kL15, kA15, kS15, kC16, kG16, kP16, kR16_0, kR16_1, kL17, kA17, kS17, kL18, kA18, kS18, kC19, kG19, kP19, kR19_0, kL20, kL141, kL146, kA146, kS146, kL151, kA151, kS151, kL156, kA156, kS156, kC157, kG157, kP157, kR157_0, kR157_1, kL158, kA158, kS158, kL159, kA159, kS159, kC161, kG161, kP161, kR161_0, kR161_1, kL162, kA162, kS162, kL163, kA163, kS163, kC165, kG165, kP165, kR165_0, kR165_1, kR165_2, kR165_3, kL166, kA166, kS166, kL167, kA167, kS167, kL168, kA168, kS168, kL169, kA169, kS169, kC170, kG170, kP170, kR170_0, kR170_1, kR170_2, kL171, kA171, kS171, kL172, kA172, kS172, kL173, kA173, kS173, kC174, kG174, kP174, kR174_0, kR174_1, kR174_2, kR174_3, kR174_4, kL175, kA175, kS175, kL176, kA176, kS176, kL177, kA177, kS177, kL178, kA178, kS178, kL179, kC180, kG180, kP180, kL181, kL182, kA182, kS182, kC183, kG183, kP183, kR183_1, kR183_3, kR183_5, kR183_6, kR183_7, kR183_8, kR183_9, kR183_21, kR183_26, kR183_27, kR183_30, kR183_31, kR183_33, kR183_34, kR183_36, kR183_37, kR183_38, kR183_39, kR183_40, kR183_41, kR183_42, kR183_43, kR183_44, kL184, kA184, kS184, kL185, kA185, kS185, kL186, kA186, kS186, kL187, kA187, kS187, kL188, kA188, kS188, kL189, kL190, kL191, kA191, kS191, kL192, kA192, kS192, kL193, kA193, kS193, kL194, kA194, kS194, kL195, kA195, kS195, kL196, kA196, kS196, kL197, kA197, kS197, kL198, kA198, kS198, kL199, kA199, kS199, kL200, kA200, kS200, kL201, kL202, kA202, kS202, kL203, kA203, kS203, kL204, kA204, kS204, kL205, kL206, kA206, kS206, v8, q1, q2, v5, e, one0, en1, low, en0, qe, hq]
    · rcases hs with z | ⟨z1, z2⟩
      · exact a5 x y hx1 hy1 z
      · have old : ∀ x, wt o (i + 1) x = true → eE g (zR F) x = eE g (zR F) (o 0) → wt o i x = true := fun x hx1 hxe => by
          rcases wA_iff.mp (show wA (wt o i) (o i) x = true from hx1) with z | z
          · exact z
          · rw [← z] at hxe; exact absurd hxe hq
        exact a4 x y (old x hx1 z1) (old y hy1 z2) (.inr ⟨z1, z2⟩)
/-- the lakes below an energy -/
theorem lakesBelow_ok (hT : TC σ J g F c m) (hO : TO J g F M o) (x : Int32) : ∃ J' r w, f_X9_lakesBelow (xw σ J) 174 x = some (nI (rc w r), xw σ J') ∧ (∀ a k, ¬ (176 ≤ a ∧ a ≤ 182) → ¬ (a = 174 ∧ k = 9) → J' a k = J a k) ∧ (∀ s, w s = true ↔ lwS g F s ∧ eE g (zR F) s ≤ x.toInt) ∧ (∀ s, w s = true → s < 1024 ∧ w (r s) = true) ∧ (∀ a b, w a = true → w b = true → (r a = r b ↔ cn (Sw w (aj g F)) a b)) ∧ ∀ s, w s = true → r (r s) = r s := by
  have hst := hT.st
  have hS := hT.1
  have hM := hO.1
  have hg := hT.2.1
  have ho := hT.2.2.1
  obtain ⟨J0, e0, d0, u0⟩ := dry_ok (σ := σ) (J := J) hS
  have fin : ∀ i J' r, i ≤ M → RS J J' g F o (fun _ => False) i r → (∀ j, j < i → eE g (zR F) (o j) ≤ x.toInt) → (∀ j, i ≤ j → j < M → ¬ eE g (zR F) (o j) ≤ x.toInt) → ∃ r w, J' 174 9 = nI (rc w r) ∧ (∀ a k, ¬ (176 ≤ a ∧ a ≤ 182) → ¬ (a = 174 ∧ k = 9) → J' a k = J a k) ∧ (∀ s, w s = true ↔ lwS g F s ∧ eE g (zR F) s ≤ x.toInt) ∧ (∀ s, w s = true → s < 1024 ∧ w (r s) = true) ∧ (∀ a b, w a = true → w b = true → (r a = r b ↔ cn (Sw w (aj g F)) a b)) ∧ ∀ s, w s = true → r (r s) = r s := by
    intro i J' r hi hR hlo hhi
    have hR' := hR
    obtain ⟨⟨T, ρ, R, hJ, hU, -, h9⟩, u, sd, cp⟩ := hR'
    refine ⟨r, wt o i, h9, u, fun s => ?_, fun s hw => ⟨(hU s hw).1, (hU s hw).2.2.2.2.2.2.1⟩, fun a b ha hb => ?_, fun s hw => ?_⟩
    · rw [wt_iff]
      constructor
      · rintro ⟨j, j1, rfl⟩
        exact ⟨(hO.2.2.1 j (by omega)).2, hlo j j1⟩
      · rintro ⟨l1, l2⟩
        obtain ⟨j, j1, rfl⟩ := hO.2.2.2.2 s l1.1 l1.2
        refine ⟨j, ?_, rfl⟩
        apply Classical.byContradiction
        intro z
        exact hhi j (by omega) j1 l2
    · rw [met_iff hR ha hb]
      constructor
      · rintro ⟨-, -, q⟩
        exact cn_m (fun p q ⟨s1, s2, s3⟩ => ⟨s1, s2, s3.elim id (fun z => z.1.elim)⟩) q
      · intro q
        exact ⟨ha, hb, cn_m (fun p q ⟨s1, s2, s3⟩ => ⟨s1, s2, .inl s3⟩) q⟩
    · obtain ⟨x1, x2, x3, x4, x5, x6, x7, x8⟩ := hU s hw
      exact (hU _ x7).2.2.2.2.1 x8
  have key := xloop_run (f := f_X9_lakesBelow_b6 174 x) (fun k a => ∃ (i : Nat) (J' : Nat → Nat → Int32) (r : Nat → Nat), a = (nI i, xw σ J') ∧ k = M - i ∧ i ≤ M ∧ RS J J' g F o (fun _ => False) i r ∧ ∀ j, j < i → eE g (zR F) (o j) ≤ x.toInt) (fun b => ∃ (J' : Nat → Nat → Int32) (r : Nat → Nat) (w : Nat → Bool), b = (nI (rc w r), xw σ J') ∧ (∀ a k, ¬ (176 ≤ a ∧ a ≤ 182) → ¬ (a = 174 ∧ k = 9) → J' a k = J a k) ∧ (∀ s, w s = true ↔ lwS g F s ∧ eE g (zR F) s ≤ x.toInt) ∧ (∀ s, w s = true → s < 1024 ∧ w (r s) = true) ∧ (∀ a b, w a = true → w b = true → (r a = r b ↔ cn (Sw w (aj g F)) a b)) ∧ ∀ s, w s = true → r (r s) = r s) ?_ (M - 0) ((0 : Int32), xw σ J0) ⟨0, J0, fun x => x, rfl, rfl, Nat.zero_le _, ⟨d0, u0, fun x hw => absurd hw Bool.false_ne_true, fun x y hw => absurd hw Bool.false_ne_true⟩, fun j hj => absurd hj (Nat.not_lt_zero _)⟩
  · obtain ⟨b, e, J', r, w, rfl, rest⟩ := key
    refine ⟨J', r, w, ?_, rest⟩
    unfold f_X9_lakesBelow
    rw [xw_ck, kC174 hS, Option.bind_some, e0, Option.bind_some]
    exact e
  · rintro k a ⟨i, J', r, rfl, rfl, hi, hR, hlo⟩
    have v8 : J' 174 8 = nI M := by rw [hR.2.1 _ _ (by omega) (by omega)]; exact hO.2.1
    by_cases him : i = M
    · left
      obtain ⟨r2, w2, h9, rest⟩ := fin i J' r hi hR hlo (fun j z1 z2 => by omega)
      refine ⟨_, ?_, J', r2, w2, rfl, rest⟩
      simp only [f_X9_lakesBelow_b6]
      have q1 : (nI M ≤ nI i) = True := by rw [nn_le (by omega) (by omega)]; exact eq_true (by omega)
      simp (disch := first | assumption | omega) only [Option.bind_some, Option.map_some, xw_gR, xw_gN, xw_al, xw_ck, xw_uI, xw_ur, xup_at, xur_at, if_true, if_false, reduceIte, and_true, true_and, and_false, false_and, not_true_eq_false, not_false_eq_true, Nat.reduceEqDiff, eq_self, Nat.reduceAdd, Nat.reduceMul, kC1, kG1, kP1, kR1_0, kR1_1, kR1_2, kR1_3, kR1_4, kR1_5, kR1_6, kR1_7, kR1_8, kR1_9, kR1_10, kR1_11, kR1_12, kR1_13, kC2, kG2, kP2, kR2_0, kR2_1, kC3, kG3, kP3, kR3_0, kR3_1, kR3_2, kR3_3, kL4, kA4, kS4, kL5, kA5, kS5, kL6, kA6, kS6, kL7, kA7, kS7, kC8, kG8, kP8, kR8_0, kR8_1, kL9, kA9, kS9, kL10, kA10, kS10, kC11, kG11, kP11, kR11_0, kR11_1, kR11_2, kR11_3, kL12, kA12, kS12, kL13, kA13, kS13, kL14, kA14, kS14, kL15, kA15, kS15, kC16, kG16, kP16, kR16_0, kR16_1, kL17, kA17, kS17, kL18, kA18, kS18, kC19, kG19, kP19, kR19_0, kL20, kL141, kL146, kA146, kS146, kL151, kA151, kS151, kL156, kA156, kS156, kC157, kG157, kP157, kR157_0, kR157_1, kL158, kA158, kS158, kL159, kA159, kS159, kC161, kG161, kP161, kR161_0, kR161_1, kL162, kA162, kS162, kL163, kA163, kS163, kC165, kG165, kP165, kR165_0, kR165_1, kR165_2, kR165_3, kL166, kA166, kS166, kL167, kA167, kS167, kL168, kA168, kS168, kL169, kA169, kS169, kC170, kG170, kP170, kR170_0, kR170_1, kR170_2, kL171, kA171, kS171, kL172, kA172, kS172, kL173, kA173, kS173, kC174, kG174, kP174, kR174_0, kR174_1, kR174_2, kR174_3, kR174_4, kL175, kA175, kS175, kL176, kA176, kS176, kL177, kA177, kS177, kL178, kA178, kS178, kL179, kC180, kG180, kP180, kL181, kL182, kA182, kS182, kC183, kG183, kP183, kR183_1, kR183_3, kR183_5, kR183_6, kR183_7, kR183_8, kR183_9, kR183_21, kR183_26, kR183_27, kR183_30, kR183_31, kR183_33, kR183_34, kR183_36, kR183_37, kR183_38, kR183_39, kR183_40, kR183_41, kR183_42, kR183_43, kR183_44, kL184, kA184, kS184, kL185, kA185, kS185, kL186, kA186, kS186, kL187, kA187, kS187, kL188, kA188, kS188, kL189, kL190, kL191, kA191, kS191, kL192, kA192, kS192, kL193, kA193, kS193, kL194, kA194, kS194, kL195, kA195, kS195, kL196, kA196, kS196, kL197, kA197, kS197, kL198, kA198, kS198, kL199, kA199, kS199, kL200, kA200, kS200, kL201, kL202, kA202, kS202, kL203, kA203, kS203, kL204, kA204, kS204, kL205, kL206, kA206, kS206, v8, q1, h9]
    · have hi' : i < M := by omega
      have hi2 : i < 1024 := by omega
      have v5 : J' 175 i = nI (o i) := by rw [hR.2.1 _ _ (by omega) (by omega)]; exact (hO.2.2.1 i hi').1
      have en := tEn_ok (TC_c hR.2.1 hT) (gSt_pos (hO.2.2.1 i hi').2.1).2
      have bb := eE_b hg ho (o i)
      have q1 : (nI M ≤ nI i) = False := by rw [nn_le (by omega) (by omega)]; exact eq_false (by omega)
      have q2 : ((1024 : Int32) ≤ nI i) = False := by rw [show (1024 : Int32) = nI 1024 from rfl, nn_le (by omega) (by omega)]; exact eq_false (by omega)
      have q3 : (x < iI (eE g (zR F) (o i))) = (x.toInt < eE g (zR F) (o i)) := by rw [fa_lt, iI_ti (by omega) (by omega)]
      by_cases hlt : x.toInt < eE g (zR F) (o i)
      · left
        obtain ⟨r2, w2, h9, rest⟩ := fin i J' r hi hR hlo (fun j z1 z2 z3 => by
          by_cases z : j = i
          · rw [z] at z3; omega
          · have := (hO.2.2.2.1 i j (by omega) z2).1
            omega)
        refine ⟨_, ?_, J', r2, w2, rfl, rest⟩
        simp only [f_X9_lakesBelow_b6]
        simp (disch := first | assumption | omega) only [Option.bind_some, Option.map_some, xw_gR, xw_gN, xw_al, xw_ck, xw_uI, xw_ur, xup_at, xur_at, if_true, if_false, reduceIte, and_true, true_and, and_false, false_and, not_true_eq_false, not_false_eq_true, Nat.reduceEqDiff, eq_self, Nat.reduceAdd, Nat.reduceMul, kC1, kG1, kP1, kR1_0, kR1_1, kR1_2, kR1_3, kR1_4, kR1_5, kR1_6, kR1_7, kR1_8, kR1_9, kR1_10, kR1_11, kR1_12, kR1_13, kC2, kG2, kP2, kR2_0, kR2_1, kC3, kG3, kP3, kR3_0, kR3_1, kR3_2, kR3_3, kL4, kA4, kS4, kL5, kA5, kS5, kL6, kA6, kS6, kL7, kA7, kS7, kC8, kG8, kP8, kR8_0, kR8_1, kL9, kA9, kS9, kL10, kA10, kS10, kC11, kG11, kP11, kR11_0, kR11_1, kR11_2, kR11_3, kL12, kA12, kS12, kL13, kA13, kS13, kL14, kA14, kS14, kL15, kA15, kS15, kC16, kG16, kP16, kR16_0, kR16_1, kL17, kA17, kS17, kL18, kA18, kS18, kC19, kG19, kP19, kR19_0, kL20, kL141, kL146, kA146, kS146, kL151, kA151, kS151, kL156, kA156, kS156, kC157, kG157, kP157, kR157_0, kR157_1, kL158, kA158, kS158, kL159, kA159, kS159, kC161, kG161, kP161, kR161_0, kR161_1, kL162, kA162, kS162, kL163, kA163, kS163, kC165, kG165, kP165, kR165_0, kR165_1, kR165_2, kR165_3, kL166, kA166, kS166, kL167, kA167, kS167, kL168, kA168, kS168, kL169, kA169, kS169, kC170, kG170, kP170, kR170_0, kR170_1, kR170_2, kL171, kA171, kS171, kL172, kA172, kS172, kL173, kA173, kS173, kC174, kG174, kP174, kR174_0, kR174_1, kR174_2, kR174_3, kR174_4, kL175, kA175, kS175, kL176, kA176, kS176, kL177, kA177, kS177, kL178, kA178, kS178, kL179, kC180, kG180, kP180, kL181, kL182, kA182, kS182, kC183, kG183, kP183, kR183_1, kR183_3, kR183_5, kR183_6, kR183_7, kR183_8, kR183_9, kR183_21, kR183_26, kR183_27, kR183_30, kR183_31, kR183_33, kR183_34, kR183_36, kR183_37, kR183_38, kR183_39, kR183_40, kR183_41, kR183_42, kR183_43, kR183_44, kL184, kA184, kS184, kL185, kA185, kS185, kL186, kA186, kS186, kL187, kA187, kS187, kL188, kA188, kS188, kL189, kL190, kL191, kA191, kS191, kL192, kA192, kS192, kL193, kA193, kS193, kL194, kA194, kS194, kL195, kA195, kS195, kL196, kA196, kS196, kL197, kA197, kS197, kL198, kA198, kS198, kL199, kA199, kS199, kL200, kA200, kS200, kL201, kL202, kA202, kS202, kL203, kA203, kS203, kL204, kA204, kS204, kL205, kL206, kA206, kS206, v8, q1, q2, v5, en, q3, hlt, h9]
      · right
        obtain ⟨J2, r', e, a1, a2, a3, a4, a5⟩ := flood_s hT hO hi' hR
        refine ⟨M - (i + 1), (nI (i + 1), xw σ J2), by omega, ?_, i + 1, J2, r', rfl, rfl, by omega, ⟨a1, a2, a3, fun p q z1 z2 z3 => a5 p q z1 z2 (z3.elim id (fun z => z.1.elim))⟩, fun j hj => ?_⟩
        · simp only [f_X9_lakesBelow_b6]
          simp (disch := first | assumption | omega) only [Option.bind_some, Option.map_some, xw_gR, xw_gN, xw_al, xw_ck, xw_uI, xw_ur, xup_at, xur_at, if_true, if_false, reduceIte, and_true, true_and, and_false, false_and, not_true_eq_false, not_false_eq_true, Nat.reduceEqDiff, eq_self, Nat.reduceAdd, Nat.reduceMul, kC1, kG1, kP1, kR1_0, kR1_1, kR1_2, kR1_3, kR1_4, kR1_5, kR1_6, kR1_7, kR1_8, kR1_9, kR1_10, kR1_11, kR1_12, kR1_13, kC2, kG2, kP2, kR2_0, kR2_1, kC3, kG3, kP3, kR3_0, kR3_1, kR3_2, kR3_3, kL4, kA4, kS4, kL5, kA5, kS5, kL6, kA6, kS6, kL7, kA7, kS7, kC8, kG8, kP8, kR8_0, kR8_1, kL9, kA9, kS9, kL10, kA10, kS10, kC11, kG11, kP11, kR11_0, kR11_1, kR11_2, kR11_3, kL12, kA12, kS12, kL13, kA13, kS13, kL14, kA14, kS14, kL15, kA15, kS15, kC16, kG16, kP16, kR16_0, kR16_1, kL17, kA17, kS17, kL18, kA18, kS18, kC19, kG19, kP19, kR19_0, kL20, kL141, kL146, kA146, kS146, kL151, kA151, kS151, kL156, kA156, kS156, kC157, kG157, kP157, kR157_0, kR157_1, kL158, kA158, kS158, kL159, kA159, kS159, kC161, kG161, kP161, kR161_0, kR161_1, kL162, kA162, kS162, kL163, kA163, kS163, kC165, kG165, kP165, kR165_0, kR165_1, kR165_2, kR165_3, kL166, kA166, kS166, kL167, kA167, kS167, kL168, kA168, kS168, kL169, kA169, kS169, kC170, kG170, kP170, kR170_0, kR170_1, kR170_2, kL171, kA171, kS171, kL172, kA172, kS172, kL173, kA173, kS173, kC174, kG174, kP174, kR174_0, kR174_1, kR174_2, kR174_3, kR174_4, kL175, kA175, kS175, kL176, kA176, kS176, kL177, kA177, kS177, kL178, kA178, kS178, kL179, kC180, kG180, kP180, kL181, kL182, kA182, kS182, kC183, kG183, kP183, kR183_1, kR183_3, kR183_5, kR183_6, kR183_7, kR183_8, kR183_9, kR183_21, kR183_26, kR183_27, kR183_30, kR183_31, kR183_33, kR183_34, kR183_36, kR183_37, kR183_38, kR183_39, kR183_40, kR183_41, kR183_42, kR183_43, kR183_44, kL184, kA184, kS184, kL185, kA185, kS185, kL186, kA186, kS186, kL187, kA187, kS187, kL188, kA188, kS188, kL189, kL190, kL191, kA191, kS191, kL192, kA192, kS192, kL193, kA193, kS193, kL194, kA194, kS194, kL195, kA195, kS195, kL196, kA196, kS196, kL197, kA197, kS197, kL198, kA198, kS198, kL199, kA199, kS199, kL200, kA200, kS200, kL201, kL202, kA202, kS202, kL203, kA203, kS203, kL204, kA204, kS204, kL205, kL206, kA206, kS206, v8, q1, q2, v5, en, q3, hlt, e]
          rw [nI_succ]
        · by_cases z : j = i
          · rw [z]; omega
          · exact hlo j (by omega)
end MEET
end
section
/-! the model's hills -/
def mnH (h : Nat → Int) (x : Nat) : Nat → Int
  | 0 => 100000
  | i + 1 => if mnH h x i ≤ h (x ^^^ 2 ^ i) then mnH h x i else h (x ^^^ 2 ^ i)
theorem mnH_le (h : Nat → Int) (x : Nat) : ∀ k, mnH h x k ≤ 100000 ∧ ∀ i, i < k → mnH h x k ≤ h (x ^^^ 2 ^ i)
  | 0 => ⟨Int.le_refl _, fun i hi => absurd hi (Nat.not_lt_zero _)⟩
  | k + 1 => by
    have ih := mnH_le h x k
    rw [mnH]
    split
    · next q =>
      refine ⟨ih.1, fun i hi => ?_⟩
      by_cases z : i = k
      · rw [z]; exact q
      · exact ih.2 i (by omega)
    · next q =>
      refine ⟨by omega, fun i hi => ?_⟩
      by_cases z : i = k
      · rw [z]; exact Int.le_refl _
      · have := ih.2 i (by omega)
        omega
theorem mnH_at (h : Nat → Int) (x : Nat) : ∀ k, mnH h x k = 100000 ∨ ∃ i, i < k ∧ mnH h x k = h (x ^^^ 2 ^ i)
  | 0 => .inl rfl
  | k + 1 => by
    rw [mnH]
    split
    · rcases mnH_at h x k with z | ⟨i, h1, h2⟩
      · exact .inl z
      · exact .inr ⟨i, by omega, h2⟩
    · exact .inr ⟨k, by omega, rfl⟩
/-- within an energy -/
def Se (g : GD) (F : Nat → Int32) (e : Int) (a b : Nat) : Prop := (lwS g F a ∧ eE g (zR F) a ≤ e) ∧ (lwS g F b ∧ eE g (zR F) b ≤ e) ∧ aj g F a b
def HI (g : GD) (F : Nat → Int32) (Q : Nat → Prop) (h : Nat → Int) : Prop := (∀ x, x < gSt g → lW g F x = false → h x = 100000) ∧ (∀ x, x < gSt g → h x = 100000 ∨ (h x ≤ 144 ∧ eE g (zR F) x ≤ h x ∧ ∃ q, Q q ∧ cn (Se g F (h x)) q x)) ∧ ∀ q, Q q → lwS g F q ∧ h q ≤ eE g (zR F) q
def mxH (g : GD) (F : Nat → Int32) (h : Nat → Int) (x : Nat) : Int := max (eE g (zR F) x) (mnH h x (gSz g))
section HILLS
variable {σ : XS} {J : Nat → Nat → Int32} {g : GD} {F : Nat → Int32} {Q : Nat → Prop} {h : Nat → Int}
theorem HI_b (hg : g ∈ gAll) (ho : RO g F) (hI : HI g F Q h) {x : Nat} (hx1 : x < gSt g) : -144 ≤ h x ∧ h x ≤ 100000 := by
  have := eE_b hg ho x
  rcases hI.2.1 x hx1 with z | ⟨z1, z2, -⟩ <;> omega
theorem HI_up (hg : g ∈ gAll) (ho : RO g F) (hI : HI g F Q h) {x : Nat} (hl : lwS g F x) (hlt : mxH g F h x < h x) : HI g F Q (fun y => if y = x then mxH g F h x else h y) := by
  obtain ⟨h1, h2, h3⟩ := hI
  have hb := eE_b hg ho x
  have hub := (HI_b hg ho ⟨h1, h2, h3⟩ hl.1).2
  refine ⟨fun y hy hn => ?_, fun y hy => ?_, fun q hq => ⟨(h3 q hq).1, ?_⟩⟩
  · show (if y = x then mxH g F h x else h y) = 100000
    by_cases z : y = x
    · rw [z, hl.2] at hn; cases hn
    · rw [if_neg z]; exact h1 y hy hn
  · show (if y = x then mxH g F h x else h y) = 100000 ∨ ((if y = x then mxH g F h x else h y) ≤ 144 ∧ eE g (zR F) y ≤ (if y = x then mxH g F h x else h y) ∧ ∃ q, Q q ∧ cn (Se g F (if y = x then mxH g F h x else h y)) q y)
    by_cases z : y = x
    · rw [if_pos z, z]
      right
      rcases mnH_at h x (gSz g) with w | ⟨i, i1, i2⟩
      · unfold mxH at hlt
        omega
      · have hf := gSt_flip hl.1 i1
        rcases h2 _ hf with v | ⟨v1, v2, q, q1, q2⟩
        · unfold mxH at hlt
          omega
        · have hly : lW g F (x ^^^ 2 ^ i) = true := by
            cases e : lW g F (x ^^^ 2 ^ i) with
            | true => rfl
            | false =>
              have := h1 _ hf e
              omega
          have hp : F (48 + i) = 0 := by
            rw [lW_flip i1 hl.2] at hly
            exact of_decide_eq_true hly
          have m1 : h (x ^^^ 2 ^ i) ≤ mxH g F h x := by unfold mxH; omega
          have m2 : eE g (zR F) x ≤ mxH g F h x := by unfold mxH; omega
          have m3 : mxH g F h x ≤ 144 := by unfold mxH; omega
          refine ⟨m3, m2, q, q1, cn_s (cn_m (fun a b ⟨⟨a1, a2⟩, ⟨b1, b2⟩, c⟩ => ⟨⟨a1, by omega⟩, ⟨b1, by omega⟩, c⟩) q2) ⟨⟨⟨hf, hly⟩, by omega⟩, ⟨hl, m2⟩, i, i1, hp, (xor2 x i).symm⟩⟩
    · rw [if_neg z]; exact h2 y hy
  · show (if q = x then mxH g F h x else h q) ≤ _
    by_cases z : q = x
    · rw [if_pos z, z]
      have := (h3 q hq).2
      rw [z] at this
      omega
    · rw [if_neg z]; exact (h3 q hq).2
def HX (J : Nat → Nat → Int32) (g : GD) (F : Nat → Int32) (Q : Nat → Prop) (h : Nat → Int) : Prop := GRD J g ∧ KNK J g F ∧ (∀ x, x < gSt g → J 202 x = iI (h x)) ∧ HI g F Q h
theorem hills_x (hS : Shp σ) (ho : RO g F) (h10 : gSt g ≤ 1024) (hX : HX J g F Q h) {x : Nat} (hl : lwS g F x) (mo : Int32) :
    xloop (f_X12_laysHills_b40 (xw σ J) 183 mo (nI x)) ((100000 : Int32), (0 : Int32)) = some (if mxH g F h x < h x then .inl ((1 : Int32), nI (x + 1), xw σ (xup J 202 x (iI (mxH g F h x)))) else .inl (mo, nI (x + 1), xw σ J)) := by
  obtain ⟨hG, hK, hv, hI⟩ := hX
  have hg := hG.1
  have h16 := (gAll_b g hg).2.2.1
  have hb := eE_b hg ho x
  have hk := hK.1 x hl.1
  rw [hl.2, if_pos rfl] at hk
  have mb : ∀ k, k ≤ gSz g → -144 ≤ mnH h x k ∧ mnH h x k ≤ 100000 := fun k hk => by
    refine ⟨?_, (mnH_le h x k).1⟩
    rcases mnH_at h x k with z | ⟨i, i1, i2⟩
    · omega
    · have := (HI_b hg ho hI (gSt_flip hl.1 (show i < gSz g by omega))).1
      omega
  have hxb := HI_b hg ho hI hl.1
  have x24 : x < 1024 := by have := hl.1; omega
  refine xforE (fun i : Nat => (iI (mnH h x i), nI i)) (gSz g) rfl (fun i hi => ?_) ?_
  · have hf := gSt_flip hl.1 hi
    have f24 : x ^^^ 2 ^ i < 1024 := by omega
    have hfb := HI_b hg ho hI hf
    have hmb := mb i (by omega)
    have q : (iI (mnH h x i) ≤ iI (h (x ^^^ 2 ^ i))) = (mnH h x i ≤ h (x ^^^ 2 ^ i)) := iI_le (by omega) (by omega) (by omega) (by omega)
    simp only [f_X12_laysHills_b40]
    simp (disch := first | assumption | omega) only [Option.bind_some, Option.map_some, xw_gR, xw_gN, xw_al, xw_ck, xw_uI, xw_ur, xup_at, xur_at, if_true, if_false, reduceIte, and_true, true_and, and_false, false_and, not_true_eq_false, not_false_eq_true, Nat.reduceEqDiff, eq_self, Nat.reduceAdd, Nat.reduceMul, kC1, kG1, kP1, kR1_0, kR1_1, kR1_2, kR1_3, kR1_4, kR1_5, kR1_6, kR1_7, kR1_8, kR1_9, kR1_10, kR1_11, kR1_12, kR1_13, kC2, kG2, kP2, kR2_0, kR2_1, kC3, kG3, kP3, kR3_0, kR3_1, kR3_2, kR3_3, kL4, kA4, kS4, kL5, kA5, kS5, kL6, kA6, kS6, kL7, kA7, kS7, kC8, kG8, kP8, kR8_0, kR8_1, kL9, kA9, kS9, kL10, kA10, kS10, kC11, kG11, kP11, kR11_0, kR11_1, kR11_2, kR11_3, kL12, kA12, kS12, kL13, kA13, kS13, kL14, kA14, kS14, kL15, kA15, kS15, kC16, kG16, kP16, kR16_0, kR16_1, kL17, kA17, kS17, kL18, kA18, kS18, kC19, kG19, kP19, kR19_0, kL20, kL141, kL146, kA146, kS146, kL151, kA151, kS151, kL156, kA156, kS156, kC157, kG157, kP157, kR157_0, kR157_1, kL158, kA158, kS158, kL159, kA159, kS159, kC161, kG161, kP161, kR161_0, kR161_1, kL162, kA162, kS162, kL163, kA163, kS163, kC165, kG165, kP165, kR165_0, kR165_1, kR165_2, kR165_3, kL166, kA166, kS166, kL167, kA167, kS167, kL168, kA168, kS168, kL169, kA169, kS169, kC170, kG170, kP170, kR170_0, kR170_1, kR170_2, kL171, kA171, kS171, kL172, kA172, kS172, kL173, kA173, kS173, kC174, kG174, kP174, kR174_0, kR174_1, kR174_2, kR174_3, kR174_4, kL175, kA175, kS175, kL176, kA176, kS176, kL177, kA177, kS177, kL178, kA178, kS178, kL179, kC180, kG180, kP180, kL181, kL182, kA182, kS182, kC183, kG183, kP183, kR183_1, kR183_3, kR183_5, kR183_6, kR183_7, kR183_8, kR183_9, kR183_21, kR183_26, kR183_27, kR183_30, kR183_31, kR183_33, kR183_34, kR183_36, kR183_37, kR183_38, kR183_39, kR183_40, kR183_41, kR183_42, kR183_43, kR183_44, kL184, kA184, kS184, kL185, kA185, kS185, kL186, kA186, kS186, kL187, kA187, kS187, kL188, kA188, kS188, kL189, kL190, kL191, kA191, kS191, kL192, kA192, kS192, kL193, kA193, kS193, kL194, kA194, kS194, kL195, kA195, kS195, kL196, kA196, kS196, kL197, kA197, kS197, kL198, kA198, kS198, kL199, kA199, kS199, kL200, kA200, kS200, kL201, kL202, kA202, kS202, kL203, kA203, kS203, kL204, kA204, kS204, kL205, kL206, kA206, kS206, sites_ok hS hG, nn_le, show ¬ (gSz g ≤ i) by omega, nn_one, nn_xor, hv _ hf, q]
    rw [← nI_succ]
    show _ = some (Sum.inl (iI (mnH h x (i + 1)), nI (i + 1)))
    rw [mnH]
    by_cases z : mnH h x i ≤ h (x ^^^ 2 ^ i)
    · rw [if_pos z, if_pos z]
    · rw [if_neg z, if_neg z]
  · have hmb := mb (gSz g) (Nat.le_refl _)
    have q1 : (iI (eE g (zR F) x) ≤ iI (mnH h x (gSz g))) = (eE g (zR F) x ≤ mnH h x (gSz g)) := iI_le (by omega) (by omega) (by omega) (by omega)
    have q2 : (iI (mxH g F h x) < iI (h x)) = (mxH g F h x < h x) := iI_lt (by unfold mxH; omega) (by unfold mxH; omega) (by omega) (by omega)
    have jo : ∀ v, v = iI (mxH g F h x) → f_X12_laysHills_j99 (xw σ J) 183 mo (nI x) v = some (if mxH g F h x < h x then .inl ((1 : Int32), nI (x + 1), xw σ (xup J 202 x (iI (mxH g F h x)))) else .inl (mo, nI (x + 1), xw σ J)) := by
      rintro v rfl
      unfold f_X12_laysHills_j99
      simp (disch := first | assumption | omega) only [Option.bind_some, Option.map_some, xw_gR, xw_gN, xw_al, xw_ck, xw_uI, xw_ur, xup_at, xur_at, if_true, if_false, reduceIte, and_true, true_and, and_false, false_and, not_true_eq_false, not_false_eq_true, Nat.reduceEqDiff, eq_self, Nat.reduceAdd, Nat.reduceMul, kC1, kG1, kP1, kR1_0, kR1_1, kR1_2, kR1_3, kR1_4, kR1_5, kR1_6, kR1_7, kR1_8, kR1_9, kR1_10, kR1_11, kR1_12, kR1_13, kC2, kG2, kP2, kR2_0, kR2_1, kC3, kG3, kP3, kR3_0, kR3_1, kR3_2, kR3_3, kL4, kA4, kS4, kL5, kA5, kS5, kL6, kA6, kS6, kL7, kA7, kS7, kC8, kG8, kP8, kR8_0, kR8_1, kL9, kA9, kS9, kL10, kA10, kS10, kC11, kG11, kP11, kR11_0, kR11_1, kR11_2, kR11_3, kL12, kA12, kS12, kL13, kA13, kS13, kL14, kA14, kS14, kL15, kA15, kS15, kC16, kG16, kP16, kR16_0, kR16_1, kL17, kA17, kS17, kL18, kA18, kS18, kC19, kG19, kP19, kR19_0, kL20, kL141, kL146, kA146, kS146, kL151, kA151, kS151, kL156, kA156, kS156, kC157, kG157, kP157, kR157_0, kR157_1, kL158, kA158, kS158, kL159, kA159, kS159, kC161, kG161, kP161, kR161_0, kR161_1, kL162, kA162, kS162, kL163, kA163, kS163, kC165, kG165, kP165, kR165_0, kR165_1, kR165_2, kR165_3, kL166, kA166, kS166, kL167, kA167, kS167, kL168, kA168, kS168, kL169, kA169, kS169, kC170, kG170, kP170, kR170_0, kR170_1, kR170_2, kL171, kA171, kS171, kL172, kA172, kS172, kL173, kA173, kS173, kC174, kG174, kP174, kR174_0, kR174_1, kR174_2, kR174_3, kR174_4, kL175, kA175, kS175, kL176, kA176, kS176, kL177, kA177, kS177, kL178, kA178, kS178, kL179, kC180, kG180, kP180, kL181, kL182, kA182, kS182, kC183, kG183, kP183, kR183_1, kR183_3, kR183_5, kR183_6, kR183_7, kR183_8, kR183_9, kR183_21, kR183_26, kR183_27, kR183_30, kR183_31, kR183_33, kR183_34, kR183_36, kR183_37, kR183_38, kR183_39, kR183_40, kR183_41, kR183_42, kR183_43, kR183_44, kL184, kA184, kS184, kL185, kA185, kS185, kL186, kA186, kS186, kL187, kA187, kS187, kL188, kA188, kS188, kL189, kL190, kL191, kA191, kS191, kL192, kA192, kS192, kL193, kA193, kS193, kL194, kA194, kS194, kL195, kA195, kS195, kL196, kA196, kS196, kL197, kA197, kS197, kL198, kA198, kS198, kL199, kA199, kS199, kL200, kA200, kS200, kL201, kL202, kA202, kS202, kL203, kA203, kS203, kL204, kA204, kS204, kL205, kL206, kA206, kS206, hv x hl.1, q2]
      rw [← nI_succ]
      by_cases z : mxH g F h x < h x
      · rw [if_pos z, if_pos z]
      · rw [if_neg z, if_neg z]
    simp only [f_X12_laysHills_b40]
    simp (disch := first | assumption | omega) only [Option.bind_some, Option.map_some, xw_gR, xw_gN, xw_al, xw_ck, xw_uI, xw_ur, xup_at, xur_at, if_true, if_false, reduceIte, and_true, true_and, and_false, false_and, not_true_eq_false, not_false_eq_true, Nat.reduceEqDiff, eq_self, Nat.reduceAdd, Nat.reduceMul, kC1, kG1, kP1, kR1_0, kR1_1, kR1_2, kR1_3, kR1_4, kR1_5, kR1_6, kR1_7, kR1_8, kR1_9, kR1_10, kR1_11, kR1_12, kR1_13, kC2, kG2, kP2, kR2_0, kR2_1, kC3, kG3, kP3, kR3_0, kR3_1, kR3_2, kR3_3, kL4, kA4, kS4, kL5, kA5, kS5, kL6, kA6, kS6, kL7, kA7, kS7, kC8, kG8, kP8, kR8_0, kR8_1, kL9, kA9, kS9, kL10, kA10, kS10, kC11, kG11, kP11, kR11_0, kR11_1, kR11_2, kR11_3, kL12, kA12, kS12, kL13, kA13, kS13, kL14, kA14, kS14, kL15, kA15, kS15, kC16, kG16, kP16, kR16_0, kR16_1, kL17, kA17, kS17, kL18, kA18, kS18, kC19, kG19, kP19, kR19_0, kL20, kL141, kL146, kA146, kS146, kL151, kA151, kS151, kL156, kA156, kS156, kC157, kG157, kP157, kR157_0, kR157_1, kL158, kA158, kS158, kL159, kA159, kS159, kC161, kG161, kP161, kR161_0, kR161_1, kL162, kA162, kS162, kL163, kA163, kS163, kC165, kG165, kP165, kR165_0, kR165_1, kR165_2, kR165_3, kL166, kA166, kS166, kL167, kA167, kS167, kL168, kA168, kS168, kL169, kA169, kS169, kC170, kG170, kP170, kR170_0, kR170_1, kR170_2, kL171, kA171, kS171, kL172, kA172, kS172, kL173, kA173, kS173, kC174, kG174, kP174, kR174_0, kR174_1, kR174_2, kR174_3, kR174_4, kL175, kA175, kS175, kL176, kA176, kS176, kL177, kA177, kS177, kL178, kA178, kS178, kL179, kC180, kG180, kP180, kL181, kL182, kA182, kS182, kC183, kG183, kP183, kR183_1, kR183_3, kR183_5, kR183_6, kR183_7, kR183_8, kR183_9, kR183_21, kR183_26, kR183_27, kR183_30, kR183_31, kR183_33, kR183_34, kR183_36, kR183_37, kR183_38, kR183_39, kR183_40, kR183_41, kR183_42, kR183_43, kR183_44, kL184, kA184, kS184, kL185, kA185, kS185, kL186, kA186, kS186, kL187, kA187, kS187, kL188, kA188, kS188, kL189, kL190, kL191, kA191, kS191, kL192, kA192, kS192, kL193, kA193, kS193, kL194, kA194, kS194, kL195, kA195, kS195, kL196, kA196, kS196, kL197, kA197, kS197, kL198, kA198, kS198, kL199, kA199, kS199, kL200, kA200, kS200, kL201, kL202, kA202, kS202, kL203, kA203, kS203, kL204, kA204, kS204, kL205, kL206, kA206, kS206, sites_ok hS hG, nn_le, Nat.le_refl, hk, q1]
    by_cases z : eE g (zR F) x ≤ mnH h x (gSz g)
    · rw [if_pos z, jo _ (by congr 1; unfold mxH; omega)]
      rfl
    · rw [if_neg z, jo _ (by congr 1; unfold mxH; omega)]
      rfl
def phH (g : GD) (h : Nat → Int) : Nat := fb_sm (fun x => (h x + 144).toNat) (gSt g)
theorem phH_up {x : Nat} {v : Int} (hx1 : x < gSt g) (h1 : v < h x) (h2 : -144 ≤ v) : phH g (fun y => if y = x then v else h y) < phH g h := by
  have up := fb_sm_upd (fun x => (h x + 144).toNat) (v + 144).toNat hx1
  have cg : phH g (fun y => if y = x then v else h y) = fb_sm (fun k => if k = x then (v + 144).toNat else (h k + 144).toNat) (gSt g) := fb_sm_cong (fun k _ => by
    show ((if k = x then v else h k) + 144).toNat = _
    by_cases z : k = x
    · rw [if_pos z, if_pos z]
    · rw [if_neg z, if_neg z])
  rw [cg]
  unfold phH
  have : (v + 144).toNat < (h x + 144).toNat := by omega
  have up' : fb_sm (fun k => if k = x then (v + 144).toNat else (h k + 144).toNat) (gSt g) + (h x + 144).toNat = fb_sm (fun x => (h x + 144).toNat) (gSt g) + (v + 144).toNat := up
  omega
theorem hills_p (hS : Shp σ) (ho : RO g F) (h10 : gSt g ≤ 1024) (hX : HX J g F Q h) :
    ∃ r, xloop (f_X12_laysHills_b10 183) ((0 : Int32), (0 : Int32), xw σ J) = some r ∧ ∃ (J' : Nat → Nat → Int32) (h' : Nat → Int), HX J' g F Q h' ∧ (∀ a k, a ≠ 202 → J' a k = J a k) ∧ ((r = .inl ((0 : Int32), xw σ J') ∧ ∀ x, lwS g F x → h' x ≤ mxH g F h' x) ∨ (r = .inl ((1 : Int32), xw σ J') ∧ phH g h' < phH g h)) := by
  have hg := hX.1.1
  refine xforI (fun x a => ∃ (mo : Int32) (J' : Nat → Nat → Int32) (h' : Nat → Int), a = (mo, nI x, xw σ J') ∧ HX J' g F Q h' ∧ (∀ a k, a ≠ 202 → J' a k = J a k) ∧ ((mo = 0 ∧ h' = h ∧ ∀ y, y < x → lwS g F y → h' y ≤ mxH g F h' y) ∨ (mo = 1 ∧ phH g h' < phH g h))) (gSt g) ⟨0, J, h, rfl, hX, fun _ _ _ => rfl, .inl ⟨rfl, rfl, fun y hy => absurd hy (Nat.not_lt_zero _)⟩⟩ ?_ ?_
  · rintro x a hx1 ⟨mo, J', h', rfl, hX', u, hd⟩
    have hG := hX'.1
    have hk := hX'.2.1.1 x hx1
    have x24 : x < 1024 := by omega
    cases hl : lW g F x with
    | false =>
      rw [hl, if_neg (by decide)] at hk
      refine ⟨(mo, nI (x + 1), xw σ J'), ?_, mo, J', h', rfl, hX', u, ?_⟩
      · simp only [f_X12_laysHills_b10]
        simp (disch := first | assumption | omega) only [Option.bind_some, Option.map_some, xw_gR, xw_gN, xw_al, xw_ck, xw_uI, xw_ur, xup_at, xur_at, if_true, if_false, reduceIte, and_true, true_and, and_false, false_and, not_true_eq_false, not_false_eq_true, Nat.reduceEqDiff, eq_self, Nat.reduceAdd, Nat.reduceMul, kC1, kG1, kP1, kR1_0, kR1_1, kR1_2, kR1_3, kR1_4, kR1_5, kR1_6, kR1_7, kR1_8, kR1_9, kR1_10, kR1_11, kR1_12, kR1_13, kC2, kG2, kP2, kR2_0, kR2_1, kC3, kG3, kP3, kR3_0, kR3_1, kR3_2, kR3_3, kL4, kA4, kS4, kL5, kA5, kS5, kL6, kA6, kS6, kL7, kA7, kS7, kC8, kG8, kP8, kR8_0, kR8_1, kL9, kA9, kS9, kL10, kA10, kS10, kC11, kG11, kP11, kR11_0, kR11_1, kR11_2, kR11_3, kL12, kA12, kS12, kL13, kA13, kS13, kL14, kA14, kS14, kL15, kA15, kS15, kC16, kG16, kP16, kR16_0, kR16_1, kL17, kA17, kS17, kL18, kA18, kS18, kC19, kG19, kP19, kR19_0, kL20, kL141, kL146, kA146, kS146, kL151, kA151, kS151, kL156, kA156, kS156, kC157, kG157, kP157, kR157_0, kR157_1, kL158, kA158, kS158, kL159, kA159, kS159, kC161, kG161, kP161, kR161_0, kR161_1, kL162, kA162, kS162, kL163, kA163, kS163, kC165, kG165, kP165, kR165_0, kR165_1, kR165_2, kR165_3, kL166, kA166, kS166, kL167, kA167, kS167, kL168, kA168, kS168, kL169, kA169, kS169, kC170, kG170, kP170, kR170_0, kR170_1, kR170_2, kL171, kA171, kS171, kL172, kA172, kS172, kL173, kA173, kS173, kC174, kG174, kP174, kR174_0, kR174_1, kR174_2, kR174_3, kR174_4, kL175, kA175, kS175, kL176, kA176, kS176, kL177, kA177, kS177, kL178, kA178, kS178, kL179, kC180, kG180, kP180, kL181, kL182, kA182, kS182, kC183, kG183, kP183, kR183_1, kR183_3, kR183_5, kR183_6, kR183_7, kR183_8, kR183_9, kR183_21, kR183_26, kR183_27, kR183_30, kR183_31, kR183_33, kR183_34, kR183_36, kR183_37, kR183_38, kR183_39, kR183_40, kR183_41, kR183_42, kR183_43, kR183_44, kL184, kA184, kS184, kL185, kA185, kS185, kL186, kA186, kS186, kL187, kA187, kS187, kL188, kA188, kS188, kL189, kL190, kL191, kA191, kS191, kL192, kA192, kS192, kL193, kA193, kS193, kL194, kA194, kS194, kL195, kA195, kS195, kL196, kA196, kS196, kL197, kA197, kS197, kL198, kA198, kS198, kL199, kA199, kS199, kL200, kA200, kS200, kL201, kL202, kA202, kS202, kL203, kA203, kS203, kL204, kA204, kS204, kL205, kL206, kA206, kS206, states12_ok hS hG, nn_le, show ¬ (gSt g ≤ x) by omega, hk, show (nI 100000 = (100000 : Int32)) = True from eq_true rfl]
        rw [nI_succ]
      · rcases hd with ⟨d1, d2, d3⟩ | d
        · left
          refine ⟨d1, d2, fun y hy hly => ?_⟩
          by_cases z : y = x
          · rw [z] at hly
            rw [hly.2] at hl; cases hl
          · exact d3 y (by omega) hly
        · exact .inr d
    | true =>
      rw [hl, if_pos rfl] at hk
      have hb := eE_b hg ho x
      have q : (iI (eE g (zR F) x) = (100000 : Int32)) = False := by
        rw [show (100000 : Int32) = iI 100000 from rfl, iI_eq (by omega) (by omega) (by omega) (by omega)]; exact eq_false (by omega)
      have hxx := hills_x (σ := σ) hS ho h10 hX' (x := x) ⟨hx1, hl⟩ mo
      have stp : f_X12_laysHills_b10 183 (mo, nI x, xw σ J') = xloop (f_X12_laysHills_b40 (xw σ J') 183 mo (nI x)) ((100000 : Int32), (0 : Int32)) := by
        simp only [f_X12_laysHills_b10]
        simp (disch := first | assumption | omega) only [Option.bind_some, Option.map_some, xw_gR, xw_gN, xw_al, xw_ck, xw_uI, xw_ur, xup_at, xur_at, if_true, if_false, reduceIte, and_true, true_and, and_false, false_and, not_true_eq_false, not_false_eq_true, Nat.reduceEqDiff, eq_self, Nat.reduceAdd, Nat.reduceMul, kC1, kG1, kP1, kR1_0, kR1_1, kR1_2, kR1_3, kR1_4, kR1_5, kR1_6, kR1_7, kR1_8, kR1_9, kR1_10, kR1_11, kR1_12, kR1_13, kC2, kG2, kP2, kR2_0, kR2_1, kC3, kG3, kP3, kR3_0, kR3_1, kR3_2, kR3_3, kL4, kA4, kS4, kL5, kA5, kS5, kL6, kA6, kS6, kL7, kA7, kS7, kC8, kG8, kP8, kR8_0, kR8_1, kL9, kA9, kS9, kL10, kA10, kS10, kC11, kG11, kP11, kR11_0, kR11_1, kR11_2, kR11_3, kL12, kA12, kS12, kL13, kA13, kS13, kL14, kA14, kS14, kL15, kA15, kS15, kC16, kG16, kP16, kR16_0, kR16_1, kL17, kA17, kS17, kL18, kA18, kS18, kC19, kG19, kP19, kR19_0, kL20, kL141, kL146, kA146, kS146, kL151, kA151, kS151, kL156, kA156, kS156, kC157, kG157, kP157, kR157_0, kR157_1, kL158, kA158, kS158, kL159, kA159, kS159, kC161, kG161, kP161, kR161_0, kR161_1, kL162, kA162, kS162, kL163, kA163, kS163, kC165, kG165, kP165, kR165_0, kR165_1, kR165_2, kR165_3, kL166, kA166, kS166, kL167, kA167, kS167, kL168, kA168, kS168, kL169, kA169, kS169, kC170, kG170, kP170, kR170_0, kR170_1, kR170_2, kL171, kA171, kS171, kL172, kA172, kS172, kL173, kA173, kS173, kC174, kG174, kP174, kR174_0, kR174_1, kR174_2, kR174_3, kR174_4, kL175, kA175, kS175, kL176, kA176, kS176, kL177, kA177, kS177, kL178, kA178, kS178, kL179, kC180, kG180, kP180, kL181, kL182, kA182, kS182, kC183, kG183, kP183, kR183_1, kR183_3, kR183_5, kR183_6, kR183_7, kR183_8, kR183_9, kR183_21, kR183_26, kR183_27, kR183_30, kR183_31, kR183_33, kR183_34, kR183_36, kR183_37, kR183_38, kR183_39, kR183_40, kR183_41, kR183_42, kR183_43, kR183_44, kL184, kA184, kS184, kL185, kA185, kS185, kL186, kA186, kS186, kL187, kA187, kS187, kL188, kA188, kS188, kL189, kL190, kL191, kA191, kS191, kL192, kA192, kS192, kL193, kA193, kS193, kL194, kA194, kS194, kL195, kA195, kS195, kL196, kA196, kS196, kL197, kA197, kS197, kL198, kA198, kS198, kL199, kA199, kS199, kL200, kA200, kS200, kL201, kL202, kA202, kS202, kL203, kA203, kS203, kL204, kA204, kS204, kL205, kL206, kA206, kS206, states12_ok hS hG, nn_le, show ¬ (gSt g ≤ x) by omega, hk, q]
      rw [stp, hxx]
      by_cases z : mxH g F h' x < h' x
      · rw [if_pos z]
        have mlo : -144 ≤ mxH g F h' x := by unfold mxH; omega
        have ph := phH_up (g := g) (h := h') hx1 z mlo
        refine ⟨_, rfl, 1, xup J' 202 x (iI (mxH g F h' x)), fun y => if y = x then mxH g F h' x else h' y, rfl, ⟨GRD_c (fun a k w => by rw [xup_at, if_neg (by unfold sGRD at w; omega)]) hG, KNK_c (I := J') hg (fun a k w => by rw [xup_at, if_neg (by omega)]) (fun _ _ => rfl) hX'.2.1, fun y hy => ?_, HI_up hg ho hX'.2.2.2 ⟨hx1, hl⟩ z⟩, fun a k ha => by rw [xup_at, if_neg (by omega)]; exact u a k ha, .inr ⟨rfl, ?_⟩⟩
        · rw [xup_at]
          show _ = iI (if y = x then mxH g F h' x else h' y)
          by_cases w : y = x
          · rw [if_pos ⟨rfl, w⟩, if_pos w]
          · rw [if_neg (by omega), if_neg w]; exact hX'.2.2.1 y hy
        · rcases hd with ⟨d1, d2, d3⟩ | ⟨d1, d2⟩
          · rw [d2] at ph ⊢; exact ph
          · omega
      · rw [if_neg z]
        refine ⟨_, rfl, mo, J', h', rfl, hX', u, ?_⟩
        rcases hd with ⟨d1, d2, d3⟩ | d
        · left
          refine ⟨d1, d2, fun y hy hly => ?_⟩
          by_cases w : y = x
          · rw [w]; omega
          · exact d3 y (by omega) hly
        · exact .inr d
  · rintro a ⟨mo, J', h', rfl, hX', u, hd⟩
    have hG := hX'.1
    refine ⟨.inl (mo, xw σ J'), ?_, J', h', hX', u, ?_⟩
    · simp only [f_X12_laysHills_b10]
      simp (disch := first | assumption | omega) only [Option.bind_some, Option.map_some, xw_gR, xw_gN, xw_al, xw_ck, xw_uI, xw_ur, xup_at, xur_at, if_true, if_false, reduceIte, and_true, true_and, and_false, false_and, not_true_eq_false, not_false_eq_true, Nat.reduceEqDiff, eq_self, Nat.reduceAdd, Nat.reduceMul, kC1, kG1, kP1, kR1_0, kR1_1, kR1_2, kR1_3, kR1_4, kR1_5, kR1_6, kR1_7, kR1_8, kR1_9, kR1_10, kR1_11, kR1_12, kR1_13, kC2, kG2, kP2, kR2_0, kR2_1, kC3, kG3, kP3, kR3_0, kR3_1, kR3_2, kR3_3, kL4, kA4, kS4, kL5, kA5, kS5, kL6, kA6, kS6, kL7, kA7, kS7, kC8, kG8, kP8, kR8_0, kR8_1, kL9, kA9, kS9, kL10, kA10, kS10, kC11, kG11, kP11, kR11_0, kR11_1, kR11_2, kR11_3, kL12, kA12, kS12, kL13, kA13, kS13, kL14, kA14, kS14, kL15, kA15, kS15, kC16, kG16, kP16, kR16_0, kR16_1, kL17, kA17, kS17, kL18, kA18, kS18, kC19, kG19, kP19, kR19_0, kL20, kL141, kL146, kA146, kS146, kL151, kA151, kS151, kL156, kA156, kS156, kC157, kG157, kP157, kR157_0, kR157_1, kL158, kA158, kS158, kL159, kA159, kS159, kC161, kG161, kP161, kR161_0, kR161_1, kL162, kA162, kS162, kL163, kA163, kS163, kC165, kG165, kP165, kR165_0, kR165_1, kR165_2, kR165_3, kL166, kA166, kS166, kL167, kA167, kS167, kL168, kA168, kS168, kL169, kA169, kS169, kC170, kG170, kP170, kR170_0, kR170_1, kR170_2, kL171, kA171, kS171, kL172, kA172, kS172, kL173, kA173, kS173, kC174, kG174, kP174, kR174_0, kR174_1, kR174_2, kR174_3, kR174_4, kL175, kA175, kS175, kL176, kA176, kS176, kL177, kA177, kS177, kL178, kA178, kS178, kL179, kC180, kG180, kP180, kL181, kL182, kA182, kS182, kC183, kG183, kP183, kR183_1, kR183_3, kR183_5, kR183_6, kR183_7, kR183_8, kR183_9, kR183_21, kR183_26, kR183_27, kR183_30, kR183_31, kR183_33, kR183_34, kR183_36, kR183_37, kR183_38, kR183_39, kR183_40, kR183_41, kR183_42, kR183_43, kR183_44, kL184, kA184, kS184, kL185, kA185, kS185, kL186, kA186, kS186, kL187, kA187, kS187, kL188, kA188, kS188, kL189, kL190, kL191, kA191, kS191, kL192, kA192, kS192, kL193, kA193, kS193, kL194, kA194, kS194, kL195, kA195, kS195, kL196, kA196, kS196, kL197, kA197, kS197, kL198, kA198, kS198, kL199, kA199, kS199, kL200, kA200, kS200, kL201, kL202, kA202, kS202, kL203, kA203, kS203, kL204, kA204, kS204, kL205, kL206, kA206, kS206, states12_ok hS hG, nn_le, Nat.le_refl]
    · rcases hd with ⟨d1, d2, d3⟩ | ⟨d1, d2⟩
      · exact .inl ⟨by rw [d1], fun x hl => d3 x hl.1 hl⟩
      · exact .inr ⟨by rw [d1], d2⟩
theorem hills_ok (hS : Shp σ) (ho : RO g F) (h10 : gSt g ≤ 1024) (hX : HX J g F Q h) :
    ∃ (J' : Nat → Nat → Int32) (h' : Nat → Int), f_X12_laysHills (xw σ J) 183 = some (xw σ J') ∧ (∀ a k, a ≠ 202 → J' a k = J a k) ∧ (∀ x, x < gSt g → J' 202 x = iI (h' x)) ∧ HI g F Q h' ∧ ∀ x y, lwS g F x → aj g F x y → h' x ≤ max (eE g (zR F) x) (h' y) := by
  unfold f_X12_laysHills
  have key := xloop_run (f := f_X12_laysHills_b2 183) (fun k a => ∃ (J' : Nat → Nat → Int32) (h' : Nat → Int), HX J' g F Q h' ∧ (∀ a k, a ≠ 202 → J' a k = J a k) ∧ ((a = ((1 : Int32), xw σ J') ∧ k = phH g h' + 1) ∨ (a = ((0 : Int32), xw σ J') ∧ k = 0 ∧ ∀ x, lwS g F x → h' x ≤ mxH g F h' x))) (fun b => ∃ (J' : Nat → Nat → Int32) (h' : Nat → Int), b = xw σ J' ∧ HX J' g F Q h' ∧ (∀ a k, a ≠ 202 → J' a k = J a k) ∧ ∀ x, lwS g F x → h' x ≤ mxH g F h' x) ?_ (phH g h + 1) ((1 : Int32), xw σ J) ⟨J, h, hX, fun _ _ _ => rfl, .inl ⟨rfl, rfl⟩⟩
  · obtain ⟨b, e, J', h', rfl, hX', u, fx⟩ := key
    refine ⟨J', h', e, u, hX'.2.2.1, hX'.2.2.2, fun x y hl hxy => ?_⟩
    obtain ⟨i, i1, i2, rfl⟩ := hxy
    have h1 := fx x hl
    have h2 := (mnH_le h' x (gSz g)).2 i i1
    unfold mxH at h1
    omega
  · rintro k a ⟨J', h', hX', u, ⟨rfl, rfl⟩ | ⟨rfl, rfl, fx⟩⟩
    · right
      obtain ⟨r, e, J2, h2, hX2, u2, hd⟩ := hills_p (σ := σ) hS ho h10 hX'
      have stp : f_X12_laysHills_b2 183 ((1 : Int32), xw σ J') = xloop (f_X12_laysHills_b10 183) ((0 : Int32), (0 : Int32), xw σ J') := by
        simp only [f_X12_laysHills_b2]
        rw [if_neg (by decide)]
      rcases hd with ⟨d1, d2⟩ | ⟨d1, d2⟩
      · exact ⟨0, ((0 : Int32), xw σ J2), by omega, by rw [stp, e, d1], J2, h2, hX2, fun a k ha => by rw [u2 a k ha]; exact u a k ha, .inr ⟨rfl, rfl, d2⟩⟩
      · exact ⟨phH g h2 + 1, ((1 : Int32), xw σ J2), by omega, by rw [stp, e, d1], J2, h2, hX2, fun a k ha => by rw [u2 a k ha]; exact u a k ha, .inl ⟨rfl, rfl⟩⟩
    · left
      refine ⟨xw σ J', ?_, J', h', rfl, hX', u, fx⟩
      simp only [f_X12_laysHills_b2]
      rw [if_pos trivial]
      rfl
/-- the class's answer and the model's -/
theorem meet_eq {M : Nat} {o : Nat → Nat} {Jc : Nat → Nat → Int32} {Qc : Nat → Prop} {one q0 i : Nat} (hg : g ∈ gAll) (ho : RO g F) (hO : TO Jc g F M o) (hi : i < M) (hI : HI g F Q h) (fx : ∀ x y, lwS g F x → aj g F x y → h x ≤ max (eE g (zR F) x) (h y)) (hl1 : lwS g F one) (hq0 : lwS g F q0) (hQ : ∀ q, lwS g F q → (Q q ↔ Qc q)) (hQ0 : Qc q0) (hE : ∀ q, Q q → eE g (zR F) q0 ≤ eE g (zR F) q) (h1 : met g F o Qc (i + 1) one q0) (h2 : ¬ met g F o Qc i one q0) : h one = eE g (zR F) (o i) := by
  obtain ⟨hM, j8, o1, o2, o3⟩ := hO
  have wl : ∀ k, k ≤ M → ∀ x, wt o k x = true → lwS g F x := fun k hk x hw => by
    obtain ⟨j, j1, rfl⟩ := wt_iff.mp hw
    exact (o1 j (by omega)).2
  have we : ∀ x, wt o (i + 1) x = true → eE g (zR F) x ≤ eE g (zR F) (o i) := fun x hw => by
    obtain ⟨j, j1, rfl⟩ := wt_iff.mp hw
    by_cases z : j = i
    · rw [z]; exact Int.le_refl _
    · exact (o2 j i (by omega) hi).1
  have lt : ∀ x, lwS g F x → eE g (zR F) x < eE g (zR F) (o i) → wt o i x = true := fun x hl hlt => by
    obtain ⟨j, j1, rfl⟩ := o3 x hl.1 hl.2
    refine wt_iff.mpr ⟨j, ?_, rfl⟩
    rcases Nat.lt_trichotomy j i with z | z | z
    · exact z
    · rw [z] at hlt; omega
    · have := (o2 i j z j1).1
      omega
  have A : h one ≤ eE g (zR F) (o i) := by
    obtain ⟨m1, m2, m3⟩ := h1
    have c := cn_y (Sw_y sQ_y) m3
    refine c (fun x => h x ≤ eE g (zR F) (o i)) ?_ (fun a b pa ⟨s1, s2, s3⟩ => ?_)
    · have := (hI.2.2 q0 ((hQ q0 hq0).mpr hQ0)).2
      have := we q0 m2
      show h q0 ≤ _
      omega
    · have lb := wl (i + 1) (by omega) b s2
      have eb := we b s2
      show h b ≤ _
      rcases s3 with z | ⟨z1, z2⟩
      · have := fx b a lb (aj_y z)
        have pa' : h a ≤ eE g (zR F) (o i) := pa
        omega
      · have := (hI.2.2 b ((hQ b lb).mpr z2)).2
        omega
  apply Classical.byContradiction
  intro hne
  have hlt : h one < eE g (zR F) (o i) := by omega
  have hbi := eE_b hg ho (o i)
  rcases hI.2.1 one hl1.1 with z | ⟨z1, z2, q, q1, q2⟩
  · omega
  · have lq := (hI.2.2 q q1).1
    have eq : eE g (zR F) q ≤ h one := by
      have := q2 (fun x => x = q ∨ eE g (zR F) q ≤ h one) (.inl rfl) (fun a b pa ⟨s1, s2, s3⟩ => by
        rcases pa with w | w
        · rw [w] at s1; exact .inr s1.2
        · exact .inr w)
      rcases this with w | w
      · rw [← w]; exact z2
      · exact w
    have e0 := hE q q1
    refine h2 ⟨lt one hl1 (by omega), lt q0 hq0 (by omega), ?_⟩
    have c1 : cn (Sw (wt o i) (sQ g F Qc)) q one := cn_m (fun a b ⟨⟨a1, a2⟩, ⟨b1, b2⟩, c⟩ => ⟨lt a a1 (by omega), lt b b1 (by omega), .inl c⟩) q2
    exact cn_s (cn_y (Sw_y sQ_y) c1) ⟨lt q lq (by omega), lt q0 hq0 (by omega), .inr ⟨(hQ q lq).mp q1, hQ0⟩⟩
end HILLS
end
