/-! the joined strip's levels -/
section JLEV
variable {σ : XS} {L : Nat → Nat → Int64} {I : Nat → Nat → Int32} {c : Nat → Nat}
def jP (c : Nat → Nat) (k : Nat) : Bool := decide (c k ≠ 0)
theorem lz0 {m : Nat} (h : m ≤ 4294967296000) : (lg_cmp (lN m) (0 : Int64) = 0) = (m = 0) := by
  rw [lg_cmp0, show (0 : Int64) = lN 0 from rfl, vL_eq (by omega) (by omega)]
theorem jP_f {k : Nat} (h : c k = 0) : fb_ct (jP c) (k + 1) = fb_ct (jP c) k := by
  rw [fb_ct_succ]; simp [jP, h]
theorem jP_t {k : Nat} (h : c k ≠ 0) : fb_ct (jP c) (k + 1) = fb_ct (jP c) k + 1 := by
  rw [fb_ct_succ]; simp [jP, h]
theorem jP_lt {k n : Nat} (hk : k < n) (h : c k ≠ 0) : fb_ct (jP c) k < fb_ct (jP c) n := by
  have := fb_ct_mono (jP c) (show k + 1 ≤ n by omega)
  rw [jP_t h] at this
  omega
theorem cjC (hS : Shp σ) (hL : ∀ k, k < 577 → L 181 k = lN (c k)) (hc : ∀ k, c k ≤ 4294967296000) : f_X11_countJoinedLevels (xw (xl σ L) I) 1 = some (nI (fb_ct (jP c) 577)) := by
  have K181 : σ.1 181 = (23, 577) := xw_K hS (by decide) (by decide) (by decide)
  have r12 : xgR (xw (xl σ L) I) 1 11 12 = some 181 := kR1_12 (σ := xl σ L) hS
  have l181 : xal (xw (xl σ L) I) 181 = some (nI 577) := kL181 (σ := xl σ L) hS
  unfold f_X11_countJoinedLevels
  refine xforE (fun j : Nat => (nI (fb_ct (jP c) j), nI j)) 577 rfl (fun j hj => ?_) ?_
  · simp only [f_X11_countJoinedLevels_b4, lz0, hc]
    rw [r12, Option.bind_some, l181, Option.bind_some, if_neg (by rw [nn_le (by omega) (by omega)]; omega), Option.bind_some, xl_aL K181 hj (by decide), Option.bind_some, hL j hj]
    simp only [lz0 (hc j)]
    by_cases h : c j = 0
    · rw [if_pos h, jP_f h, nI_succ]
    · rw [if_neg h, jP_t h, nI_succ, nI_succ]
  · simp only [f_X11_countJoinedLevels_b4]
    rw [r12, Option.bind_some, l181, Option.bind_some, if_pos (by decide)]
    rfl
theorem cjA (hS : Shp σ) (hL : ∀ k, k < 577 → L 181 k = lN (c k)) (hc : ∀ k, c k ≤ 4294967296000) {k : Nat} (hk : k < 577) (hp : c k ≠ 0) : f_X11_joinedLevelAt (xw (xl σ L) I) 1 (nI (fb_ct (jP c) k)) = some (nI k) := by
  have K181 : σ.1 181 = (23, 577) := xw_K hS (by decide) (by decide) (by decide)
  have r12 : xgR (xw (xl σ L) I) 1 11 12 = some 181 := kR1_12 (σ := xl σ L) hS
  have l181 : xal (xw (xl σ L) I) 181 = some (nI 577) := kL181 (σ := xl σ L) hS
  have hle := fb_ct_le (jP c) k
  unfold f_X11_joinedLevelAt
  refine xforE (fun j : Nat => (nI (fb_ct (jP c) j), nI j)) k rfl (fun j hj => ?_) ?_
  · simp only [f_X11_joinedLevelAt_b4]
    rw [r12, Option.bind_some, l181, Option.bind_some, if_neg (by rw [nn_le (by omega) (by omega)]; omega), Option.bind_some, xl_aL K181 (by omega) (by decide), Option.bind_some, hL j (by omega)]
    simp only [lz0 (hc j)]
    by_cases h : c j = 0
    · rw [if_pos h, jP_f h, nI_succ]
    · have h1 := jP_lt hj h
      have h2 := fb_ct_le (jP c) j
      rw [if_neg h, if_neg (by rw [nn_eq (by omega) (by omega)]; omega), jP_t h, nI_succ, nI_succ]
  · simp only [f_X11_joinedLevelAt_b4]
    rw [r12, Option.bind_some, l181, Option.bind_some, if_neg (by rw [nn_le (by omega) (by omega)]; omega), Option.bind_some, xl_aL K181 (by omega) (by decide), Option.bind_some, hL k hk]
    simp only [lz0 (hc k)]
    rw [if_neg hp, if_pos trivial]
    rfl
theorem cjN (hS : Shp σ) (hL : ∀ k, k < 577 → L 181 k = lN (c k)) (hc : ∀ k, c k ≤ 4294967296000) {x : Int32} (hx : ∀ i, i < fb_ct (jP c) 577 → x ≠ nI i) : f_X11_joinedLevelAt (xw (xl σ L) I) 1 x = some (-1) := by
  have K181 : σ.1 181 = (23, 577) := xw_K hS (by decide) (by decide) (by decide)
  have r12 : xgR (xw (xl σ L) I) 1 11 12 = some 181 := kR1_12 (σ := xl σ L) hS
  have l181 : xal (xw (xl σ L) I) 181 = some (nI 577) := kL181 (σ := xl σ L) hS
  unfold f_X11_joinedLevelAt
  refine xforE (fun j : Nat => (nI (fb_ct (jP c) j), nI j)) 577 rfl (fun j hj => ?_) ?_
  · simp only [f_X11_joinedLevelAt_b4]
    rw [r12, Option.bind_some, l181, Option.bind_some, if_neg (by rw [nn_le (by omega) (by omega)]; omega), Option.bind_some, xl_aL K181 (by omega) (by decide), Option.bind_some, hL j (by omega)]
    simp only [lz0 (hc j)]
    by_cases h : c j = 0
    · rw [if_pos h, jP_f h, nI_succ]
    · have h1 := hx _ (jP_lt hj h)
      rw [if_neg h, if_neg (fun z => h1 z.symm), jP_t h, nI_succ, nI_succ]
  · simp only [f_X11_joinedLevelAt_b4]
    rw [r12, Option.bind_some, l181, Option.bind_some, if_pos (by decide)]
    rfl
theorem mjN (hS : Shp σ) (hL : ∀ k, k < 601 → L 201 k = lN (c k)) (hc : ∀ k, c k ≤ 4294967296000) {x y : Int32} (hx : ∀ i, i < fb_ct (jP c) 601 → x ≠ nI i) : xloop (f_X12_joined_b178 (xw (xl σ L) I) 183 x y) ((0 : Int32), (0 : Int32)) = some ((if x = -1 then (nI (fb_ct (jP c) 601)).toInt64 else -100000), xw (xl σ L) I) := by
  have K201 : σ.1 201 = (23, 601) := xw_K hS (by decide) (by decide) (by decide)
  have r39 : xgR (xw (xl σ L) I) 183 12 39 = some 201 := kR183_39 (σ := xl σ L) hS
  refine xforE (fun j : Nat => (nI (fb_ct (jP c) j), nI j)) 601 rfl (fun j hj => ?_) ?_
  · simp only [f_X12_joined_b178]
    rw [if_neg (by rw [show (601 : Int32) = nI 601 from rfl, nn_le (by omega) (by omega)]; omega), r39, Option.bind_some, xl_aL K201 (by omega) (by decide), Option.bind_some, hL j (by omega)]
    simp only [lz0 (hc j)]
    by_cases h : c j = 0
    · rw [if_pos h, jP_f h, nI_succ]
    · have h1 := hx _ (jP_lt hj h)
      rw [if_neg h, if_neg (fun z => h1 z.symm), jP_t h, nI_succ, nI_succ]
  · simp only [f_X12_joined_b178]
    rw [if_pos (by decide)]
    by_cases h : x = -1
    · rw [if_pos h, if_pos h]; rfl
    · rw [if_neg h, if_neg h]; rfl
theorem mjA (hS : Shp σ) (hL : ∀ k, k < 601 → L 201 k = lN (c k)) (hc : ∀ k, c k ≤ 4294967296000) {y : Int32} {k : Nat} (hk : k < 601) (hp : c k ≠ 0) : xloop (f_X12_joined_b178 (xw (xl σ L) I) 183 (nI (fb_ct (jP c) k)) y) ((0 : Int32), (0 : Int32)) = some ((if y = 0 then (nI k - (300 : Int32)).toInt64 else if y = 1 then lN (c k) else -100000), xw (xl σ L) I) := by
  have K201 : σ.1 201 = (23, 601) := xw_K hS (by decide) (by decide) (by decide)
  have r39 : xgR (xw (xl σ L) I) 183 12 39 = some 201 := kR183_39 (σ := xl σ L) hS
  have hle := fb_ct_le (jP c) k
  refine xforE (fun j : Nat => (nI (fb_ct (jP c) j), nI j)) k rfl (fun j hj => ?_) ?_
  · simp only [f_X12_joined_b178]
    rw [if_neg (by rw [show (601 : Int32) = nI 601 from rfl, nn_le (by omega) (by omega)]; omega), r39, Option.bind_some, xl_aL K201 (by omega) (by decide), Option.bind_some, hL j (by omega)]
    simp only [lz0 (hc j)]
    by_cases h : c j = 0
    · rw [if_pos h, jP_f h, nI_succ]
    · have h1 := jP_lt hj h
      have h2 := fb_ct_le (jP c) j
      rw [if_neg h, if_neg (by rw [nn_eq (by omega) (by omega)]; omega), jP_t h, nI_succ, nI_succ]
  · simp only [f_X12_joined_b178]
    rw [if_neg (by rw [show (601 : Int32) = nI 601 from rfl, nn_le (by omega) (by omega)]; omega), r39, Option.bind_some, xl_aL K201 (by omega) (by decide), Option.bind_some, hL k hk]
    simp only [lz0 (hc k)]
    rw [if_neg hp, if_pos trivial]
    by_cases h : y = 0
    · rw [if_pos h, if_pos h]; rfl
    · rw [if_neg h, if_neg h]
      by_cases h1 : y = 1
      · rw [if_pos h1, if_pos h1, Option.bind_some, xl_aL K201 (by omega) (by decide), Option.bind_some, hL k hk]; rfl
      · rw [if_neg h1, if_neg h1]; rfl
theorem jP_shift {c c' : Nat → Nat} (h0 : ∀ e, e < 12 → c' e = 0) (h1 : ∀ e, c' (12 + e) = c e) : ∀ e, fb_ct (jP c') (12 + e) = fb_ct (jP c) e
  | 0 => by
    have : ∀ j, j ≤ 12 → fb_ct (jP c') j = 0 := by
      intro j
      induction j with
      | zero => intro _; rfl
      | succ j ih => intro h; rw [jP_f (h0 j (by omega)), ih (by omega)]
    exact this 12 (by omega)
  | e + 1 => by
    show fb_ct (jP c') ((12 + e) + 1) = _
    rw [fb_ct_succ, fb_ct_succ, jP_shift h0 h1 e]
    unfold jP
    rw [h1]
theorem jP_top {c' : Nat → Nat} (h0 : ∀ e, 589 ≤ e → c' e = 0) : fb_ct (jP c') 601 = fb_ct (jP c') 589 := by
  have : ∀ j, fb_ct (jP c') (589 + j) = fb_ct (jP c') 589 := by
    intro j
    induction j with
    | zero => rfl
    | succ j ih => rw [show 589 + (j + 1) = (589 + j) + 1 by omega, jP_f (h0 _ (by omega)), ih]
  exact this 12
end JLEV
/-- the model's copy of a held setup -/
theorem jcopy {σ : XS} {I : Nat → Nat → Int32} (hS : Shp σ) {i : Nat} (hi : i < 3) (x2 x3 : Int32) {z : Int64 × XS} {τ : XS} (h1 : f_X12_laysMany (xw σ (rcI I 199 0 194 (66 * i) 66)) 183 199 200 = some τ) (h2 : xloop (f_X12_joined_b76 183 x2 x3) ((0 : Int32), τ) = some z) : xloop (f_X12_joined_b29 183 (nI i) x2 x3) ((0 : Int32), xw σ I) = some z := by
  refine xforE (fun j : Nat => (nI j, xw σ (rcI I 199 0 194 (66 * i) j))) 66 (by simp only [rcI_0]; rfl) (fun j hj => ?_) ?_
  · simp only [f_X12_joined_b29]
    rw [if_neg (by rw [show (66 : Int32) = nI 66 from rfl, nn_le (by omega) (by omega)]; omega)]
    simp (disch := first | assumption | omega) only [Option.bind_some, Option.map_some, xw_gR, xw_gN, xw_al, xw_ck, xw_uI, xw_ur, xup_at, xur_at, if_true, if_false, reduceIte, and_true, true_and, and_false, false_and, not_true_eq_false, not_false_eq_true, Nat.reduceEqDiff, eq_self, Nat.reduceAdd, Nat.reduceMul, kC1, kG1, kP1, kR1_0, kR1_1, kR1_2, kR1_3, kR1_4, kR1_5, kR1_6, kR1_7, kR1_8, kR1_9, kR1_10, kR1_11, kR1_12, kR1_13, kC2, kG2, kP2, kR2_0, kR2_1, kC3, kG3, kP3, kR3_0, kR3_1, kR3_2, kR3_3, kL4, kA4, kS4, kL5, kA5, kS5, kL6, kA6, kS6, kL7, kA7, kS7, kC8, kG8, kP8, kR8_0, kR8_1, kL9, kA9, kS9, kL10, kA10, kS10, kC11, kG11, kP11, kR11_0, kR11_1, kR11_2, kR11_3, kL12, kA12, kS12, kL13, kA13, kS13, kL14, kA14, kS14, kL15, kA15, kS15, kC16, kG16, kP16, kR16_0, kR16_1, kL17, kA17, kS17, kL18, kA18, kS18, kC19, kG19, kP19, kR19_0, kL20, kL141, kL146, kA146, kS146, kL151, kA151, kS151, kL156, kA156, kS156, kC157, kG157, kP157, kR157_0, kR157_1, kL158, kA158, kS158, kL159, kA159, kS159, kC161, kG161, kP161, kR161_0, kR161_1, kL162, kA162, kS162, kL163, kA163, kS163, kC165, kG165, kP165, kR165_0, kR165_1, kR165_2, kR165_3, kL166, kA166, kS166, kL167, kA167, kS167, kL168, kA168, kS168, kL169, kA169, kS169, kC170, kG170, kP170, kR170_0, kR170_1, kR170_2, kL171, kA171, kS171, kL172, kA172, kS172, kL173, kA173, kS173, kC174, kG174, kP174, kR174_0, kR174_1, kR174_2, kR174_3, kR174_4, kL175, kA175, kS175, kL176, kA176, kS176, kL177, kA177, kS177, kL178, kA178, kS178, kL179, kC180, kG180, kP180, kL181, kL182, kA182, kS182, kC183, kG183, kP183, kR183_1, kR183_3, kR183_5, kR183_6, kR183_7, kR183_8, kR183_9, kR183_21, kR183_26, kR183_27, kR183_30, kR183_31, kR183_33, kR183_34, kR183_36, kR183_37, kR183_38, kR183_39, kR183_40, kR183_41, kR183_42, kR183_43, kR183_44, kL184, kA184, kS184, kL185, kA185, kS185, kL186, kA186, kS186, kL187, kA187, kS187, kL188, kA188, kS188, kL189, kL190, kL191, kA191, kS191, kL192, kA192, kS192, kL193, kA193, kS193, kL194, kA194, kS194, kL195, kA195, kS195, kL196, kA196, kS196, kL197, kA197, kS197, kL198, kA198, kS198, kL199, kA199, kS199, kL200, kA200, kS200, kL201, kL202, kA202, kS202, kL203, kA203, kS203, kL204, kA204, kS204, kL205, kL206, kA206, kS206, nn_add, nn_mul, show (66 : Int32) = nI 66 from rfl, rcI_src (show 194 ≠ 199 by decide)]
    have e := rcI_s (I := I) (d := 199) (x := 0) (s := 194) (y := 66 * i) (n := j)
    rw [Nat.zero_add] at e
    rw [e, nI_succ]
  · simp only [f_X12_joined_b29]
    rw [if_pos (by decide)]
    simp (disch := first | assumption | omega) only [Option.bind_some, Option.map_some, xw_gR, xw_gN, xw_al, xw_ck, xw_uI, xw_ur, xup_at, xur_at, if_true, if_false, reduceIte, and_true, true_and, and_false, false_and, not_true_eq_false, not_false_eq_true, Nat.reduceEqDiff, eq_self, Nat.reduceAdd, Nat.reduceMul, kC1, kG1, kP1, kR1_0, kR1_1, kR1_2, kR1_3, kR1_4, kR1_5, kR1_6, kR1_7, kR1_8, kR1_9, kR1_10, kR1_11, kR1_12, kR1_13, kC2, kG2, kP2, kR2_0, kR2_1, kC3, kG3, kP3, kR3_0, kR3_1, kR3_2, kR3_3, kL4, kA4, kS4, kL5, kA5, kS5, kL6, kA6, kS6, kL7, kA7, kS7, kC8, kG8, kP8, kR8_0, kR8_1, kL9, kA9, kS9, kL10, kA10, kS10, kC11, kG11, kP11, kR11_0, kR11_1, kR11_2, kR11_3, kL12, kA12, kS12, kL13, kA13, kS13, kL14, kA14, kS14, kL15, kA15, kS15, kC16, kG16, kP16, kR16_0, kR16_1, kL17, kA17, kS17, kL18, kA18, kS18, kC19, kG19, kP19, kR19_0, kL20, kL141, kL146, kA146, kS146, kL151, kA151, kS151, kL156, kA156, kS156, kC157, kG157, kP157, kR157_0, kR157_1, kL158, kA158, kS158, kL159, kA159, kS159, kC161, kG161, kP161, kR161_0, kR161_1, kL162, kA162, kS162, kL163, kA163, kS163, kC165, kG165, kP165, kR165_0, kR165_1, kR165_2, kR165_3, kL166, kA166, kS166, kL167, kA167, kS167, kL168, kA168, kS168, kL169, kA169, kS169, kC170, kG170, kP170, kR170_0, kR170_1, kR170_2, kL171, kA171, kS171, kL172, kA172, kS172, kL173, kA173, kS173, kC174, kG174, kP174, kR174_0, kR174_1, kR174_2, kR174_3, kR174_4, kL175, kA175, kS175, kL176, kA176, kS176, kL177, kA177, kS177, kL178, kA178, kS178, kL179, kC180, kG180, kP180, kL181, kL182, kA182, kS182, kC183, kG183, kP183, kR183_1, kR183_3, kR183_5, kR183_6, kR183_7, kR183_8, kR183_9, kR183_21, kR183_26, kR183_27, kR183_30, kR183_31, kR183_33, kR183_34, kR183_36, kR183_37, kR183_38, kR183_39, kR183_40, kR183_41, kR183_42, kR183_43, kR183_44, kL184, kA184, kS184, kL185, kA185, kS185, kL186, kA186, kS186, kL187, kA187, kS187, kL188, kA188, kS188, kL189, kL190, kL191, kA191, kS191, kL192, kA192, kS192, kL193, kA193, kS193, kL194, kA194, kS194, kL195, kA195, kS195, kL196, kA196, kS196, kL197, kA197, kS197, kL198, kA198, kS198, kL199, kA199, kS199, kL200, kA200, kS200, kL201, kL202, kA202, kS202, kL203, kA203, kS203, kL204, kA204, kS204, kL205, kL206, kA206, kS206, h1]
    rw [h2]
    rfl
theorem op_joined : Op_joined INV := by
  intro n σ hn ⟨g, gT, gP, st, H⟩ a b c
  have hS := H.shp
  by_cases hno : a < 0 ∨ 2 < a
  · refine ⟨-100000, σ, σ, ?_, ?_, INV_i H.nop⟩
    · show f_X11_joined (xw σ (xI σ)) 1 a b c = _
      unfold f_X11_joined
      simp (disch := first | assumption | omega) only [Option.bind_some, Option.map_some, xw_gR, xw_gN, xw_al, xw_ck, xw_uI, xw_ur, xup_at, xur_at, if_true, if_false, reduceIte, and_true, true_and, and_false, false_and, not_true_eq_false, not_false_eq_true, Nat.reduceEqDiff, eq_self, Nat.reduceAdd, Nat.reduceMul, kC1, kG1, kP1, kR1_0, kR1_1, kR1_2, kR1_3, kR1_4, kR1_5, kR1_6, kR1_7, kR1_8, kR1_9, kR1_10, kR1_11, kR1_12, kR1_13, kC2, kG2, kP2, kR2_0, kR2_1, kC3, kG3, kP3, kR3_0, kR3_1, kR3_2, kR3_3, kL4, kA4, kS4, kL5, kA5, kS5, kL6, kA6, kS6, kL7, kA7, kS7, kC8, kG8, kP8, kR8_0, kR8_1, kL9, kA9, kS9, kL10, kA10, kS10, kC11, kG11, kP11, kR11_0, kR11_1, kR11_2, kR11_3, kL12, kA12, kS12, kL13, kA13, kS13, kL14, kA14, kS14, kL15, kA15, kS15, kC16, kG16, kP16, kR16_0, kR16_1, kL17, kA17, kS17, kL18, kA18, kS18, kC19, kG19, kP19, kR19_0, kL20, kL141, kL146, kA146, kS146, kL151, kA151, kS151, kL156, kA156, kS156, kC157, kG157, kP157, kR157_0, kR157_1, kL158, kA158, kS158, kL159, kA159, kS159, kC161, kG161, kP161, kR161_0, kR161_1, kL162, kA162, kS162, kL163, kA163, kS163, kC165, kG165, kP165, kR165_0, kR165_1, kR165_2, kR165_3, kL166, kA166, kS166, kL167, kA167, kS167, kL168, kA168, kS168, kL169, kA169, kS169, kC170, kG170, kP170, kR170_0, kR170_1, kR170_2, kL171, kA171, kS171, kL172, kA172, kS172, kL173, kA173, kS173, kC174, kG174, kP174, kR174_0, kR174_1, kR174_2, kR174_3, kR174_4, kL175, kA175, kS175, kL176, kA176, kS176, kL177, kA177, kS177, kL178, kA178, kS178, kL179, kC180, kG180, kP180, kL181, kL182, kA182, kS182, kC183, kG183, kP183, kR183_1, kR183_3, kR183_5, kR183_6, kR183_7, kR183_8, kR183_9, kR183_21, kR183_26, kR183_27, kR183_30, kR183_31, kR183_33, kR183_34, kR183_36, kR183_37, kR183_38, kR183_39, kR183_40, kR183_41, kR183_42, kR183_43, kR183_44, kL184, kA184, kS184, kL185, kA185, kS185, kL186, kA186, kS186, kL187, kA187, kS187, kL188, kA188, kS188, kL189, kL190, kL191, kA191, kS191, kL192, kA192, kS192, kL193, kA193, kS193, kL194, kA194, kS194, kL195, kA195, kS195, kL196, kA196, kS196, kL197, kA197, kS197, kL198, kA198, kS198, kL199, kA199, kS199, kL200, kA200, kS200, kL201, kL202, kA202, kS202, kL203, kA203, kS203, kL204, kA204, kS204, kL205, kL206, kA206, kS206, slotAt_no hS hno]
      rfl
    · show f_X12_joined (xw σ (xI σ)) 183 a b c = _
      unfold f_X12_joined
      rw [in_02, if_pos hno]
      rfl
  obtain ⟨i, hi3, rfl⟩ : ∃ i, i < 3 ∧ a = nI i := by
    obtain ⟨i, hi, rfl⟩ := nn_of (fun z => hno (.inl z))
    refine ⟨i, ?_, rfl⟩
    have : ¬ (nI 2 < nI i) := fun z => hno (.inr z)
    rw [nn_lt (by omega) hi] at this
    omega
  have hz : (142 + 5 * i = 0) = False := eq_false (by omega)
  obtain ⟨f, cc, s1, s2, s3, s4, s5, s6, s7⟩ := H.slt i hi3
  rcases (show f = 0 ∨ f = 1 by omega) with rfl | rfl
  · refine ⟨-100000, σ, σ, ?_, ?_, INV_i H.nop⟩
    · show f_X11_joined (xw σ (xI σ)) 1 (nI i) b c = _
      unfold f_X11_joined
      simp (disch := first | assumption | omega) only [Option.bind_some, Option.map_some, xw_gR, xw_gN, xw_al, xw_ck, xw_uI, xw_ur, xup_at, xur_at, if_true, if_false, reduceIte, and_true, true_and, and_false, false_and, not_true_eq_false, not_false_eq_true, Nat.reduceEqDiff, eq_self, Nat.reduceAdd, Nat.reduceMul, kC1, kG1, kP1, kR1_0, kR1_1, kR1_2, kR1_3, kR1_4, kR1_5, kR1_6, kR1_7, kR1_8, kR1_9, kR1_10, kR1_11, kR1_12, kR1_13, kC2, kG2, kP2, kR2_0, kR2_1, kC3, kG3, kP3, kR3_0, kR3_1, kR3_2, kR3_3, kL4, kA4, kS4, kL5, kA5, kS5, kL6, kA6, kS6, kL7, kA7, kS7, kC8, kG8, kP8, kR8_0, kR8_1, kL9, kA9, kS9, kL10, kA10, kS10, kC11, kG11, kP11, kR11_0, kR11_1, kR11_2, kR11_3, kL12, kA12, kS12, kL13, kA13, kS13, kL14, kA14, kS14, kL15, kA15, kS15, kC16, kG16, kP16, kR16_0, kR16_1, kL17, kA17, kS17, kL18, kA18, kS18, kC19, kG19, kP19, kR19_0, kL20, kL141, kL146, kA146, kS146, kL151, kA151, kS151, kL156, kA156, kS156, kC157, kG157, kP157, kR157_0, kR157_1, kL158, kA158, kS158, kL159, kA159, kS159, kC161, kG161, kP161, kR161_0, kR161_1, kL162, kA162, kS162, kL163, kA163, kS163, kC165, kG165, kP165, kR165_0, kR165_1, kR165_2, kR165_3, kL166, kA166, kS166, kL167, kA167, kS167, kL168, kA168, kS168, kL169, kA169, kS169, kC170, kG170, kP170, kR170_0, kR170_1, kR170_2, kL171, kA171, kS171, kL172, kA172, kS172, kL173, kA173, kS173, kC174, kG174, kP174, kR174_0, kR174_1, kR174_2, kR174_3, kR174_4, kL175, kA175, kS175, kL176, kA176, kS176, kL177, kA177, kS177, kL178, kA178, kS178, kL179, kC180, kG180, kP180, kL181, kL182, kA182, kS182, kC183, kG183, kP183, kR183_1, kR183_3, kR183_5, kR183_6, kR183_7, kR183_8, kR183_9, kR183_21, kR183_26, kR183_27, kR183_30, kR183_31, kR183_33, kR183_34, kR183_36, kR183_37, kR183_38, kR183_39, kR183_40, kR183_41, kR183_42, kR183_43, kR183_44, kL184, kA184, kS184, kL185, kA185, kS185, kL186, kA186, kS186, kL187, kA187, kS187, kL188, kA188, kS188, kL189, kL190, kL191, kA191, kS191, kL192, kA192, kS192, kL193, kA193, kS193, kL194, kA194, kS194, kL195, kA195, kS195, kL196, kA196, kS196, kL197, kA197, kS197, kL198, kA198, kS198, kL199, kA199, kS199, kL200, kA200, kS200, kL201, kL202, kA202, kS202, kL203, kA203, kS203, kL204, kA204, kS204, kL205, kL206, kA206, kS206, slotAt_ok hS hi3, hz, slG hS hi3, s3, show (nI 0 = 0) = True from eq_true rfl]
      rfl
    · show f_X12_joined (xw σ (xI σ)) 183 (nI i) b c = _
      unfold f_X12_joined
      rw [in_02, if_neg hno]
      simp (disch := first | assumption | omega) only [Option.bind_some, Option.map_some, xw_gR, xw_gN, xw_al, xw_ck, xw_uI, xw_ur, xup_at, xur_at, if_true, if_false, reduceIte, and_true, true_and, and_false, false_and, not_true_eq_false, not_false_eq_true, Nat.reduceEqDiff, eq_self, Nat.reduceAdd, Nat.reduceMul, kC1, kG1, kP1, kR1_0, kR1_1, kR1_2, kR1_3, kR1_4, kR1_5, kR1_6, kR1_7, kR1_8, kR1_9, kR1_10, kR1_11, kR1_12, kR1_13, kC2, kG2, kP2, kR2_0, kR2_1, kC3, kG3, kP3, kR3_0, kR3_1, kR3_2, kR3_3, kL4, kA4, kS4, kL5, kA5, kS5, kL6, kA6, kS6, kL7, kA7, kS7, kC8, kG8, kP8, kR8_0, kR8_1, kL9, kA9, kS9, kL10, kA10, kS10, kC11, kG11, kP11, kR11_0, kR11_1, kR11_2, kR11_3, kL12, kA12, kS12, kL13, kA13, kS13, kL14, kA14, kS14, kL15, kA15, kS15, kC16, kG16, kP16, kR16_0, kR16_1, kL17, kA17, kS17, kL18, kA18, kS18, kC19, kG19, kP19, kR19_0, kL20, kL141, kL146, kA146, kS146, kL151, kA151, kS151, kL156, kA156, kS156, kC157, kG157, kP157, kR157_0, kR157_1, kL158, kA158, kS158, kL159, kA159, kS159, kC161, kG161, kP161, kR161_0, kR161_1, kL162, kA162, kS162, kL163, kA163, kS163, kC165, kG165, kP165, kR165_0, kR165_1, kR165_2, kR165_3, kL166, kA166, kS166, kL167, kA167, kS167, kL168, kA168, kS168, kL169, kA169, kS169, kC170, kG170, kP170, kR170_0, kR170_1, kR170_2, kL171, kA171, kS171, kL172, kA172, kS172, kL173, kA173, kS173, kC174, kG174, kP174, kR174_0, kR174_1, kR174_2, kR174_3, kR174_4, kL175, kA175, kS175, kL176, kA176, kS176, kL177, kA177, kS177, kL178, kA178, kS178, kL179, kC180, kG180, kP180, kL181, kL182, kA182, kS182, kC183, kG183, kP183, kR183_1, kR183_3, kR183_5, kR183_6, kR183_7, kR183_8, kR183_9, kR183_21, kR183_26, kR183_27, kR183_30, kR183_31, kR183_33, kR183_34, kR183_36, kR183_37, kR183_38, kR183_39, kR183_40, kR183_41, kR183_42, kR183_43, kR183_44, kL184, kA184, kS184, kL185, kA185, kS185, kL186, kA186, kS186, kL187, kA187, kS187, kL188, kA188, kS188, kL189, kL190, kL191, kA191, kS191, kL192, kA192, kS192, kL193, kA193, kS193, kL194, kA194, kS194, kL195, kA195, kS195, kL196, kA196, kS196, kL197, kA197, kS197, kL198, kA198, kS198, kL199, kA199, kS199, kL200, kA200, kS200, kL201, kL202, kA202, kS202, kL203, kA203, kS203, kL204, kA204, kS204, kL205, kL206, kA206, kS206, one0, s4, show (nI 0 = 0) = True from eq_true rfl]
      rfl
  obtain ⟨τ, e1, H1, -, L1, u1, -⟩ := levelsNow_ok (by omega) H
  have hf1 : xI τ (142 + 5 * i) 2 = nI 1 := by rw [u1 _ _ (by omega)]; exact s3
  obtain ⟨υ, e2, H2, W2, u2, ho⟩ := heldWays_ok H1 hi3 hf1
  have hS2 := H2.shp
  have hg := H2.grd.1
  have r191 : xI υ 191 = xI τ 191 := by funext k; exact u2 191 k (by omega)
  have r194 : ∀ k, xI υ 194 k = xI τ 194 k := fun k => u2 194 k (by omega)
  obtain ⟨F, hF⟩ : ∃ F, F = fun k => xI τ 194 (66 * i + k) := ⟨_, rfl⟩
  rw [← hF] at W2 ho
  have ho1 : RO g (xI τ 191) := H1.now.2.1
  obtain ⟨m, hm⟩ : ∃ m : Nat → Nat, m = fun k : Nat => lC g (xI τ 191) ((k : Int) - 144) := ⟨_, rfl⟩
  obtain ⟨t, ht⟩ : ∃ t : Nat → Nat, t = fun k : Nat => lC g F ((k : Int) - 144) := ⟨_, rfl⟩
  have hmb : ∀ k, m k ≤ 65536 := fun k => by rw [hm]; exact lC_b hg _ _
  have htb : ∀ k, t k ≤ 65536 := fun k => by rw [ht]; exact lC_b hg _ _
  have KW : υ.1 (146 + 5 * i) = (20, 289) := by rw [xw_K hS2 (by omega) (by omega) (by omega), (slK i hi3).2.1]
  have e3 := joinWays_l (σ := υ) (L := xL υ) (I := xI υ) hS2 KW hmb htb (fun k hk => by rw [u2 166 k (by omega), L1.1 k hk, hm]) (fun k hk => by rw [W2 k hk, ht])
  obtain ⟨C, hC⟩ : ∃ C : Nat → Nat, C = cv m t 289 289 := ⟨_, rfl⟩
  rw [← hC] at e3
  have hCb : ∀ k, C k ≤ 4294967296000 := fun k => by
    rw [hC]; have := cv_b hmb htb 289 289 k; omega
  obtain ⟨LL, hLL⟩ : ∃ LL, LL = lgL (xL υ) 181 577 C := ⟨_, rfl⟩
  rw [← hLL] at e3
  have hL1 : ∀ k, k < 577 → LL 181 k = lN (C k) := fun k hk => by rw [hLL]; exact lgL_in hk
  have H3 : IV n (xw (xl υ LL) (xI υ)) g gT gP st := H2.longs (fun k => by rw [hLL]; exact lgL_out (by decide))
  obtain ⟨I', e4, H4, K4, u4⟩ := knows_ok H3
  have A : f_X11_joined σ 1 (nI i) b c = f_X11_joined_j30 (xw (xl υ LL) (xI υ)) 1 b c := by
    show f_X11_joined (xw σ (xI σ)) 1 (nI i) b c = _
    unfold f_X11_joined
    have j1 : f_X11_joinWays σ 1 (142 + 5 * i) = some (xw (xl υ LL) (xI υ)) := by
      unfold f_X11_joinWays f_X11_joinWays_j4
      rw [xck_ok (sT1 hS), Option.bind_some, e1, Option.bind_some]
      dsimp only
      rw [xnz_ok (by decide), Option.bind_some, show xgR τ 165 4 0 = some 166 from kR165_0 H1.shp, Option.bind_some, xck_ok (sT1 H1.shp), Option.bind_some, e2, Option.bind_some]
      dsimp only
      rw [xnz_ok (by omega), Option.bind_some]
      exact e3
    rw [xw_ck, kC1 hS, Option.bind_some, slotAt_ok hS hi3, Option.bind_some, if_neg (by omega), slG hS hi3, Option.bind_some, s3, if_neg (by decide), Option.bind_some]
    show ((f_X11_joinWays σ 1 (142 + 5 * i)).bind _) = _
    rw [j1, Option.bind_some]
  obtain ⟨J, hJ⟩ : ∃ J, J = rcI I' 199 0 194 (66 * i) 66 := ⟨_, rfl⟩
  have uJ : ∀ a k, a ≠ 199 → J a k = I' a k := fun a k h => by rw [hJ, rcI_out (by omega)]
  have v4 : ∀ a k, (a < 183 ∨ 206 < a ∨ a = 184 ∨ a = 191 ∨ (193 ≤ a ∧ a ≤ 195) ∨ (a = 183 ∧ (k = 2 ∨ (16 ≤ k ∧ k ≤ 20) ∨ k = 28 ∨ k = 29))) → I' a k = xI υ a k := fun a k h => u4 a k (by omega) (by omega)
  have f199 : ∀ k, k < 66 → J 199 k = F k := fun k hk => by
    have := rcI_in (I := I') (d := 199) (x := 0) (s := 194) (y := 66 * i) (n := 66) hk
    rw [Nat.zero_add] at this
    rw [hJ, this, v4 _ _ (by omega), r194, hF]
  have f191 : ∀ k, I' 191 k = xI τ 191 k := fun k => by rw [v4 _ _ (by omega), r191]
  have hoF : RO g (J 199) := RO_congr hg f199 ho
  have hGJ : GRD J g := GRD_c (fun a k z => uJ a k (by unfold sGRD at z; omega)) H4.grd
  have l1 := laysMany_ok (σ := xl υ LL) (I := J) (F := J 199) hS2 hGJ hoF rfl
  obtain ⟨Q, hQ⟩ : ∃ Q, Q = wyI J 200 g (J 199) 150 301 (gSt g) := ⟨_, rfl⟩
  rw [← hQ] at l1
  have uQ : ∀ a k, a ≠ 200 → Q a k = J a k := fun a k h => by rw [hQ, wyI_out h]
  obtain ⟨m', hm'⟩ : ∃ m' : Nat → Nat, m' = fun k : Nat => lC g (xI τ 191) ((k : Int) - 150) := ⟨_, rfl⟩
  obtain ⟨t', ht'⟩ : ∃ t' : Nat → Nat, t' = fun k : Nat => lC g F ((k : Int) - 150) := ⟨_, rfl⟩
  have cF := (ct_congr hg (F := F) (F' := J 199) (fun k hk => f199 k (by omega))).2.2.2.1
  have cM := (ct_congr hg (F := xI τ 191) (F' := I' 191) (fun k hk => f191 k)).2.2.2.1
  have hmb' : ∀ k, m' k ≤ 65536 := fun k => by rw [hm']; exact lC_b hg _ _
  have htb' : ∀ k, t' k ≤ 65536 := fun k => by rw [ht']; exact lC_b hg _ _
  have q1 : ∀ k, k < 301 → Q 197 k = nI (m' k) := fun k hk => by
    rw [uQ _ _ (by omega), uJ _ _ (by omega), K4.2.1 k hk, hm', cM]
  have q2 : ∀ k, k < 301 → Q 200 k = nI (t' k) := fun k hk => by
    rw [hQ]; unfold wyI; rw [if_pos ⟨rfl, hk⟩, ht', ← cF]; rfl
  have m0 : ∀ a, a < 6 ∨ 295 ≤ a → m' a = 0 := fun a h => by rw [hm']; exact lC_big hg ho1 (e := (a : Int) - 150) (by omega)
  have t0 : ∀ a, a < 6 ∨ 295 ≤ a → t' a = 0 := fun a h => by rw [ht']; exact lC_big hg ho (e := (a : Int) - 150) (by omega)
  have m6 : ∀ a, a < 289 → m' (6 + a) = m a := fun a h => by rw [hm', hm]; dsimp only; congr 1; omega
  have t6 : ∀ a, a < 289 → t' (6 + a) = t a := fun a h => by rw [ht', ht]; dsimp only; congr 1; omega
  obtain ⟨C', hC'⟩ : ∃ C' : Nat → Nat, C' = cv m' t' 301 301 := ⟨_, rfl⟩
  have c1 : ∀ e, C' (12 + e) = C e := fun e => by rw [hC', hC]; exact cv_shift m6 m0 t6 t0
  have c2 : ∀ e, e < 12 → C' e = 0 := fun e h => by rw [hC']; exact cv_out (m := m) (t := t) m0 t0 (.inl h)
  have c3 : ∀ e, 589 ≤ e → C' e = 0 := fun e h => by rw [hC']; exact cv_out (m := m) (t := t) m0 t0 (.inr h)
  have cb : ∀ k, C' k ≤ 4294967296000 := fun k => by
    rw [hC']; have := cv_b hmb' htb' 301 301 k; omega
  obtain ⟨MM, hMM⟩ : ∃ MM, MM = lgL LL 201 601 C' := ⟨_, rfl⟩
  have hL2 : ∀ k, k < 601 → MM 201 k = lN (C' k) := fun k hk => by rw [hMM]; exact lgL_in hk
  have B : ∀ z, xloop (f_X12_joined_b178 (xw (xl υ MM) Q) 183 b c) ((0 : Int32), (0 : Int32)) = some z → f_X12_joined (xw (xl υ LL) (xI υ)) 183 (nI i) b c = some z := by
    intro z hz
    rw [hMM, hC'] at hz
    have p := prod12 (σ := υ) (L := LL) (I := Q) hS2 hmb' htb' q1 q2 b c hz
    have s4' : xI υ 195 i = nI 1 := by rw [u2 _ _ (by omega), u1 _ _ (by omega)]; exact s4
    rw [hJ] at l1
    have k := jcopy (σ := xl υ LL) (I := I') hS2 hi3 b c l1 p
    unfold f_X12_joined
    rw [in_02, if_neg hno, Option.bind_some, if_neg (by decide), show xgR (xw (xl υ LL) (xI υ)) 183 12 31 = some 195 from kR183_31 (σ := xl υ LL) hS2, Option.bind_some, show xaI (xw (xl υ LL) (xI υ)) 22 195 (nI i) = some (xI υ 195 i) from kA195 (σ := xl υ LL) hS2 (by omega), Option.bind_some, s4', if_neg (by decide), xck_ok (sT183 H3.shp), Option.bind_some, e4, Option.bind_some]
    exact k
  have HE : IV n (xw (xl υ MM) Q) g gT gP st := by
    have h5 : IV n (xw (xl υ MM) I') g gT gP st := (IV.longs (L := MM) H4 (fun k => by rw [hMM]; exact lgL_out (by decide)))
    refine h5.model (I' := Q) (fun a k h => ?_) (KNW_c hg (I := I') (fun a k q => ?_) h5.knw)
    · rw [uQ a k (by omega), uJ a k (by omega)]; rfl
    · rw [uQ a k (by unfold sKNW at q; omega), uJ a k (by unfold sKNW at q; omega)]
  have hN := jP_top c3
  rw [show 589 = 12 + 577 from rfl, jP_shift c2 c1] at hN
  by_cases hb : ∃ j, j < fb_ct (jP C) 577 ∧ b = nI j
  · obtain ⟨j, hj, rfl⟩ := hb
    obtain ⟨k, hk, hp, hki⟩ := fb_ct_kth hj
    have hle := fb_ct_le (jP C) 577
    have hp' : C k ≠ 0 := by unfold jP at hp; simpa using hp
    have hne : ¬ (nI j = (-1 : Int32)) := fun z => by
      have := congrArg Int32.toInt z
      rw [nI_toInt (by omega)] at this
      have e : (-1 : Int32).toInt = -1 := rfl
      omega
    have a1 := cjA (σ := υ) (L := LL) (I := xI υ) hS2 hL1 hCb hk hp'
    have a2 := mjA (σ := υ) (L := MM) (I := Q) (y := c) hS2 hL2 cb (k := 12 + k) (by omega) (by rw [c1]; exact hp')
    rw [jP_shift c2 c1, hki, c1] at a2
    rw [hki] at a1
    have e300 : nI (12 + k) - (300 : Int32) = nI k - (288 : Int32) := by
      rw [iI_n, iI_n, show (300 : Int32) = iI 300 from rfl, show (288 : Int32) = iI 288 from rfl, iI_sub, iI_sub]; congr 1; omega
    rw [e300] at a2
    refine ⟨_, xw (xl υ LL) (xI υ), _, ?_, B _ a2, INV_i HE.nop⟩
    rw [A]
    unfold f_X11_joined_j30
    rw [if_neg hne, xck_ok (sT1 H3.shp), Option.bind_some, a1, Option.bind_some, if_neg (nI_pos (by omega)), show xgR (xw (xl υ LL) (xI υ)) 1 11 12 = some 181 from kR1_12 (σ := xl υ LL) hS2, Option.bind_some, show xal (xw (xl υ LL) (xI υ)) 181 = some (nI 577) from kL181 (σ := xl υ LL) hS2, Option.bind_some, if_pos (by rw [nn_lt (by omega) (by omega)]; exact hk), Option.bind_some, xl_aL (xw_K hS2 (by decide) (by decide) (by decide)) hk (by decide), Option.bind_some, hL1 k hk]
    by_cases h : c = 0
    · rw [if_pos h, if_pos h]
    · rw [if_neg h, if_neg h]
      by_cases h1 : c = 1
      · rw [if_pos h1, if_pos h1]
      · rw [if_neg h1, if_neg h1]
  · have hb1 : ∀ j, j < fb_ct (jP C) 577 → b ≠ nI j := fun j h1 h2 => hb ⟨j, h1, h2⟩
    have a2 := mjN (σ := υ) (L := MM) (I := Q) (x := b) (y := c) hS2 hL2 cb (by rw [hN]; exact hb1)
    rw [hN] at a2
    refine ⟨_, xw (xl υ LL) (xI υ), _, ?_, B _ a2, INV_i HE.nop⟩
    rw [A]
    unfold f_X11_joined_j30
    by_cases h : b = -1
    · rw [if_pos h, if_pos h, xck_ok (sT1 H3.shp), Option.bind_some, cjC hS2 hL1 hCb]
      rfl
    · rw [if_neg h, if_neg h, xck_ok (sT1 H3.shp), Option.bind_some, cjN hS2 hL1 hCb hb1, Option.bind_some, if_pos (by decide)]
