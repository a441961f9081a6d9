/-! longs as natural numbers -/
theorem vL_ti {a : Nat} (h : a < 9223372036854775808) : (lN a).toInt = (a : Int) := pf_lI h
theorem vL_of {x : Int64} {a : Nat} (h : x.toInt = (a : Int)) (ha : a < 9223372036854775808) : x = lN a := Int64.toInt_inj.mp (by rw [h, vL_ti ha])
theorem vL_add {a b : Nat} (h : a + b < 9223372036854775808) : lN a + lN b = lN (a + b) := by
  refine vL_of ?_ h
  rw [fb_addL (by rw [vL_ti (by omega), vL_ti (by omega)]; omega) (by rw [vL_ti (by omega), vL_ti (by omega)]; omega), vL_ti (by omega), vL_ti (by omega)]
  rfl
theorem vL_mul {a b : Nat} (ha : a < 9223372036854775808) (hb : b < 9223372036854775808) (h : a * b < 9223372036854775808) : lN a * lN b = lN (a * b) := by
  refine vL_of ?_ h
  have e : (a : Int) * (b : Int) = ((a * b : Nat) : Int) := by simp
  have h2 : ((a * b : Nat) : Int) < 9223372036854775808 := by omega
  have h3 : (0 : Int) ≤ ((a * b : Nat) : Int) := Int.natCast_nonneg _
  rw [fb_mulL (by rw [vL_ti ha, vL_ti hb, e]; omega) (by rw [vL_ti ha, vL_ti hb, e]; omega), vL_ti ha, vL_ti hb, e]
theorem vL_div {a b : Nat} (ha : a < 9223372036854775808) (hb : b < 9223372036854775808) : lN a / lN b = lN (a / b) := by
  have h2 : a / b ≤ a := Nat.div_le_self a b
  refine vL_of ?_ (by omega)
  rw [Int64.toInt_div, vL_ti ha, vL_ti hb, Int.tdiv_eq_ediv_of_nonneg (by omega)]
  have h1 : ((a : Int) / (b : Int)) = ((a / b : Nat) : Int) := by simp
  rw [h1]
  clear h1
  generalize a / b = q at *
  exact Int.bmod_eq_of_le (by omega) (by omega)
theorem vL_sub {a b : Nat} (h : b ≤ a) (ha : a < 9223372036854775808) : lN a - lN b = lN (a - b) := by
  refine vL_of ?_ (by omega)
  rw [fb_subL (by rw [vL_ti (by omega), vL_ti (by omega)]; omega) (by rw [vL_ti (by omega), vL_ti (by omega)]; omega), vL_ti (by omega), vL_ti (by omega)]
  omega
theorem vL_rem {a b : Nat} (ha : a < 9223372036854775808) (hb : b < 9223372036854775808) : lN a - lN a / lN b * lN b = lN (a % b) := by
  have h1 : a / b * b ≤ a := Nat.div_mul_le_self a b
  have h2 : a / b ≤ a := Nat.div_le_self a b
  rw [vL_div ha hb, vL_mul (by omega) hb (by omega), vL_sub h1 ha]
  congr 1
  have := Nat.div_add_mod a b
  rw [Nat.mul_comm] at this
  omega
theorem vL_i32 {a : Nat} (h : a < 2147483648) : (lN a).toInt32 = nI a := by
  apply Int32.toInt_inj.mp
  rw [Int64.toInt_toInt32, vL_ti (by omega), nI_toInt h]
  exact Int.bmod_eq_of_le (by omega) (by omega)
theorem nI_i64 {a : Nat} (h : a < 2147483648) : (nI a).toInt64 = lN a := by
  refine vL_of ?_ (by omega)
  rw [Int32.toInt_toInt64, nI_toInt h]
theorem vL_eq {a b : Nat} (ha : a < 9223372036854775808) (hb : b < 9223372036854775808) : (lN a = lN b) = (a = b) := by
  rw [fa_eq64, vL_ti ha, vL_ti hb]; exact propext Int.ofNat_inj
theorem lg_cmp0 {x y : Int64} : (lg_cmp x y = 0) = (x = y) := by
  unfold lg_cmp
  by_cases h1 : x > y
  · rw [if_pos h1]
    have : x ≠ y := fun z => by subst z; exact absurd h1 (by rw [gt_iff_lt, fa_lt64]; omega)
    simp [this]
  · rw [if_neg h1]
    by_cases h2 : x = y
    · simp [h2]
    · rw [if_neg h2]; simp [h2]
/-! glass -/
def nxt (a : Nat) : Nat := (a * 1103515245 + 12345) % 2147483648
theorem nxt_b (a : Nat) : nxt a < 2147483648 := Nat.mod_lt _ (by decide)
theorem nextLot_ok {a : Nat} (h : a < 2147483648) : f_X11_nextLot (lN a) = some (lN (nxt a)) := by
  unfold f_X11_nextLot
  rw [show (1103515245 : Int64) = lN 1103515245 from rfl, show (12345 : Int64) = lN 12345 from rfl, show (2147483648 : Int64) = lN 2147483648 from rfl, vL_mul (by omega) (by omega) (by omega), vL_add (by omega), vL_rem (by omega) (by omega)]
  rfl
theorem nextOf_ok {a : Nat} (h : a < 2147483648) : f_X12_nextOf (lN a) = some (lN (nxt a)) := nextLot_ok h
theorem lotOf_ok {a b : Nat} (h : a < 2147483648) (hb : 0 < b) (hb2 : b < 2147483648) : f_X11_lotOf (lN a) (nI b) = some (nI (a / 65536 % b)) := by
  unfold f_X11_lotOf
  rw [if_neg (nI_nle hb (by omega)), nI_i64 hb2]
  unfold xdZ
  rw [if_neg (by rw [show (0 : Int64) = lN 0 from rfl, vL_eq (by omega) (by omega)]; omega), Option.bind_some, show (65536 : Int64) = lN 65536 from rfl, vL_div (by omega) (by omega), vL_rem (by omega) (by omega), vL_i32 (Nat.lt_trans (Nat.mod_lt _ hb) hb2)]
def gLx (g : GD) (x : Nat) : Nat → Nat
  | 0 => x
  | t + 1 => if gTo g t = none then gLx g x t else nxt (gLx g x t)
def gLv (g : GD) (x : Nat) (t : Nat) : Int32 := if gLx g x (t + 1) / 65536 % 2 = 1 then 1 else -1
def glI (g : GD) (x : Nat) (I : Nat → Nat → Int32) (d t : Nat) : Nat → Nat → Int32 := fun c k => if c = d ∧ k < t ∧ gTo g k ≠ none then gLv g x k else I c k
theorem glI_0 {g : GD} {x : Nat} {I : Nat → Nat → Int32} {d : Nat} : glI g x I d 0 = I := by
  funext c k
  unfold glI
  rw [if_neg (by omega)]
theorem glI_no {g : GD} {x : Nat} {I : Nat → Nat → Int32} {d t : Nat} (h : gTo g t = none) : glI g x I d (t + 1) = glI g x I d t := by
  funext c k
  unfold glI
  by_cases hk : k = t
  · subst hk
    rw [if_neg (fun z => z.2.2 h), if_neg (fun z => z.2.2 h)]
  · have : (k < t + 1) ↔ (k < t) := by omega
    simp only [this]
theorem glI_s {g : GD} {x : Nat} {I : Nat → Nat → Int32} {d t : Nat} (h : gTo g t ≠ none) : xup (glI g x I d t) d t (gLv g x t) = glI g x I d (t + 1) := by
  funext c k
  simp only [xup_at, glI]
  by_cases hk : c = d ∧ k = t
  · rw [if_pos hk, if_pos ⟨hk.1, by omega, by rw [hk.2]; exact h⟩, hk.2]
  · rw [if_neg hk]
    by_cases hc : c = d ∧ k < t ∧ gTo g k ≠ none
    · rw [if_pos hc, if_pos ⟨hc.1, by omega, hc.2.2⟩]
    · rw [if_neg hc, if_neg (fun z => hc ⟨z.1, by have := z.2.1; have : ¬ k = t := fun q => hk ⟨z.1, q⟩; omega, z.2.2⟩)]
theorem gap : ∀ g ∈ gAll, ∀ t, t < 32 → gSz g ≤ gFr t → gTo g t = none := by
  intro g hg t ht h
  unfold gTo
  rw [if_pos h]
theorem gap_x {g : GD} (hg : g ∈ gAll) {x : Nat} {I : Nat → Nat → Int32} {d a : Nat} (ha : ∀ t, a ≤ t → t < a + 16 - gSz g → gTo g t = none) : ∀ m, m ≤ 16 - gSz g → gLx g x (a + m) = gLx g x a ∧ glI g x I d (a + m) = glI g x I d a := by
  intro m
  induction m with
  | zero => intro _; exact ⟨rfl, rfl⟩
  | succ m ih =>
    intro hm
    have h16 := (gAll_b g hg).2.2.1
    have h := ih (by omega)
    have hno := ha (a + m) (by omega) (by omega)
    refine ⟨?_, ?_⟩
    · show gLx g x (a + m + 1) = _
      rw [gLx, if_pos hno]; exact h.1
    · show glI g x I d (a + m + 1) = _
      rw [glI_no hno]; exact h.2

theorem gLx_b (g : GD) {x : Nat} (hx : x < 2147483648) : ∀ t, gLx g x t < 2147483648
  | 0 => hx
  | t + 1 => by
    rw [gLx]
    split
    · exact gLx_b g hx t
    · exact nxt_b _
theorem glI_out {g : GD} {x : Nat} {I : Nat → Nat → Int32} {d t c k : Nat} (h : c ≠ d) : glI g x I d t c k = I c k := by
  unfold glI
  rw [if_neg (fun z => h z.1)]
section GLASS
variable {σ : XS} {I : Nat → Nat → Int32} {g : GD}
theorem glass11_l (hS : Shp σ) (hG : GRD I g) {x st : Nat} (hx : x < 2147483648) (hst : I 1 15 = nI st) : xloop (f_X11_glass_b40 1) (lN x, (0 : Int32), xw σ I) = some (1, xw σ (xup (xup (xup (glI g x I 17 32) 1 15 (nI (st + 1))) 16 6 (nI (st + 1))) 16 7 (nI (st + 1)))) := by
  refine xforE (fun t : Nat => (lN (gLx g x t), nI t, xw σ (glI g x I 17 t))) 32 (by simp only [glI_0]; rfl) (fun t ht => ?_) ?_
  · simp only [f_X11_glass_b40]
    rw [if_neg (by rw [show (32 : Int32) = nI 32 from rfl, nn_le (by omega) (by omega)]; omega)]
    have hG2 : GRD (glI g x I 17 t) g := GRD_c (fun a k z => glI_out (by unfold sGRD at z; omega)) hG
    simp (disch := first | assumption | omega) only [Option.bind_some, Option.map_some, xw_gR, xw_gN, xw_al, xw_ck, xw_uI, xw_ur, xup_at, xur_at, if_true, if_false, reduceIte, and_true, true_and, and_false, false_and, not_true_eq_false, not_false_eq_true, Nat.reduceEqDiff, eq_self, Nat.reduceAdd, Nat.reduceMul, kC1, kG1, kP1, kR1_0, kR1_1, kR1_2, kR1_3, kR1_4, kR1_5, kR1_6, kR1_7, kR1_8, kR1_9, kR1_10, kR1_11, kR1_12, kR1_13, kC2, kG2, kP2, kR2_0, kR2_1, kC3, kG3, kP3, kR3_0, kR3_1, kR3_2, kR3_3, kL4, kA4, kS4, kL5, kA5, kS5, kL6, kA6, kS6, kL7, kA7, kS7, kC8, kG8, kP8, kR8_0, kR8_1, kL9, kA9, kS9, kL10, kA10, kS10, kC11, kG11, kP11, kR11_0, kR11_1, kR11_2, kR11_3, kL12, kA12, kS12, kL13, kA13, kS13, kL14, kA14, kS14, kL15, kA15, kS15, kC16, kG16, kP16, kR16_0, kR16_1, kL17, kA17, kS17, kL18, kA18, kS18, kC19, kG19, kP19, kR19_0, kL20, kL141, kL146, kA146, kS146, kL151, kA151, kS151, kL156, kA156, kS156, kC157, kG157, kP157, kR157_0, kR157_1, kL158, kA158, kS158, kL159, kA159, kS159, kC161, kG161, kP161, kR161_0, kR161_1, kL162, kA162, kS162, kL163, kA163, kS163, kC165, kG165, kP165, kR165_0, kR165_1, kR165_2, kR165_3, kL166, kA166, kS166, kL167, kA167, kS167, kL168, kA168, kS168, kL169, kA169, kS169, kC170, kG170, kP170, kR170_0, kR170_1, kR170_2, kL171, kA171, kS171, kL172, kA172, kS172, kL173, kA173, kS173, kC174, kG174, kP174, kR174_0, kR174_1, kR174_2, kR174_3, kR174_4, kL175, kA175, kS175, kL176, kA176, kS176, kL177, kA177, kS177, kL178, kA178, kS178, kL179, kC180, kG180, kP180, kL181, kL182, kA182, kS182, kC183, kG183, kP183, kR183_1, kR183_3, kR183_5, kR183_6, kR183_7, kR183_8, kR183_9, kR183_21, kR183_26, kR183_27, kR183_30, kR183_31, kR183_33, kR183_34, kR183_36, kR183_37, kR183_38, kR183_39, kR183_40, kR183_41, kR183_42, kR183_43, kR183_44, kL184, kA184, kS184, kL185, kA185, kS185, kL186, kA186, kS186, kL187, kA187, kS187, kL188, kA188, kS188, kL189, kL190, kL191, kA191, kS191, kL192, kA192, kS192, kL193, kA193, kS193, kL194, kA194, kS194, kL195, kA195, kS195, kL196, kA196, kS196, kL197, kA197, kS197, kL198, kA198, kS198, kL199, kA199, kS199, kL200, kA200, kS200, kL201, kL202, kA202, kS202, kL203, kA203, kS203, kL204, kA204, kS204, kL205, kL206, kA206, kS206, endAt_ok hS hG2 ht, oI_none (gTo_s hG.1 ht)]
    by_cases hno : gTo g t = none
    · rw [if_pos hno, show (1 : Int32) = nI 1 from rfl, nn_add, glI_no hno]
      show some (Sum.inl (lN (gLx g x t), _)) = some (Sum.inl (lN (gLx g x (t + 1)), _))
      rw [gLx, if_pos hno]
    · rw [if_neg hno, nextLot_ok (gLx_b g hx t), Option.bind_some]
      have e : nxt (gLx g x t) = gLx g x (t + 1) := by rw [gLx, if_neg hno]
      have hb := gLx_b g hx (t + 1)
      rw [e, show (2 : Int32) = nI 2 from rfl, lotOf_ok hb (by decide) (by decide), Option.bind_some]
      unfold f_X11_glass_j85
      simp (disch := first | assumption | omega) only [Option.bind_some, Option.map_some, xw_gR, xw_gN, xw_al, xw_ck, xw_uI, xw_ur, xup_at, xur_at, if_true, if_false, reduceIte, and_true, true_and, and_false, false_and, not_true_eq_false, not_false_eq_true, Nat.reduceEqDiff, eq_self, Nat.reduceAdd, Nat.reduceMul, kC1, kG1, kP1, kR1_0, kR1_1, kR1_2, kR1_3, kR1_4, kR1_5, kR1_6, kR1_7, kR1_8, kR1_9, kR1_10, kR1_11, kR1_12, kR1_13, kC2, kG2, kP2, kR2_0, kR2_1, kC3, kG3, kP3, kR3_0, kR3_1, kR3_2, kR3_3, kL4, kA4, kS4, kL5, kA5, kS5, kL6, kA6, kS6, kL7, kA7, kS7, kC8, kG8, kP8, kR8_0, kR8_1, kL9, kA9, kS9, kL10, kA10, kS10, kC11, kG11, kP11, kR11_0, kR11_1, kR11_2, kR11_3, kL12, kA12, kS12, kL13, kA13, kS13, kL14, kA14, kS14, kL15, kA15, kS15, kC16, kG16, kP16, kR16_0, kR16_1, kL17, kA17, kS17, kL18, kA18, kS18, kC19, kG19, kP19, kR19_0, kL20, kL141, kL146, kA146, kS146, kL151, kA151, kS151, kL156, kA156, kS156, kC157, kG157, kP157, kR157_0, kR157_1, kL158, kA158, kS158, kL159, kA159, kS159, kC161, kG161, kP161, kR161_0, kR161_1, kL162, kA162, kS162, kL163, kA163, kS163, kC165, kG165, kP165, kR165_0, kR165_1, kR165_2, kR165_3, kL166, kA166, kS166, kL167, kA167, kS167, kL168, kA168, kS168, kL169, kA169, kS169, kC170, kG170, kP170, kR170_0, kR170_1, kR170_2, kL171, kA171, kS171, kL172, kA172, kS172, kL173, kA173, kS173, kC174, kG174, kP174, kR174_0, kR174_1, kR174_2, kR174_3, kR174_4, kL175, kA175, kS175, kL176, kA176, kS176, kL177, kA177, kS177, kL178, kA178, kS178, kL179, kC180, kG180, kP180, kL181, kL182, kA182, kS182, kC183, kG183, kP183, kR183_1, kR183_3, kR183_5, kR183_6, kR183_7, kR183_8, kR183_9, kR183_21, kR183_26, kR183_27, kR183_30, kR183_31, kR183_33, kR183_34, kR183_36, kR183_37, kR183_38, kR183_39, kR183_40, kR183_41, kR183_42, kR183_43, kR183_44, kL184, kA184, kS184, kL185, kA185, kS185, kL186, kA186, kS186, kL187, kA187, kS187, kL188, kA188, kS188, kL189, kL190, kL191, kA191, kS191, kL192, kA192, kS192, kL193, kA193, kS193, kL194, kA194, kS194, kL195, kA195, kS195, kL196, kA196, kS196, kL197, kA197, kS197, kL198, kA198, kS198, kL199, kA199, kS199, kL200, kA200, kS200, kL201, kL202, kA202, kS202, kL203, kA203, kS203, kL204, kA204, kS204, kL205, kL206, kA206, kS206, setBond_ok hS suA_16 ht, show (1 : Int32) = nI 1 from rfl, nn_add, nn_eq]
      have hs := glI_s (x := x) (I := I) (d := 17) hno
      unfold gLv at hs
      by_cases h1 : gLx g x (t + 1) / 65536 % 2 = 1
      · rw [if_pos h1] at hs ⊢
        rw [← hs]; rfl
      · rw [if_neg h1] at hs ⊢
        rw [← hs]; rfl
  · simp only [f_X11_glass_b40]
    rw [if_pos (by decide)]
    simp (disch := first | assumption | omega) only [Option.bind_some, Option.map_some, xw_gR, xw_gN, xw_al, xw_ck, xw_uI, xw_ur, xup_at, xur_at, if_true, if_false, reduceIte, and_true, true_and, and_false, false_and, not_true_eq_false, not_false_eq_true, Nat.reduceEqDiff, eq_self, Nat.reduceAdd, Nat.reduceMul, kC1, kG1, kP1, kR1_0, kR1_1, kR1_2, kR1_3, kR1_4, kR1_5, kR1_6, kR1_7, kR1_8, kR1_9, kR1_10, kR1_11, kR1_12, kR1_13, kC2, kG2, kP2, kR2_0, kR2_1, kC3, kG3, kP3, kR3_0, kR3_1, kR3_2, kR3_3, kL4, kA4, kS4, kL5, kA5, kS5, kL6, kA6, kS6, kL7, kA7, kS7, kC8, kG8, kP8, kR8_0, kR8_1, kL9, kA9, kS9, kL10, kA10, kS10, kC11, kG11, kP11, kR11_0, kR11_1, kR11_2, kR11_3, kL12, kA12, kS12, kL13, kA13, kS13, kL14, kA14, kS14, kL15, kA15, kS15, kC16, kG16, kP16, kR16_0, kR16_1, kL17, kA17, kS17, kL18, kA18, kS18, kC19, kG19, kP19, kR19_0, kL20, kL141, kL146, kA146, kS146, kL151, kA151, kS151, kL156, kA156, kS156, kC157, kG157, kP157, kR157_0, kR157_1, kL158, kA158, kS158, kL159, kA159, kS159, kC161, kG161, kP161, kR161_0, kR161_1, kL162, kA162, kS162, kL163, kA163, kS163, kC165, kG165, kP165, kR165_0, kR165_1, kR165_2, kR165_3, kL166, kA166, kS166, kL167, kA167, kS167, kL168, kA168, kS168, kL169, kA169, kS169, kC170, kG170, kP170, kR170_0, kR170_1, kR170_2, kL171, kA171, kS171, kL172, kA172, kS172, kL173, kA173, kS173, kC174, kG174, kP174, kR174_0, kR174_1, kR174_2, kR174_3, kR174_4, kL175, kA175, kS175, kL176, kA176, kS176, kL177, kA177, kS177, kL178, kA178, kS178, kL179, kC180, kG180, kP180, kL181, kL182, kA182, kS182, kC183, kG183, kP183, kR183_1, kR183_3, kR183_5, kR183_6, kR183_7, kR183_8, kR183_9, kR183_21, kR183_26, kR183_27, kR183_30, kR183_31, kR183_33, kR183_34, kR183_36, kR183_37, kR183_38, kR183_39, kR183_40, kR183_41, kR183_42, kR183_43, kR183_44, kL184, kA184, kS184, kL185, kA185, kS185, kL186, kA186, kS186, kL187, kA187, kS187, kL188, kA188, kS188, kL189, kL190, kL191, kA191, kS191, kL192, kA192, kS192, kL193, kA193, kS193, kL194, kA194, kS194, kL195, kA195, kS195, kL196, kA196, kS196, kL197, kA197, kS197, kL198, kA198, kS198, kL199, kA199, kS199, kL200, kA200, kS200, kL201, kL202, kA202, kS202, kL203, kA203, kS203, kL204, kA204, kS204, kL205, kL206, kA206, kS206, stampTies_ok (I := glI g x I 17 32) (st := st) hS (by rw [glI_out (by decide)]; exact hst)]
/-- where the k-th tie of the model stands -/
def gTk (g : GD) (k : Nat) : Nat := if k < gSz g then k else k - gSz g + 16
theorem gTk_x (hg : g ∈ gAll) (h0 : 0 < gSz g) {x : Nat} {d k : Nat} (hk : k < 2 * gSz g) : gLx g x (gTk g k + 1) = gLx g x (gTk g (k + 1)) ∧ glI g x I d (gTk g k + 1) = glI g x I d (gTk g (k + 1)) := by
  have h16 := (gAll_b g hg).2.2.1
  unfold gTk
  by_cases h1 : k < gSz g
  · rw [if_pos h1]
    by_cases h2 : k + 1 < gSz g
    · rw [if_pos h2]; exact ⟨rfl, rfl⟩
    · rw [if_neg h2]
      have e : k + 1 - gSz g + 16 = (k + 1) + (16 - gSz g) := by omega
      have := gap_x hg (x := x) (I := I) (d := d) (a := k + 1) (fun t h3 h4 => gap g hg t (by omega) (by unfold gFr; rw [if_pos (by omega)]; omega)) (16 - gSz g) (Nat.le_refl _)
      rw [e]
      exact ⟨this.1.symm, this.2.symm⟩
  · rw [if_neg h1, if_neg (by omega), show k + 1 - gSz g + 16 = k - gSz g + 16 + 1 by omega]
    exact ⟨rfl, rfl⟩
theorem gTk_e (hg : g ∈ gAll) (h0 : 0 < gSz g) {x : Nat} {d : Nat} : gLx g x (gTk g (2 * gSz g)) = gLx g x 32 ∧ glI g x I d (gTk g (2 * gSz g)) = glI g x I d 32 := by
  have h16 := (gAll_b g hg).2.2.1
  unfold gTk
  rw [if_neg (by omega)]
  have := gap_x hg (x := x) (I := I) (d := d) (a := 2 * gSz g - gSz g + 16) (fun t h3 h4 => gap g hg t (by omega) (by unfold gFr; rw [if_neg (by omega)]; omega)) (16 - gSz g) (Nat.le_refl _)
  rw [show 2 * gSz g - gSz g + 16 + (16 - gSz g) = 32 by omega] at this
  exact ⟨this.1.symm, this.2.symm⟩
theorem glass12_l (hS : Shp σ) (hG : GRD I g) (h0 : 0 < gSz g) {x : Nat} (hx : x < 2147483648) : xloop (f_X12_glass_b30 183) (lN x, (0 : Int32), xw σ I) = some (1, xw σ (xup (glI g x I 191 32) 183 32 0)) := by
  have h16 := (gAll_b g hG.1).2.2.1
  have z0 : gTk g 0 = 0 := by unfold gTk; rw [if_pos h0]
  refine xforE (fun k : Nat => (lN (gLx g x (gTk g k)), nI k, xw σ (glI g x I 191 (gTk g k)))) (2 * gSz g) (by simp only [z0, glI_0]; rfl) (fun k hk => ?_) ?_
  · simp only [f_X12_glass_b30]
    have hG2 : GRD (glI g x I 191 (gTk g k)) g := GRD_c (fun a k z => glI_out (by unfold sGRD at z; omega)) hG
    simp (disch := first | assumption | omega) only [Option.bind_some, Option.map_some, xw_gR, xw_gN, xw_al, xw_ck, xw_uI, xw_ur, xup_at, xur_at, if_true, if_false, reduceIte, and_true, true_and, and_false, false_and, not_true_eq_false, not_false_eq_true, Nat.reduceEqDiff, eq_self, Nat.reduceAdd, Nat.reduceMul, kC1, kG1, kP1, kR1_0, kR1_1, kR1_2, kR1_3, kR1_4, kR1_5, kR1_6, kR1_7, kR1_8, kR1_9, kR1_10, kR1_11, kR1_12, kR1_13, kC2, kG2, kP2, kR2_0, kR2_1, kC3, kG3, kP3, kR3_0, kR3_1, kR3_2, kR3_3, kL4, kA4, kS4, kL5, kA5, kS5, kL6, kA6, kS6, kL7, kA7, kS7, kC8, kG8, kP8, kR8_0, kR8_1, kL9, kA9, kS9, kL10, kA10, kS10, kC11, kG11, kP11, kR11_0, kR11_1, kR11_2, kR11_3, kL12, kA12, kS12, kL13, kA13, kS13, kL14, kA14, kS14, kL15, kA15, kS15, kC16, kG16, kP16, kR16_0, kR16_1, kL17, kA17, kS17, kL18, kA18, kS18, kC19, kG19, kP19, kR19_0, kL20, kL141, kL146, kA146, kS146, kL151, kA151, kS151, kL156, kA156, kS156, kC157, kG157, kP157, kR157_0, kR157_1, kL158, kA158, kS158, kL159, kA159, kS159, kC161, kG161, kP161, kR161_0, kR161_1, kL162, kA162, kS162, kL163, kA163, kS163, kC165, kG165, kP165, kR165_0, kR165_1, kR165_2, kR165_3, kL166, kA166, kS166, kL167, kA167, kS167, kL168, kA168, kS168, kL169, kA169, kS169, kC170, kG170, kP170, kR170_0, kR170_1, kR170_2, kL171, kA171, kS171, kL172, kA172, kS172, kL173, kA173, kS173, kC174, kG174, kP174, kR174_0, kR174_1, kR174_2, kR174_3, kR174_4, kL175, kA175, kS175, kL176, kA176, kS176, kL177, kA177, kS177, kL178, kA178, kS178, kL179, kC180, kG180, kP180, kL181, kL182, kA182, kS182, kC183, kG183, kP183, kR183_1, kR183_3, kR183_5, kR183_6, kR183_7, kR183_8, kR183_9, kR183_21, kR183_26, kR183_27, kR183_30, kR183_31, kR183_33, kR183_34, kR183_36, kR183_37, kR183_38, kR183_39, kR183_40, kR183_41, kR183_42, kR183_43, kR183_44, kL184, kA184, kS184, kL185, kA185, kS185, kL186, kA186, kS186, kL187, kA187, kS187, kL188, kA188, kS188, kL189, kL190, kL191, kA191, kS191, kL192, kA192, kS192, kL193, kA193, kS193, kL194, kA194, kS194, kL195, kA195, kS195, kL196, kA196, kS196, kL197, kA197, kS197, kL198, kA198, kS198, kL199, kA199, kS199, kL200, kA200, kS200, kL201, kL202, kA202, kS202, kL203, kA203, kS203, kL204, kA204, kS204, kL205, kL206, kA206, kS206, sites_ok hS hG2, show (2 : Int32) = nI 2 from rfl, nn_mul, nn_le, nn_lt, show ¬ (2 * gSz g ≤ k) by omega]
    obtain ⟨b, i, hb, hi, ht, hbk⟩ : ∃ b i, b < 2 ∧ i < gSz g ∧ gTk g k = i + 16 * b ∧ (b = 0 ∧ k < gSz g ∧ i = k ∨ b = 1 ∧ ¬ k < gSz g ∧ i = k - gSz g) := by
      unfold gTk
      by_cases h1 : k < gSz g
      · exact ⟨0, k, by decide, h1, by rw [if_pos h1]; omega, .inl ⟨rfl, h1, rfl⟩⟩
      · exact ⟨1, k - gSz g, by decide, by omega, by rw [if_neg h1], .inr ⟨rfl, h1, rfl⟩⟩
    have hxk := gTk_x (I := I) hG.1 h0 (x := x) (d := 191) hk
    have hmain : f_X12_glass_j74 (xw σ (glI g x I 191 (gTk g k))) 183 (lN (gLx g x (gTk g k))) (nI k) (nI b) (nI i) = some (Sum.inl (lN (gLx g x (gTk g (k + 1))), nI (k + 1), xw σ (glI g x I 191 (gTk g (k + 1))))) := by
      rw [← hxk.1, ← hxk.2]
      unfold f_X12_glass_j74
      rw [ht] at hG2 ⊢
      have ht32 : i + 16 * b < 32 := by omega
      simp (disch := first | assumption | omega) only [Option.bind_some, Option.map_some, xw_gR, xw_gN, xw_al, xw_ck, xw_uI, xw_ur, xup_at, xur_at, if_true, if_false, reduceIte, and_true, true_and, and_false, false_and, not_true_eq_false, not_false_eq_true, Nat.reduceEqDiff, eq_self, Nat.reduceAdd, Nat.reduceMul, kC1, kG1, kP1, kR1_0, kR1_1, kR1_2, kR1_3, kR1_4, kR1_5, kR1_6, kR1_7, kR1_8, kR1_9, kR1_10, kR1_11, kR1_12, kR1_13, kC2, kG2, kP2, kR2_0, kR2_1, kC3, kG3, kP3, kR3_0, kR3_1, kR3_2, kR3_3, kL4, kA4, kS4, kL5, kA5, kS5, kL6, kA6, kS6, kL7, kA7, kS7, kC8, kG8, kP8, kR8_0, kR8_1, kL9, kA9, kS9, kL10, kA10, kS10, kC11, kG11, kP11, kR11_0, kR11_1, kR11_2, kR11_3, kL12, kA12, kS12, kL13, kA13, kS13, kL14, kA14, kS14, kL15, kA15, kS15, kC16, kG16, kP16, kR16_0, kR16_1, kL17, kA17, kS17, kL18, kA18, kS18, kC19, kG19, kP19, kR19_0, kL20, kL141, kL146, kA146, kS146, kL151, kA151, kS151, kL156, kA156, kS156, kC157, kG157, kP157, kR157_0, kR157_1, kL158, kA158, kS158, kL159, kA159, kS159, kC161, kG161, kP161, kR161_0, kR161_1, kL162, kA162, kS162, kL163, kA163, kS163, kC165, kG165, kP165, kR165_0, kR165_1, kR165_2, kR165_3, kL166, kA166, kS166, kL167, kA167, kS167, kL168, kA168, kS168, kL169, kA169, kS169, kC170, kG170, kP170, kR170_0, kR170_1, kR170_2, kL171, kA171, kS171, kL172, kA172, kS172, kL173, kA173, kS173, kC174, kG174, kP174, kR174_0, kR174_1, kR174_2, kR174_3, kR174_4, kL175, kA175, kS175, kL176, kA176, kS176, kL177, kA177, kS177, kL178, kA178, kS178, kL179, kC180, kG180, kP180, kL181, kL182, kA182, kS182, kC183, kG183, kP183, kR183_1, kR183_3, kR183_5, kR183_6, kR183_7, kR183_8, kR183_9, kR183_21, kR183_26, kR183_27, kR183_30, kR183_31, kR183_33, kR183_34, kR183_36, kR183_37, kR183_38, kR183_39, kR183_40, kR183_41, kR183_42, kR183_43, kR183_44, kL184, kA184, kS184, kL185, kA185, kS185, kL186, kA186, kS186, kL187, kA187, kS187, kL188, kA188, kS188, kL189, kL190, kL191, kA191, kS191, kL192, kA192, kS192, kL193, kA193, kS193, kL194, kA194, kS194, kL195, kA195, kS195, kL196, kA196, kS196, kL197, kA197, kS197, kL198, kA198, kS198, kL199, kA199, kS199, kL200, kA200, kS200, kL201, kL202, kA202, kS202, kL203, kA203, kS203, kL204, kA204, kS204, kL205, kL206, kA206, kS206, tieTo_ok hS hG2 hb hi]
      by_cases hno : gTo g (i + 16 * b) = none
      · rw [hno]
        have : ¬ (0 ≤ oI none) := by decide
        rw [if_neg this, show (1 : Int32) = nI 1 from rfl, nn_add, glI_no hno, gLx, if_pos hno]
      · obtain ⟨en, hen⟩ := Option.ne_none_iff_exists'.mp hno
        have hens := gTo_s hG.1 ht32 en hen
        have : (0 : Int32) ≤ oI (gTo g (i + 16 * b)) := by
          rw [hen]
          show nI 0 ≤ nI en
          rw [nn_le (by decide) hens]; omega
        rw [if_pos this, nextOf_ok (gLx_b g hx _), Option.bind_some]
        have e : nxt (gLx g x (i + 16 * b)) = gLx g x (i + 16 * b + 1) := by rw [gLx, if_neg hno]
        have hb2 := gLx_b g hx (i + 16 * b + 1)
        have hs := glI_s (x := x) (I := I) (d := 191) hno
        unfold gLv at hs
        rw [e]
        have cmp : (lg_cmp (lN (gLx g x (i + 16 * b + 1)) / (65536 : Int64) - lN (gLx g x (i + 16 * b + 1)) / (65536 : Int64) / (2 : Int64) * (2 : Int64)) (1 : Int64) = 0) = (gLx g x (i + 16 * b + 1) / 65536 % 2 = 1) := by
          rw [lg_cmp0, show (65536 : Int64) = lN 65536 from rfl, vL_div (by omega) (by omega), show (2 : Int64) = lN 2 from rfl, vL_rem (by omega) (by omega), show (1 : Int64) = lN 1 from rfl, vL_eq (by omega) (by omega)]
        unfold f_X12_glass_j110
        simp only [cmp]
        rcases hbk with ⟨rfl, -⟩ | ⟨rfl, -⟩
        · simp (disch := first | assumption | omega) only [Option.bind_some, Option.map_some, xw_gR, xw_gN, xw_al, xw_ck, xw_uI, xw_ur, xup_at, xur_at, if_true, if_false, reduceIte, and_true, true_and, and_false, false_and, not_true_eq_false, not_false_eq_true, Nat.reduceEqDiff, eq_self, Nat.reduceAdd, Nat.reduceMul, kC1, kG1, kP1, kR1_0, kR1_1, kR1_2, kR1_3, kR1_4, kR1_5, kR1_6, kR1_7, kR1_8, kR1_9, kR1_10, kR1_11, kR1_12, kR1_13, kC2, kG2, kP2, kR2_0, kR2_1, kC3, kG3, kP3, kR3_0, kR3_1, kR3_2, kR3_3, kL4, kA4, kS4, kL5, kA5, kS5, kL6, kA6, kS6, kL7, kA7, kS7, kC8, kG8, kP8, kR8_0, kR8_1, kL9, kA9, kS9, kL10, kA10, kS10, kC11, kG11, kP11, kR11_0, kR11_1, kR11_2, kR11_3, kL12, kA12, kS12, kL13, kA13, kS13, kL14, kA14, kS14, kL15, kA15, kS15, kC16, kG16, kP16, kR16_0, kR16_1, kL17, kA17, kS17, kL18, kA18, kS18, kC19, kG19, kP19, kR19_0, kL20, kL141, kL146, kA146, kS146, kL151, kA151, kS151, kL156, kA156, kS156, kC157, kG157, kP157, kR157_0, kR157_1, kL158, kA158, kS158, kL159, kA159, kS159, kC161, kG161, kP161, kR161_0, kR161_1, kL162, kA162, kS162, kL163, kA163, kS163, kC165, kG165, kP165, kR165_0, kR165_1, kR165_2, kR165_3, kL166, kA166, kS166, kL167, kA167, kS167, kL168, kA168, kS168, kL169, kA169, kS169, kC170, kG170, kP170, kR170_0, kR170_1, kR170_2, kL171, kA171, kS171, kL172, kA172, kS172, kL173, kA173, kS173, kC174, kG174, kP174, kR174_0, kR174_1, kR174_2, kR174_3, kR174_4, kL175, kA175, kS175, kL176, kA176, kS176, kL177, kA177, kS177, kL178, kA178, kS178, kL179, kC180, kG180, kP180, kL181, kL182, kA182, kS182, kC183, kG183, kP183, kR183_1, kR183_3, kR183_5, kR183_6, kR183_7, kR183_8, kR183_9, kR183_21, kR183_26, kR183_27, kR183_30, kR183_31, kR183_33, kR183_34, kR183_36, kR183_37, kR183_38, kR183_39, kR183_40, kR183_41, kR183_42, kR183_43, kR183_44, kL184, kA184, kS184, kL185, kA185, kS185, kL186, kA186, kS186, kL187, kA187, kS187, kL188, kA188, kS188, kL189, kL190, kL191, kA191, kS191, kL192, kA192, kS192, kL193, kA193, kS193, kL194, kA194, kS194, kL195, kA195, kS195, kL196, kA196, kS196, kL197, kA197, kS197, kL198, kA198, kS198, kL199, kA199, kS199, kL200, kA200, kS200, kL201, kL202, kA202, kS202, kL203, kA203, kS203, kL204, kA204, kS204, kL205, kL206, kA206, kS206, show (nI 0 = 0) = True from eq_true rfl, show (0 : Int32) = nI 0 from rfl, show (1 : Int32) = nI 1 from rfl, nn_add, Nat.zero_add, Nat.add_zero]
          by_cases h1 : gLx g x (i + 1) / 65536 % 2 = 1
          · rw [if_pos h1]
            rw [show i + 16 * 0 + 1 = i + 1 by omega, if_pos h1] at hs
            rw [← hs]; rfl
          · rw [if_neg h1]
            rw [show i + 16 * 0 + 1 = i + 1 by omega, if_neg h1] at hs
            rw [← hs]; rfl
        · simp (disch := first | assumption | omega) only [Option.bind_some, Option.map_some, xw_gR, xw_gN, xw_al, xw_ck, xw_uI, xw_ur, xup_at, xur_at, if_true, if_false, reduceIte, and_true, true_and, and_false, false_and, not_true_eq_false, not_false_eq_true, Nat.reduceEqDiff, eq_self, Nat.reduceAdd, Nat.reduceMul, kC1, kG1, kP1, kR1_0, kR1_1, kR1_2, kR1_3, kR1_4, kR1_5, kR1_6, kR1_7, kR1_8, kR1_9, kR1_10, kR1_11, kR1_12, kR1_13, kC2, kG2, kP2, kR2_0, kR2_1, kC3, kG3, kP3, kR3_0, kR3_1, kR3_2, kR3_3, kL4, kA4, kS4, kL5, kA5, kS5, kL6, kA6, kS6, kL7, kA7, kS7, kC8, kG8, kP8, kR8_0, kR8_1, kL9, kA9, kS9, kL10, kA10, kS10, kC11, kG11, kP11, kR11_0, kR11_1, kR11_2, kR11_3, kL12, kA12, kS12, kL13, kA13, kS13, kL14, kA14, kS14, kL15, kA15, kS15, kC16, kG16, kP16, kR16_0, kR16_1, kL17, kA17, kS17, kL18, kA18, kS18, kC19, kG19, kP19, kR19_0, kL20, kL141, kL146, kA146, kS146, kL151, kA151, kS151, kL156, kA156, kS156, kC157, kG157, kP157, kR157_0, kR157_1, kL158, kA158, kS158, kL159, kA159, kS159, kC161, kG161, kP161, kR161_0, kR161_1, kL162, kA162, kS162, kL163, kA163, kS163, kC165, kG165, kP165, kR165_0, kR165_1, kR165_2, kR165_3, kL166, kA166, kS166, kL167, kA167, kS167, kL168, kA168, kS168, kL169, kA169, kS169, kC170, kG170, kP170, kR170_0, kR170_1, kR170_2, kL171, kA171, kS171, kL172, kA172, kS172, kL173, kA173, kS173, kC174, kG174, kP174, kR174_0, kR174_1, kR174_2, kR174_3, kR174_4, kL175, kA175, kS175, kL176, kA176, kS176, kL177, kA177, kS177, kL178, kA178, kS178, kL179, kC180, kG180, kP180, kL181, kL182, kA182, kS182, kC183, kG183, kP183, kR183_1, kR183_3, kR183_5, kR183_6, kR183_7, kR183_8, kR183_9, kR183_21, kR183_26, kR183_27, kR183_30, kR183_31, kR183_33, kR183_34, kR183_36, kR183_37, kR183_38, kR183_39, kR183_40, kR183_41, kR183_42, kR183_43, kR183_44, kL184, kA184, kS184, kL185, kA185, kS185, kL186, kA186, kS186, kL187, kA187, kS187, kL188, kA188, kS188, kL189, kL190, kL191, kA191, kS191, kL192, kA192, kS192, kL193, kA193, kS193, kL194, kA194, kS194, kL195, kA195, kS195, kL196, kA196, kS196, kL197, kA197, kS197, kL198, kA198, kS198, kL199, kA199, kS199, kL200, kA200, kS200, kL201, kL202, kA202, kS202, kL203, kA203, kS203, kL204, kA204, kS204, kL205, kL206, kA206, kS206, show (nI 1 = 0) = False from eq_false (by decide), show (16 : Int32) = nI 16 from rfl, show (1 : Int32) = nI 1 from rfl, nn_add]
          rw [Nat.add_comm 16 i]
          by_cases h1 : gLx g x (i + 16 + 1) / 65536 % 2 = 1
          · rw [if_pos h1]
            rw [show i + 16 * 1 + 1 = i + 16 + 1 by omega, if_pos h1] at hs
            rw [← hs]; rfl
          · rw [if_neg h1]
            rw [show i + 16 * 1 + 1 = i + 16 + 1 by omega, if_neg h1] at hs
            rw [← hs]; rfl
    unfold f_X12_glass_j55
    rcases hbk with ⟨rfl, h1, rfl⟩ | ⟨rfl, h1, rfl⟩
    · rw [if_pos h1, if_pos rfl]
      exact hmain
    · rw [if_neg h1, if_neg (by decide)]
      simp (disch := first | assumption | omega) only [Option.bind_some, Option.map_some, xw_gR, xw_gN, xw_al, xw_ck, xw_uI, xw_ur, xup_at, xur_at, if_true, if_false, reduceIte, and_true, true_and, and_false, false_and, not_true_eq_false, not_false_eq_true, Nat.reduceEqDiff, eq_self, Nat.reduceAdd, Nat.reduceMul, kC1, kG1, kP1, kR1_0, kR1_1, kR1_2, kR1_3, kR1_4, kR1_5, kR1_6, kR1_7, kR1_8, kR1_9, kR1_10, kR1_11, kR1_12, kR1_13, kC2, kG2, kP2, kR2_0, kR2_1, kC3, kG3, kP3, kR3_0, kR3_1, kR3_2, kR3_3, kL4, kA4, kS4, kL5, kA5, kS5, kL6, kA6, kS6, kL7, kA7, kS7, kC8, kG8, kP8, kR8_0, kR8_1, kL9, kA9, kS9, kL10, kA10, kS10, kC11, kG11, kP11, kR11_0, kR11_1, kR11_2, kR11_3, kL12, kA12, kS12, kL13, kA13, kS13, kL14, kA14, kS14, kL15, kA15, kS15, kC16, kG16, kP16, kR16_0, kR16_1, kL17, kA17, kS17, kL18, kA18, kS18, kC19, kG19, kP19, kR19_0, kL20, kL141, kL146, kA146, kS146, kL151, kA151, kS151, kL156, kA156, kS156, kC157, kG157, kP157, kR157_0, kR157_1, kL158, kA158, kS158, kL159, kA159, kS159, kC161, kG161, kP161, kR161_0, kR161_1, kL162, kA162, kS162, kL163, kA163, kS163, kC165, kG165, kP165, kR165_0, kR165_1, kR165_2, kR165_3, kL166, kA166, kS166, kL167, kA167, kS167, kL168, kA168, kS168, kL169, kA169, kS169, kC170, kG170, kP170, kR170_0, kR170_1, kR170_2, kL171, kA171, kS171, kL172, kA172, kS172, kL173, kA173, kS173, kC174, kG174, kP174, kR174_0, kR174_1, kR174_2, kR174_3, kR174_4, kL175, kA175, kS175, kL176, kA176, kS176, kL177, kA177, kS177, kL178, kA178, kS178, kL179, kC180, kG180, kP180, kL181, kL182, kA182, kS182, kC183, kG183, kP183, kR183_1, kR183_3, kR183_5, kR183_6, kR183_7, kR183_8, kR183_9, kR183_21, kR183_26, kR183_27, kR183_30, kR183_31, kR183_33, kR183_34, kR183_36, kR183_37, kR183_38, kR183_39, kR183_40, kR183_41, kR183_42, kR183_43, kR183_44, kL184, kA184, kS184, kL185, kA185, kS185, kL186, kA186, kS186, kL187, kA187, kS187, kL188, kA188, kS188, kL189, kL190, kL191, kA191, kS191, kL192, kA192, kS192, kL193, kA193, kS193, kL194, kA194, kS194, kL195, kA195, kS195, kL196, kA196, kS196, kL197, kA197, kS197, kL198, kA198, kS198, kL199, kA199, kS199, kL200, kA200, kS200, kL201, kL202, kA202, kS202, kL203, kA203, kS203, kL204, kA204, kS204, kL205, kL206, kA206, kS206, sites_ok hS hG2, nn_sub]
      exact hmain
  · simp only [f_X12_glass_b30]
    have he := gTk_e (I := I) hG.1 h0 (x := x) (d := 191)
    have hG2 : GRD (glI g x I 191 32) g := GRD_c (fun a k z => glI_out (by unfold sGRD at z; omega)) hG
    rw [he.2]
    simp (disch := first | assumption | omega) only [Option.bind_some, Option.map_some, xw_gR, xw_gN, xw_al, xw_ck, xw_uI, xw_ur, xup_at, xur_at, if_true, if_false, reduceIte, and_true, true_and, and_false, false_and, not_true_eq_false, not_false_eq_true, Nat.reduceEqDiff, eq_self, Nat.reduceAdd, Nat.reduceMul, kC1, kG1, kP1, kR1_0, kR1_1, kR1_2, kR1_3, kR1_4, kR1_5, kR1_6, kR1_7, kR1_8, kR1_9, kR1_10, kR1_11, kR1_12, kR1_13, kC2, kG2, kP2, kR2_0, kR2_1, kC3, kG3, kP3, kR3_0, kR3_1, kR3_2, kR3_3, kL4, kA4, kS4, kL5, kA5, kS5, kL6, kA6, kS6, kL7, kA7, kS7, kC8, kG8, kP8, kR8_0, kR8_1, kL9, kA9, kS9, kL10, kA10, kS10, kC11, kG11, kP11, kR11_0, kR11_1, kR11_2, kR11_3, kL12, kA12, kS12, kL13, kA13, kS13, kL14, kA14, kS14, kL15, kA15, kS15, kC16, kG16, kP16, kR16_0, kR16_1, kL17, kA17, kS17, kL18, kA18, kS18, kC19, kG19, kP19, kR19_0, kL20, kL141, kL146, kA146, kS146, kL151, kA151, kS151, kL156, kA156, kS156, kC157, kG157, kP157, kR157_0, kR157_1, kL158, kA158, kS158, kL159, kA159, kS159, kC161, kG161, kP161, kR161_0, kR161_1, kL162, kA162, kS162, kL163, kA163, kS163, kC165, kG165, kP165, kR165_0, kR165_1, kR165_2, kR165_3, kL166, kA166, kS166, kL167, kA167, kS167, kL168, kA168, kS168, kL169, kA169, kS169, kC170, kG170, kP170, kR170_0, kR170_1, kR170_2, kL171, kA171, kS171, kL172, kA172, kS172, kL173, kA173, kS173, kC174, kG174, kP174, kR174_0, kR174_1, kR174_2, kR174_3, kR174_4, kL175, kA175, kS175, kL176, kA176, kS176, kL177, kA177, kS177, kL178, kA178, kS178, kL179, kC180, kG180, kP180, kL181, kL182, kA182, kS182, kC183, kG183, kP183, kR183_1, kR183_3, kR183_5, kR183_6, kR183_7, kR183_8, kR183_9, kR183_21, kR183_26, kR183_27, kR183_30, kR183_31, kR183_33, kR183_34, kR183_36, kR183_37, kR183_38, kR183_39, kR183_40, kR183_41, kR183_42, kR183_43, kR183_44, kL184, kA184, kS184, kL185, kA185, kS185, kL186, kA186, kS186, kL187, kA187, kS187, kL188, kA188, kS188, kL189, kL190, kL191, kA191, kS191, kL192, kA192, kS192, kL193, kA193, kS193, kL194, kA194, kS194, kL195, kA195, kS195, kL196, kA196, kS196, kL197, kA197, kS197, kL198, kA198, kS198, kL199, kA199, kS199, kL200, kA200, kS200, kL201, kL202, kA202, kS202, kL203, kA203, kS203, kL204, kA204, kS204, kL205, kL206, kA206, kS206, sites_ok hS hG2, show (2 : Int32) = nI 2 from rfl, nn_mul, nn_le, Nat.le_refl]
end GLASS
