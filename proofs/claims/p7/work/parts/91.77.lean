/-! the model's energy of a state -/
theorem bI_eq (a b : Bool) : (nI (if a then 1 else 0) = nI (if b then 1 else 0)) = (a = b) := by cases a <;> cases b <;> decide
theorem bI_1 (a : Bool) : (nI (if a then 1 else 0) = 1) = (a = true) := by cases a <;> decide
theorem bI_0 (a : Bool) : (nI (if a then 1 else 0) = 0) = (a = false) := by cases a <;> decide
theorem gRow1 : ∀ g ∈ gAll, ∀ r, r < 17 → r ≤ g.2.1 → ∀ i, i < 16 → i < g.1 * r → (gTo g i).all (fun e => decide (e < g.1 * r)) = true := by decide +kernel
theorem gRow2 : ∀ g ∈ gAll, ∀ r, r < 17 → r ≤ g.2.1 → ∀ i, i < 16 → i < g.1 * r → (gTo g (i + 16)).all (fun e => decide ((if e ≤ i then r = g.2.1 else e < g.1 * r) ↔ e < g.1 * r)) = true := by decide +kernel
theorem gRow3 : ∀ g ∈ gAll, ∀ r, r < 17 → r ≤ g.2.1 → g.1 * r ≤ gSz g := by decide +kernel
theorem fb_si_z {f : Nat → Int} {k n : Nat} (hk : k ≤ n) (h : ∀ i, k ≤ i → i < n → f i = 0) : fb_si f n = fb_si f k := by
  have := fb_si_split f k (n - k)
  rw [show k + (n - k) = n by omega] at this
  rw [this]
  have z : fb_si (fun i => f (k + i)) (n - k) = fb_si (fun _ => 0) (n - k) := fb_si_cong (fun i hi => h (k + i) (by omega) (by omega))
  have z2 : ∀ m, fb_si (fun _ => 0) m = 0 := by
    intro m
    induction m with
    | zero => rfl
    | succ m ih => rw [fb_si_succ, ih]; rfl
  rw [z, z2]; omega
/-- a site's part of the energy of the first k sites -/
def eS (g : GD) (F : Nat → Int) (k s i : Nat) : Int := eH F s i + (if gIn g k i then eT g F s i else 0) + (if gIn g k (i + 16) then eT g F s (i + 16) else 0)
theorem eS_sum {g : GD} {F : Nat → Int} {k s : Nat} (hk : k ≤ 16) : fb_si (eS g F k s) k = eP g F k s := by
  have hin : ∀ t, t < 32 → k ≤ gFr t → gIn g k t = false := by
    intro t ht h
    unfold gIn
    split
    · rfl
    · have : ¬ gFr t < k := by omega
      simp [this]
  have h1 : fb_si (fun t => if gIn g k t then eT g F s t else 0) 32 = fb_si (fun i => if gIn g k i then eT g F s i else 0) k + fb_si (fun i => if gIn g k (i + 16) then eT g F s (i + 16) else 0) k := by
    rw [show (32 : Nat) = 16 + 16 from rfl, fb_si_split]
    congr 1
    · refine fb_si_z hk (fun i h1 h2 => ?_)
      rw [hin i (by omega) (by unfold gFr; rw [if_pos h2]; exact h1)]
      rfl
    · have e : fb_si (fun i => if gIn g k (16 + i) then eT g F s (16 + i) else 0) 16 = fb_si (fun i => if gIn g k (i + 16) then eT g F s (i + 16) else 0) 16 := fb_si_cong (fun i _ => by rw [Nat.add_comm])
      rw [e]
      refine fb_si_z hk (fun i h1 h2 => ?_)
      rw [hin (i + 16) (by omega) (by unfold gFr; rw [if_neg (by omega)]; omega)]
      rfl
  unfold eP
  rw [h1]
  have e : eS g F k s = fun i => (fun i => (fun i => eH F s i) i + (fun i => if gIn g k i then eT g F s i else 0) i) i + (fun i => if gIn g k (i + 16) then eT g F s (i + 16) else 0) i := rfl
  rw [e, fb_si_add, fb_si_add]
  have e2 : fb_si (fun i => eH F s i) k = fb_si (eH F s) k := rfl
  omega
section MENERGY
variable {σ : XS} {I : Nat → Nat → Int32} {g : GD} {a : Nat}
theorem en143 (hS : Shp σ) (hG : GRD I g) (ha : σ.1 a = (20, 66)) {s r i e : Nat} (z : Int) (hs : s < 2147483648) (hi : i < gSz g) (he : gTo g (i + 16) = some e) :
    f_X12_energy_j143 (xw σ I) 183 a (nI s) (nI r) (iI z) (nI i) (nI (if s.testBit i then 1 else 0)) (nI e) = some (.inl (iI (z + eT g (zR (I a)) s (i + 16)), nI (i + 1))) := by
  have h16 := (gAll_b g hG.1).2.2.1
  have heb := gTo_b g hG.1 (i + 16) (by omega) e he
  unfold f_X12_energy_j143
  have hf : gFr (i + 16) = i := by unfold gFr; rw [if_neg (by omega)]; omega
  have hv : I a (i + 16) = iI (zR (I a) (i + 16)) := iI_of _
  rw [nn_bit hs (by omega), show (16 : Int32) = nI 16 from rfl, nn_add, xw_aI ha (by omega) (by decide), Option.bind_some, Option.bind_some, show (1 : Int32) = nI 1 from rfl, nn_add, Nat.add_comm 16 i, hv, iI_neg, iI_add, iI_add]
  unfold eT
  rw [he, hf]
  simp only [bI_eq]
  by_cases h : s.testBit e = s.testBit i
  · rw [if_pos h, if_pos h.symm]
  · rw [if_neg h, if_neg (fun q => h q.symm)]
theorem en100 (hS : Shp σ) (hG : GRD I g) (ha : σ.1 a = (20, 66)) {s r i : Nat} (z : Int) (hs : s < 2147483648) (hr : r ≤ g.2.1) (hi : i < g.1 * r) :
    f_X12_energy_j100 (xw σ I) 183 a (nI s) (nI r) (iI z) (nI i) (nI (if s.testBit i then 1 else 0)) = some (.inl (iI (z + if gIn g (g.1 * r) (i + 16) then eT g (zR (I a)) s (i + 16) else 0), nI (i + 1))) := by
  have hb := gAll_b g hG.1
  have hk := gRow3 g hG.1 r (by omega) hr
  have hi2 : i < gSz g := by omega
  unfold f_X12_energy_j100
  have ht := tieTo_ok (b := 1) hS hG (by decide) hi2
  rw [show nI 1 = (1 : Int32) from rfl, Nat.mul_one] at ht
  simp (disch := first | assumption | omega) only [Option.bind_some, Option.map_some, xw_gR, xw_gN, xw_al, xw_ck, xw_uI, xw_ur, xup_at, xur_at, if_true, if_false, reduceIte, and_true, true_and, and_false, false_and, not_true_eq_false, not_false_eq_true, Nat.reduceEqDiff, eq_self, Nat.reduceAdd, Nat.reduceMul, kC1, kG1, kP1, kR1_0, kR1_1, kR1_2, kR1_3, kR1_4, kR1_5, kR1_6, kR1_7, kR1_8, kR1_9, kR1_10, kR1_11, kR1_12, kR1_13, kC2, kG2, kP2, kR2_0, kR2_1, kC3, kG3, kP3, kR3_0, kR3_1, kR3_2, kR3_3, kL4, kA4, kS4, kL5, kA5, kS5, kL6, kA6, kS6, kL7, kA7, kS7, kC8, kG8, kP8, kR8_0, kR8_1, kL9, kA9, kS9, kL10, kA10, kS10, kC11, kG11, kP11, kR11_0, kR11_1, kR11_2, kR11_3, kL12, kA12, kS12, kL13, kA13, kS13, kL14, kA14, kS14, kL15, kA15, kS15, kC16, kG16, kP16, kR16_0, kR16_1, kL17, kA17, kS17, kL18, kA18, kS18, kC19, kG19, kP19, kR19_0, kL20, kL141, kL146, kA146, kS146, kL151, kA151, kS151, kL156, kA156, kS156, kC157, kG157, kP157, kR157_0, kR157_1, kL158, kA158, kS158, kL159, kA159, kS159, kC161, kG161, kP161, kR161_0, kR161_1, kL162, kA162, kS162, kL163, kA163, kS163, kC165, kG165, kP165, kR165_0, kR165_1, kR165_2, kR165_3, kL166, kA166, kS166, kL167, kA167, kS167, kL168, kA168, kS168, kL169, kA169, kS169, kC170, kG170, kP170, kR170_0, kR170_1, kR170_2, kL171, kA171, kS171, kL172, kA172, kS172, kL173, kA173, kS173, kC174, kG174, kP174, kR174_0, kR174_1, kR174_2, kR174_3, kR174_4, kL175, kA175, kS175, kL176, kA176, kS176, kL177, kA177, kS177, kL178, kA178, kS178, kL179, kC180, kG180, kP180, kL181, kL182, kA182, kS182, kC183, kG183, kP183, kR183_1, kR183_3, kR183_5, kR183_6, kR183_7, kR183_8, kR183_9, kR183_21, kR183_26, kR183_27, kR183_30, kR183_31, kR183_33, kR183_34, kR183_36, kR183_37, kR183_38, kR183_39, kR183_40, kR183_41, kR183_42, kR183_43, kR183_44, kL184, kA184, kS184, kL185, kA185, kS185, kL186, kA186, kS186, kL187, kA187, kS187, kL188, kA188, kS188, kL189, kL190, kL191, kA191, kS191, kL192, kA192, kS192, kL193, kA193, kS193, kL194, kA194, kS194, kL195, kA195, kS195, kL196, kA196, kS196, kL197, kA197, kS197, kL198, kA198, kS198, kL199, kA199, kS199, kL200, kA200, kS200, kL201, kL202, kA202, kS202, kL203, kA203, kS203, kL204, kA204, kS204, kL205, kL206, kA206, kS206, ht]
  cases he : gTo g (i + 16) with
  | none =>
    have e1 : oI none < 0 := by decide
    have e2 : gIn g (g.1 * r) (i + 16) = false := by unfold gIn; rw [he]
    rw [if_pos e1, e2, show (1 : Int32) = nI 1 from rfl, nn_add]
    simp
  | some e =>
    have heb := gTo_b g hG.1 (i + 16) (by omega) e he
    have hf : gFr (i + 16) = i := by unfold gFr; rw [if_neg (by omega)]; omega
    have q := gRow2 g hG.1 r (by omega) hr i (by omega) hi
    rw [he] at q
    have q := of_decide_eq_true q
    have e2 : gIn g (g.1 * r) (i + 16) = decide (e < g.1 * r) := by
      unfold gIn
      rw [he, hf]
      simp [hi]
    have e3 : ¬ oI (some e) < 0 := nI_pos (by omega)
    rw [if_neg e3, e2]
    simp (disch := first | assumption | omega) only [Option.bind_some, Option.map_some, xw_gR, xw_gN, xw_al, xw_ck, xw_uI, xw_ur, xup_at, xur_at, if_true, if_false, reduceIte, and_true, true_and, and_false, false_and, not_true_eq_false, not_false_eq_true, Nat.reduceEqDiff, eq_self, Nat.reduceAdd, Nat.reduceMul, kC1, kG1, kP1, kR1_0, kR1_1, kR1_2, kR1_3, kR1_4, kR1_5, kR1_6, kR1_7, kR1_8, kR1_9, kR1_10, kR1_11, kR1_12, kR1_13, kC2, kG2, kP2, kR2_0, kR2_1, kC3, kG3, kP3, kR3_0, kR3_1, kR3_2, kR3_3, kL4, kA4, kS4, kL5, kA5, kS5, kL6, kA6, kS6, kL7, kA7, kS7, kC8, kG8, kP8, kR8_0, kR8_1, kL9, kA9, kS9, kL10, kA10, kS10, kC11, kG11, kP11, kR11_0, kR11_1, kR11_2, kR11_3, kL12, kA12, kS12, kL13, kA13, kS13, kL14, kA14, kS14, kL15, kA15, kS15, kC16, kG16, kP16, kR16_0, kR16_1, kL17, kA17, kS17, kL18, kA18, kS18, kC19, kG19, kP19, kR19_0, kL20, kL141, kL146, kA146, kS146, kL151, kA151, kS151, kL156, kA156, kS156, kC157, kG157, kP157, kR157_0, kR157_1, kL158, kA158, kS158, kL159, kA159, kS159, kC161, kG161, kP161, kR161_0, kR161_1, kL162, kA162, kS162, kL163, kA163, kS163, kC165, kG165, kP165, kR165_0, kR165_1, kR165_2, kR165_3, kL166, kA166, kS166, kL167, kA167, kS167, kL168, kA168, kS168, kL169, kA169, kS169, kC170, kG170, kP170, kR170_0, kR170_1, kR170_2, kL171, kA171, kS171, kL172, kA172, kS172, kL173, kA173, kS173, kC174, kG174, kP174, kR174_0, kR174_1, kR174_2, kR174_3, kR174_4, kL175, kA175, kS175, kL176, kA176, kS176, kL177, kA177, kS177, kL178, kA178, kS178, kL179, kC180, kG180, kP180, kL181, kL182, kA182, kS182, kC183, kG183, kP183, kR183_1, kR183_3, kR183_5, kR183_6, kR183_7, kR183_8, kR183_9, kR183_21, kR183_26, kR183_27, kR183_30, kR183_31, kR183_33, kR183_34, kR183_36, kR183_37, kR183_38, kR183_39, kR183_40, kR183_41, kR183_42, kR183_43, kR183_44, kL184, kA184, kS184, kL185, kA185, kS185, kL186, kA186, kS186, kL187, kA187, kS187, kL188, kA188, kS188, kL189, kL190, kL191, kA191, kS191, kL192, kA192, kS192, kL193, kA193, kS193, kL194, kA194, kS194, kL195, kA195, kS195, kL196, kA196, kS196, kL197, kA197, kS197, kL198, kA198, kS198, kL199, kA199, kS199, kL200, kA200, kS200, kL201, kL202, kA202, kS202, kL203, kA203, kS203, kL204, kA204, kS204, kL205, kL206, kA206, kS206, oI, nn_le, hG.2.2.2.2.2.2.2.2.1, hG.2.2.2.2.2.2.2.2.2.1, nn_mul, nn_eq]
    by_cases h1 : e ≤ i
    · rw [if_pos h1] at q ⊢
      by_cases h2 : r = g.2.1
      · have h3 := q.mp h2
        rw [if_pos h2, en143 hS hG ha z hs hi2 he]
        simp [h3]
      · have h3 : ¬ e < g.1 * r := fun w => h2 (q.mpr w)
        rw [if_neg h2, show (1 : Int32) = nI 1 from rfl, nn_add]
        simp [h3]
    · rw [if_neg h1]
      by_cases h2 : g.1 * r ≤ e
      · have h3 : ¬ e < g.1 * r := by omega
        rw [if_pos h2, show (1 : Int32) = nI 1 from rfl, nn_add]
        simp [h3]
      · have h3 : e < g.1 * r := by omega
        rw [if_neg h2, en143 hS hG ha z hs hi2 he]
        simp [h3]
theorem en51 (hS : Shp σ) (hG : GRD I g) (ha : σ.1 a = (20, 66)) {s r i : Nat} (z y : Int) (hs : s < 2147483648) (hr : r ≤ g.2.1) (hi : i < g.1 * r) :
    f_X12_energy_j51 (xw σ I) 183 a (nI s) (nI r) (nI i) (nI (if s.testBit i then 1 else 0)) (iI z) (iI y) = some (.inl (iI (z + y + (if gIn g (g.1 * r) i then eT g (zR (I a)) s i else 0) + if gIn g (g.1 * r) (i + 16) then eT g (zR (I a)) s (i + 16) else 0), nI (i + 1))) := by
  have hb := gAll_b g hG.1
  have hk := gRow3 g hG.1 r (by omega) hr
  have hi2 : i < gSz g := by omega
  unfold f_X12_energy_j51
  have ht := tieTo_ok (b := 0) hS hG (by decide) hi2
  rw [show nI 0 = (0 : Int32) from rfl, Nat.mul_zero, Nat.add_zero] at ht
  simp (disch := first | assumption | omega) only [Option.bind_some, Option.map_some, xw_gR, xw_gN, xw_al, xw_ck, xw_uI, xw_ur, xup_at, xur_at, if_true, if_false, reduceIte, and_true, true_and, and_false, false_and, not_true_eq_false, not_false_eq_true, Nat.reduceEqDiff, eq_self, Nat.reduceAdd, Nat.reduceMul, kC1, kG1, kP1, kR1_0, kR1_1, kR1_2, kR1_3, kR1_4, kR1_5, kR1_6, kR1_7, kR1_8, kR1_9, kR1_10, kR1_11, kR1_12, kR1_13, kC2, kG2, kP2, kR2_0, kR2_1, kC3, kG3, kP3, kR3_0, kR3_1, kR3_2, kR3_3, kL4, kA4, kS4, kL5, kA5, kS5, kL6, kA6, kS6, kL7, kA7, kS7, kC8, kG8, kP8, kR8_0, kR8_1, kL9, kA9, kS9, kL10, kA10, kS10, kC11, kG11, kP11, kR11_0, kR11_1, kR11_2, kR11_3, kL12, kA12, kS12, kL13, kA13, kS13, kL14, kA14, kS14, kL15, kA15, kS15, kC16, kG16, kP16, kR16_0, kR16_1, kL17, kA17, kS17, kL18, kA18, kS18, kC19, kG19, kP19, kR19_0, kL20, kL141, kL146, kA146, kS146, kL151, kA151, kS151, kL156, kA156, kS156, kC157, kG157, kP157, kR157_0, kR157_1, kL158, kA158, kS158, kL159, kA159, kS159, kC161, kG161, kP161, kR161_0, kR161_1, kL162, kA162, kS162, kL163, kA163, kS163, kC165, kG165, kP165, kR165_0, kR165_1, kR165_2, kR165_3, kL166, kA166, kS166, kL167, kA167, kS167, kL168, kA168, kS168, kL169, kA169, kS169, kC170, kG170, kP170, kR170_0, kR170_1, kR170_2, kL171, kA171, kS171, kL172, kA172, kS172, kL173, kA173, kS173, kC174, kG174, kP174, kR174_0, kR174_1, kR174_2, kR174_3, kR174_4, kL175, kA175, kS175, kL176, kA176, kS176, kL177, kA177, kS177, kL178, kA178, kS178, kL179, kC180, kG180, kP180, kL181, kL182, kA182, kS182, kC183, kG183, kP183, kR183_1, kR183_3, kR183_5, kR183_6, kR183_7, kR183_8, kR183_9, kR183_21, kR183_26, kR183_27, kR183_30, kR183_31, kR183_33, kR183_34, kR183_36, kR183_37, kR183_38, kR183_39, kR183_40, kR183_41, kR183_42, kR183_43, kR183_44, kL184, kA184, kS184, kL185, kA185, kS185, kL186, kA186, kS186, kL187, kA187, kS187, kL188, kA188, kS188, kL189, kL190, kL191, kA191, kS191, kL192, kA192, kS192, kL193, kA193, kS193, kL194, kA194, kS194, kL195, kA195, kS195, kL196, kA196, kS196, kL197, kA197, kS197, kL198, kA198, kS198, kL199, kA199, kS199, kL200, kA200, kS200, kL201, kL202, kA202, kS202, kL203, kA203, kS203, kL204, kA204, kS204, kL205, kL206, kA206, kS206, ht]
  cases he : gTo g i with
  | none =>
    have e1 : oI none < 0 := by decide
    have e2 : gIn g (g.1 * r) i = false := by unfold gIn; rw [he]
    rw [if_pos e1, e2, iI_add, en100 hS hG ha _ hs hr hi]
    simp
  | some e =>
    have heb := gTo_b g hG.1 i (by omega) e he
    have hf : gFr i = i := by unfold gFr; rw [if_pos (by omega)]
    have q := gRow1 g hG.1 r (by omega) hr i (by omega) hi
    rw [he] at q
    have q : e < g.1 * r := of_decide_eq_true q
    have e2 : gIn g (g.1 * r) i = true := by
      unfold gIn
      rw [he, hf]
      simp [hi, q]
    have e3 : ¬ oI (some e) < 0 := nI_pos (by omega)
    have hv : I a i = iI (zR (I a) i) := iI_of _
    have e4 : eT g (zR (I a)) s i = if s.testBit e = s.testBit i then -zR (I a) i else zR (I a) i := by
      unfold eT
      rw [he, hf]
      dsimp only
      by_cases h : s.testBit e = s.testBit i
      · rw [if_pos h, if_pos h.symm]
      · rw [if_neg h, if_neg (fun q => h q.symm)]
    rw [if_neg e3, e2, e4]
    show (if nI s >>> (nI e &&& 31) &&& 1 = _ then _ else _) = _
    rw [nn_bit hs (by omega), show (0 : Int32) + nI i = nI i by rw [show (0 : Int32) = nI 0 from rfl, nn_add, Nat.zero_add], xw_aI ha (by omega) (by decide), Option.bind_some, Option.bind_some, hv, iI_neg, iI_add, iI_add, iI_add, en100 hS hG ha _ hs hr hi, en100 hS hG ha _ hs hr hi]
    simp only [bI_eq, if_true]
    by_cases h : s.testBit e = s.testBit i
    · rw [if_pos h, if_pos h]
    · rw [if_neg h, if_neg h]
theorem energy12_ok (hS : Shp σ) (hG : GRD I g) (ha : σ.1 a = (20, 66)) {s r : Nat} (hs : s < 2147483648) (hr : r ≤ g.2.1) : f_X12_energy (xw σ I) 183 a (nI s) (nI r) = some (iI (eP g (zR (I a)) (g.1 * r) s)) := by
  have hb := gAll_b g hG.1
  have hk := gRow3 g hG.1 r (by omega) hr
  unfold f_X12_energy
  rw [← eS_sum (by omega)]
  refine xforE (fun i : Nat => (iI (fb_si (eS g (zR (I a)) (g.1 * r) s) i), nI i)) (g.1 * r) rfl (fun i hi => ?_) ?_
  · simp only [f_X12_energy_b6]
    simp (disch := first | assumption | omega) only [Option.bind_some, Option.map_some, xw_gR, xw_gN, xw_al, xw_ck, xw_uI, xw_ur, xup_at, xur_at, if_true, if_false, reduceIte, and_true, true_and, and_false, false_and, not_true_eq_false, not_false_eq_true, Nat.reduceEqDiff, eq_self, Nat.reduceAdd, Nat.reduceMul, kC1, kG1, kP1, kR1_0, kR1_1, kR1_2, kR1_3, kR1_4, kR1_5, kR1_6, kR1_7, kR1_8, kR1_9, kR1_10, kR1_11, kR1_12, kR1_13, kC2, kG2, kP2, kR2_0, kR2_1, kC3, kG3, kP3, kR3_0, kR3_1, kR3_2, kR3_3, kL4, kA4, kS4, kL5, kA5, kS5, kL6, kA6, kS6, kL7, kA7, kS7, kC8, kG8, kP8, kR8_0, kR8_1, kL9, kA9, kS9, kL10, kA10, kS10, kC11, kG11, kP11, kR11_0, kR11_1, kR11_2, kR11_3, kL12, kA12, kS12, kL13, kA13, kS13, kL14, kA14, kS14, kL15, kA15, kS15, kC16, kG16, kP16, kR16_0, kR16_1, kL17, kA17, kS17, kL18, kA18, kS18, kC19, kG19, kP19, kR19_0, kL20, kL141, kL146, kA146, kS146, kL151, kA151, kS151, kL156, kA156, kS156, kC157, kG157, kP157, kR157_0, kR157_1, kL158, kA158, kS158, kL159, kA159, kS159, kC161, kG161, kP161, kR161_0, kR161_1, kL162, kA162, kS162, kL163, kA163, kS163, kC165, kG165, kP165, kR165_0, kR165_1, kR165_2, kR165_3, kL166, kA166, kS166, kL167, kA167, kS167, kL168, kA168, kS168, kL169, kA169, kS169, kC170, kG170, kP170, kR170_0, kR170_1, kR170_2, kL171, kA171, kS171, kL172, kA172, kS172, kL173, kA173, kS173, kC174, kG174, kP174, kR174_0, kR174_1, kR174_2, kR174_3, kR174_4, kL175, kA175, kS175, kL176, kA176, kS176, kL177, kA177, kS177, kL178, kA178, kS178, kL179, kC180, kG180, kP180, kL181, kL182, kA182, kS182, kC183, kG183, kP183, kR183_1, kR183_3, kR183_5, kR183_6, kR183_7, kR183_8, kR183_9, kR183_21, kR183_26, kR183_27, kR183_30, kR183_31, kR183_33, kR183_34, kR183_36, kR183_37, kR183_38, kR183_39, kR183_40, kR183_41, kR183_42, kR183_43, kR183_44, kL184, kA184, kS184, kL185, kA185, kS185, kL186, kA186, kS186, kL187, kA187, kS187, kL188, kA188, kS188, kL189, kL190, kL191, kA191, kS191, kL192, kA192, kS192, kL193, kA193, kS193, kL194, kA194, kS194, kL195, kA195, kS195, kL196, kA196, kS196, kL197, kA197, kS197, kL198, kA198, kS198, kL199, kA199, kS199, kL200, kA200, kS200, kL201, kL202, kA202, kS202, kL203, kA203, kS203, kL204, kA204, kS204, kL205, kL206, kA206, kS206, hG.2.2.2.2.2.2.2.2.1, nn_mul, nn_le, show ¬ (g.1 * r ≤ i) by omega]
    have hv : I a (32 + i) = iI (zR (I a) (32 + i)) := iI_of _
    rw [nn_bit hs (by omega), show (32 : Int32) = nI 32 from rfl, nn_add, xw_aI ha (by omega) (by decide), Option.bind_some, Option.bind_some, hv, iI_neg, en51 hS hG ha _ _ hs hr hi, en51 hS hG ha _ _ hs hr hi, fb_si_succ]
    simp only [bI_1]
    unfold eS eH
    by_cases h : s.testBit i = true
    · rw [if_pos h, if_pos h]
      congr 4; omega
    · rw [if_neg h, if_neg h]
      congr 4; omega
  · simp only [f_X12_energy_b6]
    simp (disch := first | assumption | omega) only [Option.bind_some, Option.map_some, xw_gR, xw_gN, xw_al, xw_ck, xw_uI, xw_ur, xup_at, xur_at, if_true, if_false, reduceIte, and_true, true_and, and_false, false_and, not_true_eq_false, not_false_eq_true, Nat.reduceEqDiff, eq_self, Nat.reduceAdd, Nat.reduceMul, kC1, kG1, kP1, kR1_0, kR1_1, kR1_2, kR1_3, kR1_4, kR1_5, kR1_6, kR1_7, kR1_8, kR1_9, kR1_10, kR1_11, kR1_12, kR1_13, kC2, kG2, kP2, kR2_0, kR2_1, kC3, kG3, kP3, kR3_0, kR3_1, kR3_2, kR3_3, kL4, kA4, kS4, kL5, kA5, kS5, kL6, kA6, kS6, kL7, kA7, kS7, kC8, kG8, kP8, kR8_0, kR8_1, kL9, kA9, kS9, kL10, kA10, kS10, kC11, kG11, kP11, kR11_0, kR11_1, kR11_2, kR11_3, kL12, kA12, kS12, kL13, kA13, kS13, kL14, kA14, kS14, kL15, kA15, kS15, kC16, kG16, kP16, kR16_0, kR16_1, kL17, kA17, kS17, kL18, kA18, kS18, kC19, kG19, kP19, kR19_0, kL20, kL141, kL146, kA146, kS146, kL151, kA151, kS151, kL156, kA156, kS156, kC157, kG157, kP157, kR157_0, kR157_1, kL158, kA158, kS158, kL159, kA159, kS159, kC161, kG161, kP161, kR161_0, kR161_1, kL162, kA162, kS162, kL163, kA163, kS163, kC165, kG165, kP165, kR165_0, kR165_1, kR165_2, kR165_3, kL166, kA166, kS166, kL167, kA167, kS167, kL168, kA168, kS168, kL169, kA169, kS169, kC170, kG170, kP170, kR170_0, kR170_1, kR170_2, kL171, kA171, kS171, kL172, kA172, kS172, kL173, kA173, kS173, kC174, kG174, kP174, kR174_0, kR174_1, kR174_2, kR174_3, kR174_4, kL175, kA175, kS175, kL176, kA176, kS176, kL177, kA177, kS177, kL178, kA178, kS178, kL179, kC180, kG180, kP180, kL181, kL182, kA182, kS182, kC183, kG183, kP183, kR183_1, kR183_3, kR183_5, kR183_6, kR183_7, kR183_8, kR183_9, kR183_21, kR183_26, kR183_27, kR183_30, kR183_31, kR183_33, kR183_34, kR183_36, kR183_37, kR183_38, kR183_39, kR183_40, kR183_41, kR183_42, kR183_43, kR183_44, kL184, kA184, kS184, kL185, kA185, kS185, kL186, kA186, kS186, kL187, kA187, kS187, kL188, kA188, kS188, kL189, kL190, kL191, kA191, kS191, kL192, kA192, kS192, kL193, kA193, kS193, kL194, kA194, kS194, kL195, kA195, kS195, kL196, kA196, kS196, kL197, kA197, kS197, kL198, kA198, kS198, kL199, kA199, kS199, kL200, kA200, kS200, kL201, kL202, kA202, kS202, kL203, kA203, kS203, kL204, kA204, kS204, kL205, kL206, kA206, kS206, hG.2.2.2.2.2.2.2.2.1, nn_mul, nn_le, Nat.le_refl]
end MENERGY
