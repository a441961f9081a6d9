/-! wander -/
abbrev WD := Nat × Nat × Int × Nat
def wdS (g : GD) (F : Nat → Int32) (c : Nat) (w : WD) : WD :=
  if F (48 + nxt w.1 / 65536 % gSz g) = 0 ∧ ((nxt (nxt w.1) / 65536 % 100 : Nat) : Int) < 100 - (c : Int) * eC g (zR F) w.2.1 (nxt w.1 / 65536 % gSz g) then (nxt (nxt w.1), w.2.1 ^^^ 2 ^ (nxt w.1 / 65536 % gSz g), min w.2.2.1 (eE g (zR F) (w.2.1 ^^^ 2 ^ (nxt w.1 / 65536 % gSz g))), w.2.2.2 + 1) else (nxt (nxt w.1), w.2.1, w.2.2.1, w.2.2.2)
def wd (g : GD) (F : Nat → Int32) (c x b : Nat) : Nat → WD
  | 0 => (x, b, eE g (zR F) b, 0)
  | k + 1 => wdS g F c (wd g F c x b k)
theorem wd_0 {g : GD} {F : Nat → Int32} {c x b : Nat} : wd g F c x b 0 = (x, b, eE g (zR F) b, 0) := by rw [wd]
theorem mul_bd {c : Nat} {z : Int} (hc : c ≤ 100) (h1 : -288 ≤ z) (h2 : z ≤ 288) : -28800 ≤ (c : Int) * z ∧ (c : Int) * z ≤ 28800 := by
  have a : (c : Int) * z ≤ (c : Int) * 288 := Int.mul_le_mul_of_nonneg_left h2 (by omega)
  have b : (c : Int) * (-288) ≤ (c : Int) * z := Int.mul_le_mul_of_nonneg_left h1 (by omega)
  omega
theorem wd_ok {g : GD} (hg : g ∈ gAll) {F : Nat → Int32} (ho : RO g F) {c x b : Nat} (hx : x < 2147483648) (hb : b < gSt g) (hl : lW g F b = true) : ∀ k, (wd g F c x b k).1 < 2147483648 ∧ (wd g F c x b k).2.1 < gSt g ∧ lW g F (wd g F c x b k).2.1 = true ∧ (-144 ≤ (wd g F c x b k).2.2.1 ∧ (wd g F c x b k).2.2.1 ≤ 144) ∧ (wd g F c x b k).2.2.2 ≤ k
  | 0 => ⟨hx, hb, hl, eE_b hg ho b, Nat.le_refl _⟩
  | k + 1 => by
    obtain ⟨h1, h2, h3, h4, h5⟩ := wd_ok hg ho (c := c) hx hb hl k
    have hn : 0 < gSz g := (gSt_pos h2).1
    have hi : nxt (wd g F c x b k).1 / 65536 % gSz g < gSz g := Nat.mod_lt _ hn
    rw [wd]
    unfold wdS
    split
    · next hc =>
      have he := eE_b hg ho ((wd g F c x b k).2.1 ^^^ 2 ^ (nxt (wd g F c x b k).1 / 65536 % gSz g))
      refine ⟨nxt_b _, gSt_flip h2 hi, ?_, ?_, ?_⟩
      · rw [lW_flip hi h3]; exact decide_eq_true hc.1
      · dsimp only; omega
      · dsimp only; omega
    · exact ⟨nxt_b _, h2, h3, h4, by dsimp only; omega⟩
def wkI (I : Nat → Nat → Int32) (b t : Nat) (l : Int) : Nat → Nat → Int32 := xup (xup (xup I 180 0 (nI b)) 180 1 (nI t)) 180 2 (iI l)
theorem wkI_out {I : Nat → Nat → Int32} {b t a k : Nat} {l : Int} (h : a ≠ 180) : wkI I b t l a k = I a k := by
  unfold wkI
  rw [xup_at, if_neg (by omega), xup_at, if_neg (by omega), xup_at, if_neg (by omega)]
theorem wkI_v {I : Nat → Nat → Int32} {b t : Nat} {l : Int} : wkI I b t l 180 0 = nI b ∧ wkI I b t l 180 1 = nI t ∧ wkI I b t l 180 2 = iI l := by
  unfold wkI
  simp [xup_at]
theorem wkI_s {I : Nat → Nat → Int32} {b t b' t' : Nat} {l l' : Int} : xup (xup (xup (wkI I b t l) 180 0 (nI b')) 180 1 (nI t')) 180 2 (iI l') = wkI I b' t' l' := by
  funext a k
  unfold wkI
  simp only [xup_at]
  by_cases h : a = 180
  · subst h
    by_cases h0 : k = 0
    · simp [h0]
    · by_cases h1 : k = 1
      · simp [h1]
      · by_cases h2 : k = 2
        · simp [h2]
        · simp [h0, h1, h2]
  · simp [h]
section WANDER
variable {σ : XS} {J : Nat → Nat → Int32} {g : GD} {F : Nat → Int32}
theorem stroll_step (hS : Shp σ) (hG : GRD J g) (ho : RO g F) (hSR : SR g J 16 F) {m c x b t k x1 x2 i y : Nat} {l : Int} (hk : k < m) (hm : m ≤ 200) (hc : c ≤ 100) (n1 : f_X11_nextLot (lN x) = some (lN x1)) (n2 : f_X11_lotOf (lN x1) (nI (gSz g)) = some (nI i)) (n3 : f_X11_nextLot (lN x1) = some (lN x2)) (n4 : f_X11_lotOf (lN x2) (nI 100) = some (nI y)) (hi2 : i < gSz g) (hy : y < 100) (hb : b < gSt g) (hl1 : -144 ≤ l) (hl2 : l ≤ 144) :
    f_X10_strollFrom_b40 180 11 16 (nI m) (nI c) (iI (eE g (zR F) b), lN x, nI k, xw σ (wkI J b t l)) = (if F (48 + i) = 0 ∧ (y : Int) < 100 - (c : Int) * eC g (zR F) b i then some (.inl (iI (eE g (zR F) (b ^^^ 2 ^ i)), lN x2, nI (k + 1), xw σ (wkI J (b ^^^ 2 ^ i) (t + 1) (min l (eE g (zR F) (b ^^^ 2 ^ i)))))) else some (.inl (iI (eE g (zR F) b), lN x2, nI (k + 1), xw σ (wkI J b t l)))) := by
  have hg := hG.1
  have h16 := (gAll_b g hg).2.2.1
  have hSt := (gSt_b hg).1
  obtain ⟨-, -, ⟨p, u, e3, e4, e5, e6⟩, e7, e8⟩ := id hSR
  have hp : p < 65536 := Nat.lt_pow_two_of_testBit (n := 16) p (fun j hj => by rw [e5]; simp; omega)
  have hGw : GRD (wkI J b t l) g := GRD_c (fun a k z => wkI_out (by unfold sGRD at z; omega)) hG
  have hSw : SR g (wkI J b t l) 16 F := SR_m hg (fun k _ _ => wkI_out (by omega)) (fun k _ => wkI_out (by omega)) (fun k _ => wkI_out (by omega)) (fun k _ => rfl) hSR
  have hcb := sp_b hg ho b hi2
  have hmb := mul_bd hc hcb.1 hcb.2
  have v := wkI_v (I := J) (b := b) (t := t) (l := l)
  have hcost := cost_ok (a := 16) hS hGw suA_16 hSw (s := b) (by omega) hi2
  have hpin := isPinned_ok (I := wkI J b t l) (t := i) hS suA_16 (show wkI J b t l 16 2 = nI p by rw [wkI_out (by decide)]; exact e3) hp (by omega)
  have g7 := hGw.2.2.2.2.1
  have hcmp : (nI 100 - nI c * iI (eC g (zR F) b i) ≤ nI y) = (100 - (c : Int) * eC g (zR F) b i ≤ (y : Int)) := by
    rw [iI_n, iI_n, iI_mul, iI_sub, iI_n, iI_le (by omega) (by omega) (by omega) (by omega)]
    rfl
  have hflip := eE_flip hg (zR F) (s := b) hi2
  have hfb := eE_b hg ho (b ^^^ 2 ^ i)
  have hpb : (p.testBit i = false) = (F (48 + i) = 0) := by rw [e5]; simp [hi2]
  simp only [f_X10_strollFrom_b40]
  rw [if_neg (by rw [nn_le (by omega) (by omega)]; omega), n1, Option.bind_some]
  simp (disch := first | assumption | omega) only [Option.bind_some, Option.map_some, xw_gR, xw_gN, xw_al, xw_ck, xw_uI, xw_ur, xup_at, xur_at, if_true, if_false, reduceIte, and_true, true_and, and_false, false_and, not_true_eq_false, not_false_eq_true, Nat.reduceEqDiff, eq_self, Nat.reduceAdd, Nat.reduceMul, kC1, kG1, kP1, kR1_0, kR1_1, kR1_2, kR1_3, kR1_4, kR1_5, kR1_6, kR1_7, kR1_8, kR1_9, kR1_10, kR1_11, kR1_12, kR1_13, kC2, kG2, kP2, kR2_0, kR2_1, kC3, kG3, kP3, kR3_0, kR3_1, kR3_2, kR3_3, kL4, kA4, kS4, kL5, kA5, kS5, kL6, kA6, kS6, kL7, kA7, kS7, kC8, kG8, kP8, kR8_0, kR8_1, kL9, kA9, kS9, kL10, kA10, kS10, kC11, kG11, kP11, kR11_0, kR11_1, kR11_2, kR11_3, kL12, kA12, kS12, kL13, kA13, kS13, kL14, kA14, kS14, kL15, kA15, kS15, kC16, kG16, kP16, kR16_0, kR16_1, kL17, kA17, kS17, kL18, kA18, kS18, kC19, kG19, kP19, kR19_0, kL20, kL141, kL146, kA146, kS146, kL151, kA151, kS151, kL156, kA156, kS156, kC157, kG157, kP157, kR157_0, kR157_1, kL158, kA158, kS158, kL159, kA159, kS159, kC161, kG161, kP161, kR161_0, kR161_1, kL162, kA162, kS162, kL163, kA163, kS163, kC165, kG165, kP165, kR165_0, kR165_1, kR165_2, kR165_3, kL166, kA166, kS166, kL167, kA167, kS167, kL168, kA168, kS168, kL169, kA169, kS169, kC170, kG170, kP170, kR170_0, kR170_1, kR170_2, kL171, kA171, kS171, kL172, kA172, kS172, kL173, kA173, kS173, kC174, kG174, kP174, kR174_0, kR174_1, kR174_2, kR174_3, kR174_4, kL175, kA175, kS175, kL176, kA176, kS176, kL177, kA177, kS177, kL178, kA178, kS178, kL179, kC180, kG180, kP180, kL181, kL182, kA182, kS182, kC183, kG183, kP183, kR183_1, kR183_3, kR183_5, kR183_6, kR183_7, kR183_8, kR183_9, kR183_21, kR183_26, kR183_27, kR183_30, kR183_31, kR183_33, kR183_34, kR183_36, kR183_37, kR183_38, kR183_39, kR183_40, kR183_41, kR183_42, kR183_43, kR183_44, kL184, kA184, kS184, kL185, kA185, kS185, kL186, kA186, kS186, kL187, kA187, kS187, kL188, kA188, kS188, kL189, kL190, kL191, kA191, kS191, kL192, kA192, kS192, kL193, kA193, kS193, kL194, kA194, kS194, kL195, kA195, kS195, kL196, kA196, kS196, kL197, kA197, kS197, kL198, kA198, kS198, kL199, kA199, kS199, kL200, kA200, kS200, kL201, kL202, kA202, kS202, kL203, kA203, kS203, kL204, kA204, kS204, kL205, kL206, kA206, kS206, g7, n2, n3, v.1, hcost, hpin, bI_0, hpb, show (100 : Int32) = nI 100 from rfl, n4, hcmp]
  rw [← nI_succ]
  by_cases h0 : F (48 + i) = 0
  · rw [if_pos h0]
    by_cases hy : 100 - (c : Int) * eC g (zR F) b i ≤ (y : Int)
    · rw [if_pos hy, if_neg (fun z => by omega)]
    · rw [if_neg hy, if_pos ⟨h0, by omega⟩]
      simp (disch := first | assumption | omega) only [Option.bind_some, Option.map_some, xw_gR, xw_gN, xw_al, xw_ck, xw_uI, xw_ur, xup_at, xur_at, if_true, if_false, reduceIte, and_true, true_and, and_false, false_and, not_true_eq_false, not_false_eq_true, Nat.reduceEqDiff, eq_self, Nat.reduceAdd, Nat.reduceMul, kC1, kG1, kP1, kR1_0, kR1_1, kR1_2, kR1_3, kR1_4, kR1_5, kR1_6, kR1_7, kR1_8, kR1_9, kR1_10, kR1_11, kR1_12, kR1_13, kC2, kG2, kP2, kR2_0, kR2_1, kC3, kG3, kP3, kR3_0, kR3_1, kR3_2, kR3_3, kL4, kA4, kS4, kL5, kA5, kS5, kL6, kA6, kS6, kL7, kA7, kS7, kC8, kG8, kP8, kR8_0, kR8_1, kL9, kA9, kS9, kL10, kA10, kS10, kC11, kG11, kP11, kR11_0, kR11_1, kR11_2, kR11_3, kL12, kA12, kS12, kL13, kA13, kS13, kL14, kA14, kS14, kL15, kA15, kS15, kC16, kG16, kP16, kR16_0, kR16_1, kL17, kA17, kS17, kL18, kA18, kS18, kC19, kG19, kP19, kR19_0, kL20, kL141, kL146, kA146, kS146, kL151, kA151, kS151, kL156, kA156, kS156, kC157, kG157, kP157, kR157_0, kR157_1, kL158, kA158, kS158, kL159, kA159, kS159, kC161, kG161, kP161, kR161_0, kR161_1, kL162, kA162, kS162, kL163, kA163, kS163, kC165, kG165, kP165, kR165_0, kR165_1, kR165_2, kR165_3, kL166, kA166, kS166, kL167, kA167, kS167, kL168, kA168, kS168, kL169, kA169, kS169, kC170, kG170, kP170, kR170_0, kR170_1, kR170_2, kL171, kA171, kS171, kL172, kA172, kS172, kL173, kA173, kS173, kC174, kG174, kP174, kR174_0, kR174_1, kR174_2, kR174_3, kR174_4, kL175, kA175, kS175, kL176, kA176, kS176, kL177, kA177, kS177, kL178, kA178, kS178, kL179, kC180, kG180, kP180, kL181, kL182, kA182, kS182, kC183, kG183, kP183, kR183_1, kR183_3, kR183_5, kR183_6, kR183_7, kR183_8, kR183_9, kR183_21, kR183_26, kR183_27, kR183_30, kR183_31, kR183_33, kR183_34, kR183_36, kR183_37, kR183_38, kR183_39, kR183_40, kR183_41, kR183_42, kR183_43, kR183_44, kL184, kA184, kS184, kL185, kA185, kS185, kL186, kA186, kS186, kL187, kA187, kS187, kL188, kA188, kS188, kL189, kL190, kL191, kA191, kS191, kL192, kA192, kS192, kL193, kA193, kS193, kL194, kA194, kS194, kL195, kA195, kS195, kL196, kA196, kS196, kL197, kA197, kS197, kL198, kA198, kS198, kL199, kA199, kS199, kL200, kA200, kS200, kL201, kL202, kA202, kS202, kL203, kA203, kS203, kL204, kA204, kS204, kL205, kL206, kA206, kS206, v.1, v.2.1, v.2.2, nn_one, nn_xor, ← nI_succ, iI_add]
      rw [← hflip, xmin_i (by omega) (by omega) (by omega) (by omega), wkI_s]
  · rw [if_neg h0, if_neg (fun z => h0 z.1)]
theorem stroll_ok (hS : Shp σ) (hG : GRD J g) (ho : RO g F) (hSR : SR g J 16 F) {m c x b : Nat} (hm : m ≤ 200) (hc : c ≤ 100) (hx : x < 2147483648) (h5 : F 65 = nI x) (h4 : F 64 = nI b) (hb : b < gSt g) (hl : lW g F b = true) :
    f_X10_strollFrom (xw σ J) 180 11 16 (nI m) (nI c) = some (xw σ (wkI J (wd g F c x b m).2.1 (wd g F c x b m).2.2.2 (wd g F c x b m).2.2.1)) := by
  have hg := hG.1
  have h16 := (gAll_b g hg).2.2.1
  have hSt := (gSt_b hg).1
  have hn : 0 < gSz g := (gSt_pos hb).1
  have w := wd_ok (c := c) hg ho hx hb hl
  obtain ⟨-, -, ⟨p, u, e3, e4, e5, e6⟩, e7, e8⟩ := id hSR
  have hp : p < 65536 := Nat.lt_pow_two_of_testBit (n := 16) p (fun j hj => by rw [e5]; simp; omega)
  have q0 : J 16 4 = nI b := e7.trans h4
  have q1 : J 16 5 = nI x := e8.trans h5
  have z0 : xup (xup J 180 0 (nI b)) 180 1 0 = flI J b 0 := rfl
  have en : f_X3_energyOf (xw σ (flI J b 0)) 11 16 (nI b) = some (iI (eE g (zR F) b)) := energy11_ok hS (GRD_c (fun a k z => flI_out (by unfold sGRD at z; omega)) hG) suA_16 (SR_m hg (fun k _ _ => flI_out (by omega)) (fun k _ => flI_out (by omega)) (fun k _ => flI_out (by omega)) (fun k _ => rfl) hSR) (by omega)
  have z1 : xup (flI J b 0) 180 2 (iI (eE g (zR F) b)) = wkI J b 0 (eE g (zR F) b) := rfl
  have f0 : flI J b 0 180 0 = nI b := by unfold flI; simp [xup_at]
  have hGw : ∀ b t l, GRD (wkI J b t l) g := fun b t l => GRD_c (fun a k z => wkI_out (by unfold sGRD at z; omega)) hG
  have hSw : ∀ b t l, SR g (wkI J b t l) 16 F := fun b t l => SR_m hg (fun k _ _ => wkI_out (by omega)) (fun k _ => wkI_out (by omega)) (fun k _ => wkI_out (by omega)) (fun k _ => rfl) hSR
  unfold f_X10_strollFrom
  simp (disch := first | assumption | omega) only [Option.bind_some, Option.map_some, xw_gR, xw_gN, xw_al, xw_ck, xw_uI, xw_ur, xup_at, xur_at, if_true, if_false, reduceIte, and_true, true_and, and_false, false_and, not_true_eq_false, not_false_eq_true, Nat.reduceEqDiff, eq_self, Nat.reduceAdd, Nat.reduceMul, kC1, kG1, kP1, kR1_0, kR1_1, kR1_2, kR1_3, kR1_4, kR1_5, kR1_6, kR1_7, kR1_8, kR1_9, kR1_10, kR1_11, kR1_12, kR1_13, kC2, kG2, kP2, kR2_0, kR2_1, kC3, kG3, kP3, kR3_0, kR3_1, kR3_2, kR3_3, kL4, kA4, kS4, kL5, kA5, kS5, kL6, kA6, kS6, kL7, kA7, kS7, kC8, kG8, kP8, kR8_0, kR8_1, kL9, kA9, kS9, kL10, kA10, kS10, kC11, kG11, kP11, kR11_0, kR11_1, kR11_2, kR11_3, kL12, kA12, kS12, kL13, kA13, kS13, kL14, kA14, kS14, kL15, kA15, kS15, kC16, kG16, kP16, kR16_0, kR16_1, kL17, kA17, kS17, kL18, kA18, kS18, kC19, kG19, kP19, kR19_0, kL20, kL141, kL146, kA146, kS146, kL151, kA151, kS151, kL156, kA156, kS156, kC157, kG157, kP157, kR157_0, kR157_1, kL158, kA158, kS158, kL159, kA159, kS159, kC161, kG161, kP161, kR161_0, kR161_1, kL162, kA162, kS162, kL163, kA163, kS163, kC165, kG165, kP165, kR165_0, kR165_1, kR165_2, kR165_3, kL166, kA166, kS166, kL167, kA167, kS167, kL168, kA168, kS168, kL169, kA169, kS169, kC170, kG170, kP170, kR170_0, kR170_1, kR170_2, kL171, kA171, kS171, kL172, kA172, kS172, kL173, kA173, kS173, kC174, kG174, kP174, kR174_0, kR174_1, kR174_2, kR174_3, kR174_4, kL175, kA175, kS175, kL176, kA176, kS176, kL177, kA177, kS177, kL178, kA178, kS178, kL179, kC180, kG180, kP180, kL181, kL182, kA182, kS182, kC183, kG183, kP183, kR183_1, kR183_3, kR183_5, kR183_6, kR183_7, kR183_8, kR183_9, kR183_21, kR183_26, kR183_27, kR183_30, kR183_31, kR183_33, kR183_34, kR183_36, kR183_37, kR183_38, kR183_39, kR183_40, kR183_41, kR183_42, kR183_43, kR183_44, kL184, kA184, kS184, kL185, kA185, kS185, kL186, kA186, kS186, kL187, kA187, kS187, kL188, kA188, kS188, kL189, kL190, kL191, kA191, kS191, kL192, kA192, kS192, kL193, kA193, kS193, kL194, kA194, kS194, kL195, kA195, kS195, kL196, kA196, kS196, kL197, kA197, kS197, kL198, kA198, kS198, kL199, kA199, kS199, kL200, kA200, kS200, kL201, kL202, kA202, kS202, kL203, kA203, kS203, kL204, kA204, kS204, kL205, kL206, kA206, kS206, q0, z0, f0, en, z1, wkI_out (I := J) (a := 16) (k := 5) (show 16 ≠ 180 by decide), q1, nI_i64]
  refine xforE (fun k : Nat => (iI (eE g (zR F) (wd g F c x b k).2.1), lN (wd g F c x b k).1, nI k, xw σ (wkI J (wd g F c x b k).2.1 (wd g F c x b k).2.2.2 (wd g F c x b k).2.2.1))) m (by simp only [wd_0]; rfl) (fun k hk => ?_) ?_
  · have hw := w k
    have hs := stroll_step (k := k) (m := m) (c := c) (x := (wd g F c x b k).1) (t := (wd g F c x b k).2.2.2) (l := (wd g F c x b k).2.2.1) hS hG ho hSR (by omega) (by omega) hc (nextLot_ok hw.1) (lotOf_ok (nxt_b _) hn (by omega)) (nextLot_ok (nxt_b _)) (lotOf_ok (b := 100) (nxt_b _) (by decide) (by decide)) (Nat.mod_lt _ hn) (Nat.mod_lt _ (by decide)) hw.2.1 hw.2.2.2.1.1 hw.2.2.2.1.2
    have e1 : wd g F c x b (k + 1) = wdS g F c (wd g F c x b k) := by rw [wd]
    refine hs.trans ?_
    show _ = some (Sum.inl (iI (eE g (zR F) (wd g F c x b (k + 1)).2.1), lN (wd g F c x b (k + 1)).1, nI (k + 1), xw σ (wkI J (wd g F c x b (k + 1)).2.1 (wd g F c x b (k + 1)).2.2.2 (wd g F c x b (k + 1)).2.2.1)))
    rw [e1]
    unfold wdS
    split
    · rfl
    · rfl
  · simp only [f_X10_strollFrom_b40]
    rw [if_pos (by rw [nn_le (by omega) (by omega)]; exact Nat.le_refl _)]
    rfl
theorem wander12 (hS : Shp σ) (hG : GRD J g) (ho : RO g F) (hK : KNK J g F) (hr : J 191 = F) {m c x b w : Nat} (hm : m ≤ 200) (hc : c ≤ 100) (hx : x < 2147483648) (hb : b < gSt g) (hl : lW g F b = true) (hw : w < 3) :
    xloop (f_X12_wander_b79 (xw σ J) 183 (nI m) (nI c) (nI w)) (lN x, nI b, iI (eE g (zR F) b), (0 : Int32), (0 : Int32)) = some (if w = 0 then nI (wd g F c x b m).2.1 else if w = 1 then iI (wd g F c x b m).2.2.1 else nI (wd g F c x b m).2.2.2, xw σ J) := by
  have hg := hG.1
  have h16 := (gAll_b g hg).2.2.1
  have hSt := (gSt_b hg).1
  have hn : 0 < gSz g := (gSt_pos hb).1
  have ww := wd_ok (c := c) hg ho hx hb hl
  refine xforE (fun k : Nat => (lN (wd g F c x b k).1, nI (wd g F c x b k).2.1, iI (wd g F c x b k).2.2.1, nI (wd g F c x b k).2.2.2, nI k)) m (by simp only [wd_0]; rfl) (fun k hk => ?_) ?_
  · obtain ⟨W, hW⟩ : ∃ W, W = wd g F c x b k := ⟨_, rfl⟩
    have hw := ww k
    rw [← hW] at hw
    obtain ⟨w1, w2, w3, w4, w5⟩ := hw
    show f_X12_wander_b79 (xw σ J) 183 (nI m) (nI c) (nI w) (lN (wd g F c x b k).1, nI (wd g F c x b k).2.1, iI (wd g F c x b k).2.2.1, nI (wd g F c x b k).2.2.2, nI k) = some (.inl (lN (wd g F c x b (k + 1)).1, nI (wd g F c x b (k + 1)).2.1, iI (wd g F c x b (k + 1)).2.2.1, nI (wd g F c x b (k + 1)).2.2.2, nI (k + 1)))
    rw [wd, ← hW]
    obtain ⟨i, hi⟩ : ∃ i, i = nxt W.1 / 65536 % gSz g := ⟨_, rfl⟩
    have hi2 : i < gSz g := by rw [hi]; exact Nat.mod_lt _ hn
    have hcb := sp_b hg ho W.2.1 hi2
    have hmb := mul_bd hc hcb.1 hcb.2
    have y100 : nxt (nxt W.1) / 65536 % 100 < 100 := Nat.mod_lt _ (by decide)
    have nb1 := nxt_b W.1
    have nb2 := nxt_b (nxt W.1)
    have lot1 : ((lN (nxt W.1) / (65536 : Int64)) - (lN (nxt W.1) / (65536 : Int64)) / lN (gSz g) * lN (gSz g)).toInt32 = nI i := by
      rw [show (65536 : Int64) = lN 65536 from rfl, vL_div (by omega) (by omega), vL_rem (by omega) (by omega), ← hi, vL_i32 (by omega)]
    have lot2 : ((lN (nxt (nxt W.1)) / (65536 : Int64)) - (lN (nxt (nxt W.1)) / (65536 : Int64)) / (100 : Int64) * (100 : Int64)).toInt32 = nI (nxt (nxt W.1) / 65536 % 100) := by
      rw [show (65536 : Int64) = lN 65536 from rfl, vL_div (by omega) (by omega), show (100 : Int64) = lN 100 from rfl, vL_rem (by omega) (by omega), vL_i32 (by omega)]
    have hdz : xdZ (lN (gSz g)) = some () := by
      unfold xdZ
      rw [if_neg (by rw [show (0 : Int64) = lN 0 from rfl, vL_eq (by omega) (by omega)]; omega)]
    have hcmp : (nI (nxt (nxt W.1) / 65536 % 100) < (100 : Int32) - nI c * iI (eC g (zR F) W.2.1 i)) = (((nxt (nxt W.1) / 65536 % 100 : Nat) : Int) < 100 - (c : Int) * eC g (zR F) W.2.1 i) := by
      rw [show (100 : Int32) = iI 100 from rfl, iI_n, iI_n, iI_mul, iI_sub, iI_lt (by omega) (by omega) (by omega) (by omega)]
    have hpin : J 191 (48 + i) = F (48 + i) := by rw [hr]
    have hp3 := (ho.2.1 i (by omega)).1
    have hpc : (0 < F (48 + i)) = ¬ (F (48 + i) = 0) := by
      rcases hp3 with z | z | z <;> rw [z] <;> decide
    have hcost := costOf_ok (σ := σ) (I := J) hS hG (s := W.2.1) (i := i) (by omega) hi2
    rw [hr] at hcost
    have hfl := gSt_flip w2 hi2
    have hflip := eE_flip hg (zR F) (s := W.2.1) hi2
    have hfb := eE_b hg ho (W.2.1 ^^^ 2 ^ i)
    simp only [f_X12_wander_b79]
    rw [if_neg (by rw [nn_le (by omega) (by omega)]; omega), nextOf_ok w1, Option.bind_some]
    simp (disch := first | assumption | omega) only [Option.bind_some, Option.map_some, xw_gR, xw_gN, xw_al, xw_ck, xw_uI, xw_ur, xup_at, xur_at, if_true, if_false, reduceIte, and_true, true_and, and_false, false_and, not_true_eq_false, not_false_eq_true, Nat.reduceEqDiff, eq_self, Nat.reduceAdd, Nat.reduceMul, kC1, kG1, kP1, kR1_0, kR1_1, kR1_2, kR1_3, kR1_4, kR1_5, kR1_6, kR1_7, kR1_8, kR1_9, kR1_10, kR1_11, kR1_12, kR1_13, kC2, kG2, kP2, kR2_0, kR2_1, kC3, kG3, kP3, kR3_0, kR3_1, kR3_2, kR3_3, kL4, kA4, kS4, kL5, kA5, kS5, kL6, kA6, kS6, kL7, kA7, kS7, kC8, kG8, kP8, kR8_0, kR8_1, kL9, kA9, kS9, kL10, kA10, kS10, kC11, kG11, kP11, kR11_0, kR11_1, kR11_2, kR11_3, kL12, kA12, kS12, kL13, kA13, kS13, kL14, kA14, kS14, kL15, kA15, kS15, kC16, kG16, kP16, kR16_0, kR16_1, kL17, kA17, kS17, kL18, kA18, kS18, kC19, kG19, kP19, kR19_0, kL20, kL141, kL146, kA146, kS146, kL151, kA151, kS151, kL156, kA156, kS156, kC157, kG157, kP157, kR157_0, kR157_1, kL158, kA158, kS158, kL159, kA159, kS159, kC161, kG161, kP161, kR161_0, kR161_1, kL162, kA162, kS162, kL163, kA163, kS163, kC165, kG165, kP165, kR165_0, kR165_1, kR165_2, kR165_3, kL166, kA166, kS166, kL167, kA167, kS167, kL168, kA168, kS168, kL169, kA169, kS169, kC170, kG170, kP170, kR170_0, kR170_1, kR170_2, kL171, kA171, kS171, kL172, kA172, kS172, kL173, kA173, kS173, kC174, kG174, kP174, kR174_0, kR174_1, kR174_2, kR174_3, kR174_4, kL175, kA175, kS175, kL176, kA176, kS176, kL177, kA177, kS177, kL178, kA178, kS178, kL179, kC180, kG180, kP180, kL181, kL182, kA182, kS182, kC183, kG183, kP183, kR183_1, kR183_3, kR183_5, kR183_6, kR183_7, kR183_8, kR183_9, kR183_21, kR183_26, kR183_27, kR183_30, kR183_31, kR183_33, kR183_34, kR183_36, kR183_37, kR183_38, kR183_39, kR183_40, kR183_41, kR183_42, kR183_43, kR183_44, kL184, kA184, kS184, kL185, kA185, kS185, kL186, kA186, kS186, kL187, kA187, kS187, kL188, kA188, kS188, kL189, kL190, kL191, kA191, kS191, kL192, kA192, kS192, kL193, kA193, kS193, kL194, kA194, kS194, kL195, kA195, kS195, kL196, kA196, kS196, kL197, kA197, kS197, kL198, kA198, kS198, kL199, kA199, kS199, kL200, kA200, kS200, kL201, kL202, kA202, kS202, kL203, kA203, kS203, kL204, kA204, kS204, kL205, kL206, kA206, kS206, sites_ok hS hG, nI_i64, hdz, nextOf_ok nb1, lot1, show (48 : Int32) = nI 48 from rfl, nn_add, hpin, hpc, hcost, lot2, hcmp, nn_one, nn_xor]
    rw [← nI_succ, ← nI_succ]
    unfold wdS
    rw [← hi]
    by_cases h0 : F (48 + i) = 0
    · simp only [h0, not_true_eq_false, if_false, true_and]
      by_cases hy : ((nxt (nxt W.1) / 65536 % 100 : Nat) : Int) < 100 - (c : Int) * eC g (zR F) W.2.1 i
      · rw [if_pos hy, if_pos hy]
        have hv := hK.1 _ hfl
        rw [lW_flip hi2 w3, decide_eq_true h0, if_pos rfl] at hv
        rw [hv]
        have hle : (iI W.2.2.1 ≤ iI (eE g (zR F) (W.2.1 ^^^ 2 ^ i))) = (W.2.2.1 ≤ eE g (zR F) (W.2.1 ^^^ 2 ^ i)) := iI_le (by omega) (by omega) (by omega) (by omega)
        simp only [hle]
        by_cases hq : W.2.2.1 ≤ eE g (zR F) (W.2.1 ^^^ 2 ^ i)
        · rw [if_pos hq, show min W.2.2.1 (eE g (zR F) (W.2.1 ^^^ 2 ^ i)) = W.2.2.1 by omega]
        · rw [if_neg hq, show min W.2.2.1 (eE g (zR F) (W.2.1 ^^^ 2 ^ i)) = eE g (zR F) (W.2.1 ^^^ 2 ^ i) by omega]
      · rw [if_neg hy, if_neg hy]
    · simp only [h0, not_false_eq_true, if_true, false_and, if_false]
  · simp only [f_X12_wander_b79]
    rw [if_pos (by rw [nn_le (by omega) (by omega)]; exact Nat.le_refl _)]
    rcases (show w = 0 ∨ w = 1 ∨ w = 2 by omega) with rfl | rfl | rfl
    · rfl
    · rfl
    · rfl
end WANDER
