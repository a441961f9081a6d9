/-! joined: in how many ways, of a held setup -/
def wyI (I : Nat → Nat → Int32) (W : Nat) (g : GD) (F : Nat → Int32) (d N s : Nat) : Nat → Nat → Int32 := fun c k => if c = W ∧ k < N then nI (fb_ct (lE g F ((k : Int) - (d : Int))) s) else I c k
theorem wyI_out {I : Nat → Nat → Int32} {W : Nat} {g : GD} {F : Nat → Int32} {d N s c k : Nat} (h : c ≠ W) : wyI I W g F d N s c k = I c k := by
  unfold wyI; rw [if_neg (fun z => h z.1)]
theorem wyI_no {I : Nat → Nat → Int32} {W : Nat} {g : GD} {F : Nat → Int32} {d N s : Nat} (h : lW g F s = false) : wyI I W g F d N (s + 1) = wyI I W g F d N s := by
  funext c k
  unfold wyI
  rw [fb_ct_succ]
  unfold lE
  rw [h]
  rfl
theorem wyI_yes {I : Nat → Nat → Int32} {W : Nat} {g : GD} {F : Nat → Int32} {d N s e : Nat} (h : lW g F s = true) (he : eE g (zR F) s = (e : Int) - (d : Int)) (he2 : e < N) : xup (wyI I W g F d N s) W e (nI (fb_ct (lE g F ((e : Int) - (d : Int))) s) + 1) = wyI I W g F d N (s + 1) := by
  funext c k
  simp only [xup_at, wyI]
  by_cases h1 : c = W
  · subst h1
    by_cases h2 : k = e
    · subst h2
      have e1 : fb_ct (lE g F ((k : Int) - (d : Int))) (s + 1) = fb_ct (lE g F ((k : Int) - (d : Int))) s + 1 := by
        rw [fb_ct_succ]
        unfold lE
        rw [h, he]; simp
      simp [he2, e1, nI_succ]
    · have e1 : fb_ct (lE g F ((k : Int) - (d : Int))) (s + 1) = fb_ct (lE g F ((k : Int) - (d : Int))) s := by
        rw [fb_ct_succ]
        have : lE g F ((k : Int) - (d : Int)) s = false := by
          unfold lE
          rw [h, he]
          have : ¬ ((e : Int) - (d : Int) = (k : Int) - (d : Int)) := by omega
          simp [this]
        rw [this]; simp
      simp [h2, e1]
  · simp [h1]
section HELD
variable {σ : XS} {I : Nat → Nat → Int32} {g : GD} {F : Nat → Int32} {c m : Nat}
theorem countWays_ok (hS : Shp σ) (hG : GRD I g) (ho : RO g F) (hE : EnO σ 161 c m) (hm : 2 ^ gSz g ≤ m) (hv : ∀ s, s < 2 ^ gSz g → I c s = iI (eE g (zR F) s)) {W a : Nat} (hW : σ.1 W = (20, 289)) (ha : a ∈ suA) (hSR : SR g I a F) (hWa : W < 160) (hWg : W ≠ 173 ∧ ¬ (11 ≤ W ∧ W ≤ 15)) (hWs : W ≠ a ∧ W ≠ a + 1 ∧ W ≠ a + 2) :
    f_X11_countWays (xw σ I) 1 W 161 a = some (xw σ (wyI I W g F 144 289 (gSt g))) := by
  have hg := hG.1
  have hSt := (gSt_b hg).1
  have hEb := hE.b
  have hWl : xal σ W = some (nI 289) := by
    rw [xal_ok (by unfold xT; rw [hW]; decide)]
    unfold xlen
    rw [hW]
  have e0 : xur I W (fun j => if j < 289 then 0 else I W j) = wyI I W g F 144 289 0 := by
    funext c k
    unfold xur wyI
    by_cases h : c = W
    · subst h
      by_cases h1 : k < 289
      · simp [h1]; rfl
      · simp [h1]
    · simp [h]
  have hSc : ∀ s, SR g (wyI I W g F 144 289 s) a F := fun s => SR_m hg (fun k _ _ => wyI_out (by omega)) (fun k _ => wyI_out (by omega)) (fun k _ => wyI_out (by omega)) (fun k _ => rfl) hSR
  unfold f_X11_countWays
  simp (disch := first | assumption | omega) only [Option.bind_some, Option.map_some, xw_gR, xw_gN, xw_al, xw_ck, xw_uI, xw_ur, xup_at, xur_at, if_true, if_false, reduceIte, and_true, true_and, and_false, false_and, not_true_eq_false, not_false_eq_true, Nat.reduceEqDiff, eq_self, Nat.reduceAdd, Nat.reduceMul, kC1, kG1, kP1, kR1_0, kR1_1, kR1_2, kR1_3, kR1_4, kR1_5, kR1_6, kR1_7, kR1_8, kR1_9, kR1_10, kR1_11, kR1_12, kR1_13, kC2, kG2, kP2, kR2_0, kR2_1, kC3, kG3, kP3, kR3_0, kR3_1, kR3_2, kR3_3, kL4, kA4, kS4, kL5, kA5, kS5, kL6, kA6, kS6, kL7, kA7, kS7, kC8, kG8, kP8, kR8_0, kR8_1, kL9, kA9, kS9, kL10, kA10, kS10, kC11, kG11, kP11, kR11_0, kR11_1, kR11_2, kR11_3, kL12, kA12, kS12, kL13, kA13, kS13, kL14, kA14, kS14, kL15, kA15, kS15, kC16, kG16, kP16, kR16_0, kR16_1, kL17, kA17, kS17, kL18, kA18, kS18, kC19, kG19, kP19, kR19_0, kL20, kL141, kL146, kA146, kS146, kL151, kA151, kS151, kL156, kA156, kS156, kC157, kG157, kP157, kR157_0, kR157_1, kL158, kA158, kS158, kL159, kA159, kS159, kC161, kG161, kP161, kR161_0, kR161_1, kL162, kA162, kS162, kL163, kA163, kS163, kC165, kG165, kP165, kR165_0, kR165_1, kR165_2, kR165_3, kL166, kA166, kS166, kL167, kA167, kS167, kL168, kA168, kS168, kL169, kA169, kS169, kC170, kG170, kP170, kR170_0, kR170_1, kR170_2, kL171, kA171, kS171, kL172, kA172, kS172, kL173, kA173, kS173, kC174, kG174, kP174, kR174_0, kR174_1, kR174_2, kR174_3, kR174_4, kL175, kA175, kS175, kL176, kA176, kS176, kL177, kA177, kS177, kL178, kA178, kS178, kL179, kC180, kG180, kP180, kL181, kL182, kA182, kS182, kC183, kG183, kP183, kR183_1, kR183_3, kR183_5, kR183_6, kR183_7, kR183_8, kR183_9, kR183_21, kR183_26, kR183_27, kR183_30, kR183_31, kR183_33, kR183_34, kR183_36, kR183_37, kR183_38, kR183_39, kR183_40, kR183_41, kR183_42, kR183_43, kR183_44, kL184, kA184, kS184, kL185, kA185, kS185, kL186, kA186, kS186, kL187, kA187, kS187, kL188, kA188, kS188, kL189, kL190, kL191, kA191, kS191, kL192, kA192, kS192, kL193, kA193, kS193, kL194, kA194, kS194, kL195, kA195, kS195, kL196, kA196, kS196, kL197, kA197, kS197, kL198, kA198, kS198, kL199, kA199, kS199, kL200, kA200, kS200, kL201, kL202, kA202, kS202, kL203, kA203, kS203, kL204, kA204, kS204, kL205, kL206, kA206, kS206, states11_ok hS hG, fillI_ok hW, e0]
  refine xforE (fun s : Nat => (nI s, xw σ (wyI I W g F 144 289 s))) (gSt g) rfl (fun s hs => ?_) ?_
  · have hs2 := (gSt_pos hs).2
    have hof : f_X2_of (xw σ (wyI I W g F 144 289 s)) 161 (nI s) = some (iI (eE g (zR F) s)) := by
      rw [of_at hS hE (by omega), wyI_out (by omega), hv s hs2]
    have hbE := eE_b hg ho s
    obtain ⟨e, he, he2⟩ : ∃ e : Nat, eE g (zR F) s = (e : Int) - 144 ∧ e < 289 := ⟨(eE g (zR F) s + 144).toNat, by omega, by omega⟩
    have e144' : iI (eE g (zR F) s) + (144 : Int32) = nI e := by rw [he]; exact e144 e
    have kv : wyI I W g F 144 289 s W e = nI (fb_ct (lE g F ((e : Int) - 144)) s) := by unfold wyI; rw [if_pos ⟨rfl, he2⟩]; rfl
    simp only [f_X11_countWays_b17]
    rw [if_neg (by rw [nn_le (by omega) (by omega)]; omega)]
    simp (disch := first | assumption | omega) only [Option.bind_some, Option.map_some, xw_gR, xw_gN, xw_al, xw_ck, xw_uI, xw_ur, xup_at, xur_at, if_true, if_false, reduceIte, and_true, true_and, and_false, false_and, not_true_eq_false, not_false_eq_true, Nat.reduceEqDiff, eq_self, Nat.reduceAdd, Nat.reduceMul, kC1, kG1, kP1, kR1_0, kR1_1, kR1_2, kR1_3, kR1_4, kR1_5, kR1_6, kR1_7, kR1_8, kR1_9, kR1_10, kR1_11, kR1_12, kR1_13, kC2, kG2, kP2, kR2_0, kR2_1, kC3, kG3, kP3, kR3_0, kR3_1, kR3_2, kR3_3, kL4, kA4, kS4, kL5, kA5, kS5, kL6, kA6, kS6, kL7, kA7, kS7, kC8, kG8, kP8, kR8_0, kR8_1, kL9, kA9, kS9, kL10, kA10, kS10, kC11, kG11, kP11, kR11_0, kR11_1, kR11_2, kR11_3, kL12, kA12, kS12, kL13, kA13, kS13, kL14, kA14, kS14, kL15, kA15, kS15, kC16, kG16, kP16, kR16_0, kR16_1, kL17, kA17, kS17, kL18, kA18, kS18, kC19, kG19, kP19, kR19_0, kL20, kL141, kL146, kA146, kS146, kL151, kA151, kS151, kL156, kA156, kS156, kC157, kG157, kP157, kR157_0, kR157_1, kL158, kA158, kS158, kL159, kA159, kS159, kC161, kG161, kP161, kR161_0, kR161_1, kL162, kA162, kS162, kL163, kA163, kS163, kC165, kG165, kP165, kR165_0, kR165_1, kR165_2, kR165_3, kL166, kA166, kS166, kL167, kA167, kS167, kL168, kA168, kS168, kL169, kA169, kS169, kC170, kG170, kP170, kR170_0, kR170_1, kR170_2, kL171, kA171, kS171, kL172, kA172, kS172, kL173, kA173, kS173, kC174, kG174, kP174, kR174_0, kR174_1, kR174_2, kR174_3, kR174_4, kL175, kA175, kS175, kL176, kA176, kS176, kL177, kA177, kS177, kL178, kA178, kS178, kL179, kC180, kG180, kP180, kL181, kL182, kA182, kS182, kC183, kG183, kP183, kR183_1, kR183_3, kR183_5, kR183_6, kR183_7, kR183_8, kR183_9, kR183_21, kR183_26, kR183_27, kR183_30, kR183_31, kR183_33, kR183_34, kR183_36, kR183_37, kR183_38, kR183_39, kR183_40, kR183_41, kR183_42, kR183_43, kR183_44, kL184, kA184, kS184, kL185, kA185, kS185, kL186, kA186, kS186, kL187, kA187, kS187, kL188, kA188, kS188, kL189, kL190, kL191, kA191, kS191, kL192, kA192, kS192, kL193, kA193, kS193, kL194, kA194, kS194, kL195, kA195, kS195, kL196, kA196, kS196, kL197, kA197, kS197, kL198, kA198, kS198, kL199, kA199, kS199, kL200, kA200, kS200, kL201, kL202, kA202, kS202, kL203, kA203, kS203, kL204, kA204, kS204, kL205, kL206, kA206, kS206, hof, suC hS ha, allows_ok hS hg ha (hSc s), e144', nn_nneg, hWl, nn_le, show ¬ (289 ≤ e) by omega, xw_aI hW he2 (by decide), xw_sI hW he2 (by decide), kv]
    rw [← nI_succ]
    cases hl : lW g F s with
    | false => rw [if_pos (by decide), wyI_no hl]
    | true =>
      rw [if_neg (by decide)]
      have := wyI_yes (I := I) (W := W) (d := 144) hl he he2
      rw [nI_succ]
      rw [← this]
      rfl
  · simp only [f_X11_countWays_b17]
    rw [if_pos (by rw [nn_le (by omega) (by omega)]; exact Nat.le_refl _)]
    rfl
theorem laysMany_ok (hS : Shp σ) (hG : GRD I g) (ho : RO g F) (hr : I 199 = F) : f_X12_laysMany (xw σ I) 183 199 200 = some (xw σ (wyI I 200 g F 150 301 (gSt g))) := by
  have hg := hG.1
  have h16 := (gAll_b g hg).2.2.1
  have hSt := (gSt_b hg).1
  have K199 : σ.1 199 = (20, 66) := xw_K hS (by decide) (by decide) (by decide)
  unfold f_X12_laysMany
  refine xforE (fun j : Nat => (nI j, xw σ (fun c k => if c = 200 ∧ k < j then nI 0 else I c k))) 301 ?_ (fun j hj => ?_) ?_
  · congr 2
    funext c k
    rw [if_neg (by omega)]
  · simp only [f_X12_laysMany_b2]
    rw [if_neg (by rw [show (301 : Int32) = nI 301 from rfl, nn_le (by omega) (by omega)]; omega)]
    simp (disch := first | assumption | omega) only [Option.bind_some, Option.map_some, xw_gR, xw_gN, xw_al, xw_ck, xw_uI, xw_ur, xup_at, xur_at, if_true, if_false, reduceIte, and_true, true_and, and_false, false_and, not_true_eq_false, not_false_eq_true, Nat.reduceEqDiff, eq_self, Nat.reduceAdd, Nat.reduceMul, kC1, kG1, kP1, kR1_0, kR1_1, kR1_2, kR1_3, kR1_4, kR1_5, kR1_6, kR1_7, kR1_8, kR1_9, kR1_10, kR1_11, kR1_12, kR1_13, kC2, kG2, kP2, kR2_0, kR2_1, kC3, kG3, kP3, kR3_0, kR3_1, kR3_2, kR3_3, kL4, kA4, kS4, kL5, kA5, kS5, kL6, kA6, kS6, kL7, kA7, kS7, kC8, kG8, kP8, kR8_0, kR8_1, kL9, kA9, kS9, kL10, kA10, kS10, kC11, kG11, kP11, kR11_0, kR11_1, kR11_2, kR11_3, kL12, kA12, kS12, kL13, kA13, kS13, kL14, kA14, kS14, kL15, kA15, kS15, kC16, kG16, kP16, kR16_0, kR16_1, kL17, kA17, kS17, kL18, kA18, kS18, kC19, kG19, kP19, kR19_0, kL20, kL141, kL146, kA146, kS146, kL151, kA151, kS151, kL156, kA156, kS156, kC157, kG157, kP157, kR157_0, kR157_1, kL158, kA158, kS158, kL159, kA159, kS159, kC161, kG161, kP161, kR161_0, kR161_1, kL162, kA162, kS162, kL163, kA163, kS163, kC165, kG165, kP165, kR165_0, kR165_1, kR165_2, kR165_3, kL166, kA166, kS166, kL167, kA167, kS167, kL168, kA168, kS168, kL169, kA169, kS169, kC170, kG170, kP170, kR170_0, kR170_1, kR170_2, kL171, kA171, kS171, kL172, kA172, kS172, kL173, kA173, kS173, kC174, kG174, kP174, kR174_0, kR174_1, kR174_2, kR174_3, kR174_4, kL175, kA175, kS175, kL176, kA176, kS176, kL177, kA177, kS177, kL178, kA178, kS178, kL179, kC180, kG180, kP180, kL181, kL182, kA182, kS182, kC183, kG183, kP183, kR183_1, kR183_3, kR183_5, kR183_6, kR183_7, kR183_8, kR183_9, kR183_21, kR183_26, kR183_27, kR183_30, kR183_31, kR183_33, kR183_34, kR183_36, kR183_37, kR183_38, kR183_39, kR183_40, kR183_41, kR183_42, kR183_43, kR183_44, kL184, kA184, kS184, kL185, kA185, kS185, kL186, kA186, kS186, kL187, kA187, kS187, kL188, kA188, kS188, kL189, kL190, kL191, kA191, kS191, kL192, kA192, kS192, kL193, kA193, kS193, kL194, kA194, kS194, kL195, kA195, kS195, kL196, kA196, kS196, kL197, kA197, kS197, kL198, kA198, kS198, kL199, kA199, kS199, kL200, kA200, kS200, kL201, kL202, kA202, kS202, kL203, kA203, kS203, kL204, kA204, kS204, kL205, kL206, kA206, kS206]
    rw [nI_succ]
    congr 4
    funext c k
    simp only [xup_at]
    by_cases q : c = 200
    · subst q
      by_cases q2 : k = j
      · subst q2; simp; rfl
      · have : (k < j + 1) ↔ (k < j) := by omega
        simp [q2, this]
    · simp [q]
  · simp only [f_X12_laysMany_b2]
    rw [if_pos (by decide)]
    have e : (fun c k => if c = 200 ∧ k < 301 then nI 0 else I c k) = wyI I 200 g F 150 301 0 := by
      funext c k
      unfold wyI
      rfl
    rw [e]
    have hGc : ∀ s, GRD (wyI I 200 g F 150 301 s) g := fun s => GRD_c (fun a k z => wyI_out (by unfold sGRD at z; omega)) hG
    have key : xloop (f_X12_laysMany_b21 183 199 200) ((0 : Int32), xw σ (wyI I 200 g F 150 301 0)) = some (xw σ (wyI I 200 g F 150 301 (gSt g))) := by
      refine xforE (fun s : Nat => (nI s, xw σ (wyI I 200 g F 150 301 s))) (gSt g) rfl (fun s hs => ?_) ?_
      · have hrow : wyI I 200 g F 150 301 s 199 = F := by rw [← hr]; funext k; exact wyI_out (by decide)
        have hlb := lawfulBy_ok (σ := σ) (I := wyI I 200 g F 150 301 s) (a := 199) (s := s) (k := gSz g) hS K199 (by omega) h16 (fun i hi => by rw [hrow]; exact (ho.2.1 i (by omega)).1)
        rw [hrow] at hlb
        have hen := energy12_ok (σ := σ) (I := wyI I 200 g F 150 301 s) (a := 199) (s := s) (r := g.2.1) hS (hGc s) K199 (by omega) (Nat.le_refl _)
        rw [hrow] at hen
        have hpa := eP_all hg (zR F) s
        unfold gSz at hpa
        rw [hpa] at hen
        have hbE := eE_b hg ho s
        obtain ⟨e, he, he2⟩ : ∃ e : Nat, eE g (zR F) s = (e : Int) - 150 ∧ e < 301 := ⟨(eE g (zR F) s + 150).toNat, by omega, by omega⟩
        have e150' : (150 : Int32) + iI (eE g (zR F) s) = nI e := by rw [show (150 : Int32) = iI 150 from rfl, iI_add, iI_n]; congr 1; omega
        have kv : wyI I 200 g F 150 301 s 200 e = nI (fb_ct (lE g F ((e : Int) - 150)) s) := by unfold wyI; rw [if_pos ⟨rfl, he2⟩]; rfl
        simp only [f_X12_laysMany_b21]
        simp (disch := first | assumption | omega) only [Option.bind_some, Option.map_some, xw_gR, xw_gN, xw_al, xw_ck, xw_uI, xw_ur, xup_at, xur_at, if_true, if_false, reduceIte, and_true, true_and, and_false, false_and, not_true_eq_false, not_false_eq_true, Nat.reduceEqDiff, eq_self, Nat.reduceAdd, Nat.reduceMul, kC1, kG1, kP1, kR1_0, kR1_1, kR1_2, kR1_3, kR1_4, kR1_5, kR1_6, kR1_7, kR1_8, kR1_9, kR1_10, kR1_11, kR1_12, kR1_13, kC2, kG2, kP2, kR2_0, kR2_1, kC3, kG3, kP3, kR3_0, kR3_1, kR3_2, kR3_3, kL4, kA4, kS4, kL5, kA5, kS5, kL6, kA6, kS6, kL7, kA7, kS7, kC8, kG8, kP8, kR8_0, kR8_1, kL9, kA9, kS9, kL10, kA10, kS10, kC11, kG11, kP11, kR11_0, kR11_1, kR11_2, kR11_3, kL12, kA12, kS12, kL13, kA13, kS13, kL14, kA14, kS14, kL15, kA15, kS15, kC16, kG16, kP16, kR16_0, kR16_1, kL17, kA17, kS17, kL18, kA18, kS18, kC19, kG19, kP19, kR19_0, kL20, kL141, kL146, kA146, kS146, kL151, kA151, kS151, kL156, kA156, kS156, kC157, kG157, kP157, kR157_0, kR157_1, kL158, kA158, kS158, kL159, kA159, kS159, kC161, kG161, kP161, kR161_0, kR161_1, kL162, kA162, kS162, kL163, kA163, kS163, kC165, kG165, kP165, kR165_0, kR165_1, kR165_2, kR165_3, kL166, kA166, kS166, kL167, kA167, kS167, kL168, kA168, kS168, kL169, kA169, kS169, kC170, kG170, kP170, kR170_0, kR170_1, kR170_2, kL171, kA171, kS171, kL172, kA172, kS172, kL173, kA173, kS173, kC174, kG174, kP174, kR174_0, kR174_1, kR174_2, kR174_3, kR174_4, kL175, kA175, kS175, kL176, kA176, kS176, kL177, kA177, kS177, kL178, kA178, kS178, kL179, kC180, kG180, kP180, kL181, kL182, kA182, kS182, kC183, kG183, kP183, kR183_1, kR183_3, kR183_5, kR183_6, kR183_7, kR183_8, kR183_9, kR183_21, kR183_26, kR183_27, kR183_30, kR183_31, kR183_33, kR183_34, kR183_36, kR183_37, kR183_38, kR183_39, kR183_40, kR183_41, kR183_42, kR183_43, kR183_44, kL184, kA184, kS184, kL185, kA185, kS185, kL186, kA186, kS186, kL187, kA187, kS187, kL188, kA188, kS188, kL189, kL190, kL191, kA191, kS191, kL192, kA192, kS192, kL193, kA193, kS193, kL194, kA194, kS194, kL195, kA195, kS195, kL196, kA196, kS196, kL197, kA197, kS197, kL198, kA198, kS198, kL199, kA199, kS199, kL200, kA200, kS200, kL201, kL202, kA202, kS202, kL203, kA203, kS203, kL204, kA204, kS204, kL205, kL206, kA206, kS206, states12_ok hS (hGc s), nn_le, show ¬ (gSt g ≤ s) by omega, sites_ok hS (hGc s), hlb, (hGc s).2.2.2.2.2.2.2.2.2.1, hen, e150', kv]
        rw [← nI_succ]
        show (if (if lW g F s = true then (1 : Int32) else 0) = 0 then _ else _) = _
        cases hl : lW g F s with
        | false => rw [if_pos (by decide), wyI_no hl]
        | true =>
          rw [if_neg (by decide)]
          have := wyI_yes (I := I) (W := 200) (d := 150) hl he he2
          rw [nI_succ]
          rw [← this]
          rfl
      · simp only [f_X12_laysMany_b21]
        simp (disch := first | assumption | omega) only [Option.bind_some, Option.map_some, xw_gR, xw_gN, xw_al, xw_ck, xw_uI, xw_ur, xup_at, xur_at, if_true, if_false, reduceIte, and_true, true_and, and_false, false_and, not_true_eq_false, not_false_eq_true, Nat.reduceEqDiff, eq_self, Nat.reduceAdd, Nat.reduceMul, kC1, kG1, kP1, kR1_0, kR1_1, kR1_2, kR1_3, kR1_4, kR1_5, kR1_6, kR1_7, kR1_8, kR1_9, kR1_10, kR1_11, kR1_12, kR1_13, kC2, kG2, kP2, kR2_0, kR2_1, kC3, kG3, kP3, kR3_0, kR3_1, kR3_2, kR3_3, kL4, kA4, kS4, kL5, kA5, kS5, kL6, kA6, kS6, kL7, kA7, kS7, kC8, kG8, kP8, kR8_0, kR8_1, kL9, kA9, kS9, kL10, kA10, kS10, kC11, kG11, kP11, kR11_0, kR11_1, kR11_2, kR11_3, kL12, kA12, kS12, kL13, kA13, kS13, kL14, kA14, kS14, kL15, kA15, kS15, kC16, kG16, kP16, kR16_0, kR16_1, kL17, kA17, kS17, kL18, kA18, kS18, kC19, kG19, kP19, kR19_0, kL20, kL141, kL146, kA146, kS146, kL151, kA151, kS151, kL156, kA156, kS156, kC157, kG157, kP157, kR157_0, kR157_1, kL158, kA158, kS158, kL159, kA159, kS159, kC161, kG161, kP161, kR161_0, kR161_1, kL162, kA162, kS162, kL163, kA163, kS163, kC165, kG165, kP165, kR165_0, kR165_1, kR165_2, kR165_3, kL166, kA166, kS166, kL167, kA167, kS167, kL168, kA168, kS168, kL169, kA169, kS169, kC170, kG170, kP170, kR170_0, kR170_1, kR170_2, kL171, kA171, kS171, kL172, kA172, kS172, kL173, kA173, kS173, kC174, kG174, kP174, kR174_0, kR174_1, kR174_2, kR174_3, kR174_4, kL175, kA175, kS175, kL176, kA176, kS176, kL177, kA177, kS177, kL178, kA178, kS178, kL179, kC180, kG180, kP180, kL181, kL182, kA182, kS182, kC183, kG183, kP183, kR183_1, kR183_3, kR183_5, kR183_6, kR183_7, kR183_8, kR183_9, kR183_21, kR183_26, kR183_27, kR183_30, kR183_31, kR183_33, kR183_34, kR183_36, kR183_37, kR183_38, kR183_39, kR183_40, kR183_41, kR183_42, kR183_43, kR183_44, kL184, kA184, kS184, kL185, kA185, kS185, kL186, kA186, kS186, kL187, kA187, kS187, kL188, kA188, kS188, kL189, kL190, kL191, kA191, kS191, kL192, kA192, kS192, kL193, kA193, kS193, kL194, kA194, kS194, kL195, kA195, kS195, kL196, kA196, kS196, kL197, kA197, kS197, kL198, kA198, kS198, kL199, kA199, kS199, kL200, kA200, kS200, kL201, kL202, kA202, kS202, kL203, kA203, kS203, kL204, kA204, kS204, kL205, kL206, kA206, kS206, states12_ok hS (hGc (gSt g)), nn_le, Nat.le_refl]
    rw [key]
    rfl
end HELD
