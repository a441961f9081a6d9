/-! what the model knows -/
def knI (I : Nat → Nat → Int32) (g : GD) (F : Nat → Int32) (s : Nat) : Nat → Nat → Int32 := fun c k => if c = 196 ∧ k < s then (if lW g F k then iI (eE g (zR F) k) else nI 100000) else if c = 197 ∧ k < 301 then nI (fb_ct (lE g F ((k : Int) - 150)) s) else I c k
theorem knI_out {I : Nat → Nat → Int32} {g : GD} {F : Nat → Int32} {s c k : Nat} (h : c ≠ 196) (h2 : c ≠ 197) : knI I g F s c k = I c k := by
  unfold knI
  rw [if_neg (by omega), if_neg (by omega)]
theorem knI_no {I : Nat → Nat → Int32} {g : GD} {F : Nat → Int32} {s : Nat} (h : lW g F s = false) : xup (knI I g F s) 196 s (nI 100000) = knI I g F (s + 1) := by
  funext c k
  simp only [xup_at, knI]
  by_cases h0 : c = 196
  · subst h0
    by_cases h1 : k = s
    · subst h1; simp [h]
    · have : (k < s + 1) ↔ (k < s) := by omega
      simp [h1, this]
  · by_cases h1 : c = 197
    · subst h1
      have e : fb_ct (lE g F ((k : Int) - 150)) (s + 1) = fb_ct (lE g F ((k : Int) - 150)) s := by
        rw [fb_ct_succ]
        unfold lE
        rw [h]; simp
      simp [e]
    · simp [h0, h1]
theorem knI_yes {I : Nat → Nat → Int32} {g : GD} {F : Nat → Int32} {s e : Nat} (h : lW g F s = true) (he : eE g (zR F) s = (e : Int) - 150) (he2 : e < 301) : xup (xup (knI I g F s) 196 s (iI (eE g (zR F) s))) 197 e (nI (fb_ct (lE g F ((e : Int) - 150)) s) + 1) = knI I g F (s + 1) := by
  funext c k
  simp only [xup_at, knI]
  by_cases h0 : c = 196
  · subst h0
    by_cases h1 : k = s
    · subst h1; simp [h]
    · have : (k < s + 1) ↔ (k < s) := by omega
      simp [h1, this]
  · by_cases h1 : c = 197
    · subst h1
      by_cases h2 : k = e
      · subst h2
        have e1 : fb_ct (lE g F ((k : Int) - 150)) (s + 1) = fb_ct (lE g F ((k : Int) - 150)) s + 1 := by
          rw [fb_ct_succ]
          unfold lE
          rw [h, he]; simp
        simp [he2, e1, nI_succ]
      · have e1 : fb_ct (lE g F ((k : Int) - 150)) (s + 1) = fb_ct (lE g F ((k : Int) - 150)) s := by
          rw [fb_ct_succ]
          have : lE g F ((k : Int) - 150) s = false := by
            unfold lE
            rw [h, he]
            have : ¬ ((e : Int) - 150 = (k : Int) - 150) := by omega
            simp [this]
          rw [this]; simp
        simp [h2, e1]
    · simp [h0, h1]
/-- the levels among 301, among 289 -/
def lvQ (g : GD) (F : Nat → Int32) (e : Nat) : Bool := decide (0 < lC g F ((e : Int) - 150))
theorem lC_big {g : GD} (hg : g ∈ gAll) {F : Nat → Int32} (ho : RO g F) {e : Int} (h : e < -144 ∨ 144 < e) : lC g F e = 0 := by
  unfold lC
  rw [fb_ct_zero]
  intro s _
  unfold lE
  have := eE_b hg ho s
  have : ¬ eE g (zR F) s = e := by omega
  simp [this]
theorem lvQ_P {g : GD} {F : Nat → Int32} (k : Nat) : lvQ g F (6 + k) = lvP g F k := by
  unfold lvQ lvP
  rw [show (((6 + k : Nat) : Int) - 150) = (k : Int) - 144 by omega]
theorem lvQ_ct {g : GD} (hg : g ∈ gAll) {F : Nat → Int32} (ho : RO g F) (k : Nat) : fb_ct (lvQ g F) (6 + k) = fb_ct (lvP g F) k := by
  rw [fb_ct_split]
  have : fb_ct (lvQ g F) 6 = 0 := fb_ct_zero.mpr (fun e he => by
    unfold lvQ
    rw [lC_big hg ho (by omega)]; rfl)
  rw [this, Nat.zero_add]
  exact fb_ct_cong (fun i _ => lvQ_P i)
theorem lvQ_all {g : GD} (hg : g ∈ gAll) {F : Nat → Int32} (ho : RO g F) : fb_ct (lvQ g F) 301 = lvN g F := by
  rw [show (301 : Nat) = 295 + 6 from rfl, fb_ct_split, show (295 : Nat) = 6 + 289 from rfl, lvQ_ct hg ho]
  have : fb_ct (fun k => lvQ g F (6 + 289 + k)) 6 = 0 := fb_ct_zero.mpr (fun e he => by
    unfold lvQ
    rw [lC_big hg ho (by omega)]; rfl)
  rw [this, Nat.add_zero]
  unfold lvN
  rfl
section KNOWS
variable {σ : XS} {I : Nat → Nat → Int32} {g : GD}
theorem knows_l3 (hS : Shp σ) (hg : g ∈ gAll) {F : Nat → Int32} (ho : RO g F) (hM : ∀ e, e < 301 → I 197 e = nI (lC g F ((e : Int) - 150))) (h35 : I 183 35 = 0) :
    ∃ J, xloop (f_X12_knows_b122 183) ((0 : Int32), xw σ I) = some (xw σ J) ∧ J 183 35 = nI (lvN g F) ∧ (∀ k, k < 289 → lvP g F k = true → J 198 (fb_ct (lvP g F) k) = iI ((k : Int) - 144)) ∧ ∀ a k, a ≠ 198 → ¬ (a = 183 ∧ k = 35) → J a k = I a k := by
  have hSt := (gSt_b hg).1
  have key : ∃ τ, xloop (f_X12_knows_b122 183) (nI 0, xw σ I) = some τ ∧ ∃ J, τ = xw σ J ∧ J 183 35 = nI (fb_ct (lvQ g F) 301) ∧ (∀ e, e < 301 → lvQ g F e = true → J 198 (fb_ct (lvQ g F) e) = iI ((e : Int) - 150)) ∧ ∀ a k, a ≠ 198 → ¬ (a = 183 ∧ k = 35) → J a k = I a k := by
    refine xforI (fun i x => ∃ J, x = (nI i, xw σ J) ∧ J 183 35 = nI (fb_ct (lvQ g F) i) ∧ (∀ e, e < i → lvQ g F e = true → J 198 (fb_ct (lvQ g F) e) = iI ((e : Int) - 150)) ∧ ∀ a k, a ≠ 198 → ¬ (a = 183 ∧ k = 35) → J a k = I a k) 301 ⟨I, rfl, h35, fun e he => by omega, fun _ _ _ _ => rfl⟩ ?_ ?_
    · rintro i x hi ⟨J, rfl, j1, j2, j3⟩
      have hb : lC g F ((i : Int) - 150) ≤ 65536 := Nat.le_trans (fb_ct_le _ _) hSt
      have hc := fb_ct_le (lvQ g F) i
      have hz : (nI (lC g F ((i : Int) - 150)) = 0) = (lC g F ((i : Int) - 150) = 0) := nn_eq (b := 0) (by omega) (by decide)
      by_cases h0 : lC g F ((i : Int) - 150) = 0
      · have hq : lvQ g F i = false := by unfold lvQ; rw [h0]; rfl
        refine ⟨(nI (i + 1), xw σ J), ?_, J, rfl, ?_, ?_, j3⟩
        · simp only [f_X12_knows_b122]
          rw [if_neg (by rw [show (301 : Int32) = nI 301 from rfl, nn_le (by omega) (by omega)]; omega)]
          simp (disch := first | assumption | omega) only [Option.bind_some, Option.map_some, xw_gR, xw_gN, xw_al, xw_ck, xw_uI, xw_ur, xup_at, xur_at, if_true, if_false, reduceIte, and_true, true_and, and_false, false_and, not_true_eq_false, not_false_eq_true, Nat.reduceEqDiff, eq_self, Nat.reduceAdd, Nat.reduceMul, kC1, kG1, kP1, kR1_0, kR1_1, kR1_2, kR1_3, kR1_4, kR1_5, kR1_6, kR1_7, kR1_8, kR1_9, kR1_10, kR1_11, kR1_12, kR1_13, kC2, kG2, kP2, kR2_0, kR2_1, kC3, kG3, kP3, kR3_0, kR3_1, kR3_2, kR3_3, kL4, kA4, kS4, kL5, kA5, kS5, kL6, kA6, kS6, kL7, kA7, kS7, kC8, kG8, kP8, kR8_0, kR8_1, kL9, kA9, kS9, kL10, kA10, kS10, kC11, kG11, kP11, kR11_0, kR11_1, kR11_2, kR11_3, kL12, kA12, kS12, kL13, kA13, kS13, kL14, kA14, kS14, kL15, kA15, kS15, kC16, kG16, kP16, kR16_0, kR16_1, kL17, kA17, kS17, kL18, kA18, kS18, kC19, kG19, kP19, kR19_0, kL20, kL141, kL146, kA146, kS146, kL151, kA151, kS151, kL156, kA156, kS156, kC157, kG157, kP157, kR157_0, kR157_1, kL158, kA158, kS158, kL159, kA159, kS159, kC161, kG161, kP161, kR161_0, kR161_1, kL162, kA162, kS162, kL163, kA163, kS163, kC165, kG165, kP165, kR165_0, kR165_1, kR165_2, kR165_3, kL166, kA166, kS166, kL167, kA167, kS167, kL168, kA168, kS168, kL169, kA169, kS169, kC170, kG170, kP170, kR170_0, kR170_1, kR170_2, kL171, kA171, kS171, kL172, kA172, kS172, kL173, kA173, kS173, kC174, kG174, kP174, kR174_0, kR174_1, kR174_2, kR174_3, kR174_4, kL175, kA175, kS175, kL176, kA176, kS176, kL177, kA177, kS177, kL178, kA178, kS178, kL179, kC180, kG180, kP180, kL181, kL182, kA182, kS182, kC183, kG183, kP183, kR183_1, kR183_3, kR183_5, kR183_6, kR183_7, kR183_8, kR183_9, kR183_21, kR183_26, kR183_27, kR183_30, kR183_31, kR183_33, kR183_34, kR183_36, kR183_37, kR183_38, kR183_39, kR183_40, kR183_41, kR183_42, kR183_43, kR183_44, kL184, kA184, kS184, kL185, kA185, kS185, kL186, kA186, kS186, kL187, kA187, kS187, kL188, kA188, kS188, kL189, kL190, kL191, kA191, kS191, kL192, kA192, kS192, kL193, kA193, kS193, kL194, kA194, kS194, kL195, kA195, kS195, kL196, kA196, kS196, kL197, kA197, kS197, kL198, kA198, kS198, kL199, kA199, kS199, kL200, kA200, kS200, kL201, kL202, kA202, kS202, kL203, kA203, kS203, kL204, kA204, kS204, kL205, kL206, kA206, kS206, j3 197 i (by decide) (by omega), hM i hi, h0, show (nI 0 = 0) = True from eq_true rfl]
          rw [nI_succ]
        · rw [j1, fb_ct_succ, hq]; simp
        · intro e he hq2
          by_cases hei : e = i
          · rw [hei, hq] at hq2; cases hq2
          · exact j2 e (by omega) hq2
      · have hq : lvQ g F i = true := by unfold lvQ; simp; omega
        refine ⟨(nI (i + 1), xw σ (xup (xup J 198 (fb_ct (lvQ g F) i) (iI ((i : Int) - 150))) 183 35 (nI (fb_ct (lvQ g F) i + 1)))), ?_, _, rfl, ?_, ?_, ?_⟩
        · simp only [f_X12_knows_b122]
          rw [if_neg (by rw [show (301 : Int32) = nI 301 from rfl, nn_le (by omega) (by omega)]; omega)]
          have e150 : nI i - (150 : Int32) = iI ((i : Int) - 150) := by rw [iI_n, show (150 : Int32) = iI 150 from rfl, iI_sub]
          simp (disch := first | assumption | omega) only [Option.bind_some, Option.map_some, xw_gR, xw_gN, xw_al, xw_ck, xw_uI, xw_ur, xup_at, xur_at, if_true, if_false, reduceIte, and_true, true_and, and_false, false_and, not_true_eq_false, not_false_eq_true, Nat.reduceEqDiff, eq_self, Nat.reduceAdd, Nat.reduceMul, kC1, kG1, kP1, kR1_0, kR1_1, kR1_2, kR1_3, kR1_4, kR1_5, kR1_6, kR1_7, kR1_8, kR1_9, kR1_10, kR1_11, kR1_12, kR1_13, kC2, kG2, kP2, kR2_0, kR2_1, kC3, kG3, kP3, kR3_0, kR3_1, kR3_2, kR3_3, kL4, kA4, kS4, kL5, kA5, kS5, kL6, kA6, kS6, kL7, kA7, kS7, kC8, kG8, kP8, kR8_0, kR8_1, kL9, kA9, kS9, kL10, kA10, kS10, kC11, kG11, kP11, kR11_0, kR11_1, kR11_2, kR11_3, kL12, kA12, kS12, kL13, kA13, kS13, kL14, kA14, kS14, kL15, kA15, kS15, kC16, kG16, kP16, kR16_0, kR16_1, kL17, kA17, kS17, kL18, kA18, kS18, kC19, kG19, kP19, kR19_0, kL20, kL141, kL146, kA146, kS146, kL151, kA151, kS151, kL156, kA156, kS156, kC157, kG157, kP157, kR157_0, kR157_1, kL158, kA158, kS158, kL159, kA159, kS159, kC161, kG161, kP161, kR161_0, kR161_1, kL162, kA162, kS162, kL163, kA163, kS163, kC165, kG165, kP165, kR165_0, kR165_1, kR165_2, kR165_3, kL166, kA166, kS166, kL167, kA167, kS167, kL168, kA168, kS168, kL169, kA169, kS169, kC170, kG170, kP170, kR170_0, kR170_1, kR170_2, kL171, kA171, kS171, kL172, kA172, kS172, kL173, kA173, kS173, kC174, kG174, kP174, kR174_0, kR174_1, kR174_2, kR174_3, kR174_4, kL175, kA175, kS175, kL176, kA176, kS176, kL177, kA177, kS177, kL178, kA178, kS178, kL179, kC180, kG180, kP180, kL181, kL182, kA182, kS182, kC183, kG183, kP183, kR183_1, kR183_3, kR183_5, kR183_6, kR183_7, kR183_8, kR183_9, kR183_21, kR183_26, kR183_27, kR183_30, kR183_31, kR183_33, kR183_34, kR183_36, kR183_37, kR183_38, kR183_39, kR183_40, kR183_41, kR183_42, kR183_43, kR183_44, kL184, kA184, kS184, kL185, kA185, kS185, kL186, kA186, kS186, kL187, kA187, kS187, kL188, kA188, kS188, kL189, kL190, kL191, kA191, kS191, kL192, kA192, kS192, kL193, kA193, kS193, kL194, kA194, kS194, kL195, kA195, kS195, kL196, kA196, kS196, kL197, kA197, kS197, kL198, kA198, kS198, kL199, kA199, kS199, kL200, kA200, kS200, kL201, kL202, kA202, kS202, kL203, kA203, kS203, kL204, kA204, kS204, kL205, kL206, kA206, kS206, j3 197 i (by decide) (by omega), hM i hi, hz, h0, j1, e150]
          rw [← nI_succ, ← nI_succ]
        · rw [xup_at, if_pos ⟨rfl, rfl⟩, fb_ct_succ, hq]; simp
        · intro e he hq2
          rw [xup_at, if_neg (by omega), xup_at]
          by_cases hei : e = i
          · rw [hei, if_pos ⟨rfl, rfl⟩]
          · rw [if_neg, j2 e (by omega) hq2]
            rintro ⟨_, z⟩
            exact hei (fb_ct_kth_one hq2 hq z)
        · intro a k h1 h2
          rw [xup_at, if_neg (by omega), xup_at, if_neg (by omega)]
          exact j3 a k h1 h2
    · rintro x ⟨J, rfl, j1, j2, j3⟩
      refine ⟨xw σ J, ?_, J, rfl, j1, j2, j3⟩
      simp only [f_X12_knows_b122]
      rw [if_pos (by decide)]
      rfl
  obtain ⟨τ, h1, J, rfl, j1, j2, j3⟩ := key
  refine ⟨J, h1, by rw [j1, lvQ_all hg ho], fun k hk hp => ?_, j3⟩
  have := j2 (6 + k) (by omega) (by rw [lvQ_P]; exact hp)
  rw [lvQ_ct hg ho] at this
  rw [this]
  congr 1; omega
theorem knows_l2 (hS : Shp σ) (hG : GRD I g) {F : Nat → Int32} (hF : F = I 191) (ho : RO g F) :
    ∃ J, xloop (f_X12_knows_b37 183) ((0 : Int32), xw σ (knI I g F 0)) = some (xw σ J) ∧ KNK J g F ∧ ∀ a k, ¬ (196 ≤ a ∧ a ≤ 198) → ¬ (a = 183 ∧ k = 35) → J a k = I a k := by
  have hg := hG.1
  have h16 := (gAll_b g hg).2.2.1
  have hSt := (gSt_b hg).1
  have hM0 : ∀ e, e < 301 → xup (knI I g F (gSt g)) 183 35 0 197 e = nI (lC g F ((e : Int) - 150)) := by
    intro e he
    rw [xup_at, if_neg (by omega)]
    unfold knI
    rw [if_neg (by omega), if_pos ⟨rfl, he⟩]
    rfl
  obtain ⟨J, e1, j1, j2, j3⟩ := knows_l3 (I := xup (knI I g F (gSt g)) 183 35 0) hS hg ho hM0 (by rw [xup_at, if_pos ⟨rfl, rfl⟩])
  refine ⟨J, ?_, ⟨fun s hs => ?_, fun e he => ?_, j1, j2⟩, fun a k h1 h2 => ?_⟩
  · have hGk : ∀ s, GRD (knI I g F s) g := fun s => GRD_c (fun a k z => knI_out (by unfold sGRD at z; omega) (by unfold sGRD at z; omega)) hG
    refine xforE (fun s : Nat => (nI s, xw σ (knI I g F s))) (gSt g) rfl (fun s hs => ?_) ?_
    · have hrow : knI I g F s 191 = F := by funext k; rw [hF, knI_out (by decide) (by decide)]
      have hL := isLawful12_ok (I := knI I g F s) hS (hGk s) (by rw [hrow]; exact ho) (nI s)
      rw [hrow, isB_n hg hs] at hL
      simp only [f_X12_knows_b37]
      simp (disch := first | assumption | omega) only [Option.bind_some, Option.map_some, xw_gR, xw_gN, xw_al, xw_ck, xw_uI, xw_ur, xup_at, xur_at, if_true, if_false, reduceIte, and_true, true_and, and_false, false_and, not_true_eq_false, not_false_eq_true, Nat.reduceEqDiff, eq_self, Nat.reduceAdd, Nat.reduceMul, kC1, kG1, kP1, kR1_0, kR1_1, kR1_2, kR1_3, kR1_4, kR1_5, kR1_6, kR1_7, kR1_8, kR1_9, kR1_10, kR1_11, kR1_12, kR1_13, kC2, kG2, kP2, kR2_0, kR2_1, kC3, kG3, kP3, kR3_0, kR3_1, kR3_2, kR3_3, kL4, kA4, kS4, kL5, kA5, kS5, kL6, kA6, kS6, kL7, kA7, kS7, kC8, kG8, kP8, kR8_0, kR8_1, kL9, kA9, kS9, kL10, kA10, kS10, kC11, kG11, kP11, kR11_0, kR11_1, kR11_2, kR11_3, kL12, kA12, kS12, kL13, kA13, kS13, kL14, kA14, kS14, kL15, kA15, kS15, kC16, kG16, kP16, kR16_0, kR16_1, kL17, kA17, kS17, kL18, kA18, kS18, kC19, kG19, kP19, kR19_0, kL20, kL141, kL146, kA146, kS146, kL151, kA151, kS151, kL156, kA156, kS156, kC157, kG157, kP157, kR157_0, kR157_1, kL158, kA158, kS158, kL159, kA159, kS159, kC161, kG161, kP161, kR161_0, kR161_1, kL162, kA162, kS162, kL163, kA163, kS163, kC165, kG165, kP165, kR165_0, kR165_1, kR165_2, kR165_3, kL166, kA166, kS166, kL167, kA167, kS167, kL168, kA168, kS168, kL169, kA169, kS169, kC170, kG170, kP170, kR170_0, kR170_1, kR170_2, kL171, kA171, kS171, kL172, kA172, kS172, kL173, kA173, kS173, kC174, kG174, kP174, kR174_0, kR174_1, kR174_2, kR174_3, kR174_4, kL175, kA175, kS175, kL176, kA176, kS176, kL177, kA177, kS177, kL178, kA178, kS178, kL179, kC180, kG180, kP180, kL181, kL182, kA182, kS182, kC183, kG183, kP183, kR183_1, kR183_3, kR183_5, kR183_6, kR183_7, kR183_8, kR183_9, kR183_21, kR183_26, kR183_27, kR183_30, kR183_31, kR183_33, kR183_34, kR183_36, kR183_37, kR183_38, kR183_39, kR183_40, kR183_41, kR183_42, kR183_43, kR183_44, kL184, kA184, kS184, kL185, kA185, kS185, kL186, kA186, kS186, kL187, kA187, kS187, kL188, kA188, kS188, kL189, kL190, kL191, kA191, kS191, kL192, kA192, kS192, kL193, kA193, kS193, kL194, kA194, kS194, kL195, kA195, kS195, kL196, kA196, kS196, kL197, kA197, kS197, kL198, kA198, kS198, kL199, kA199, kS199, kL200, kA200, kS200, kL201, kL202, kA202, kS202, kL203, kA203, kS203, kL204, kA204, kS204, kL205, kL206, kA206, kS206, states12_ok hS (hGk s), nn_le, show ¬ (gSt g ≤ s) by omega, hL]
      cases hl : lW g F s with
      | false =>
        rw [if_pos (by decide)]
        unfold f_X12_knows_j77
        simp (disch := first | assumption | omega) only [Option.bind_some, Option.map_some, xw_gR, xw_gN, xw_al, xw_ck, xw_uI, xw_ur, xup_at, xur_at, if_true, if_false, reduceIte, and_true, true_and, and_false, false_and, not_true_eq_false, not_false_eq_true, Nat.reduceEqDiff, eq_self, Nat.reduceAdd, Nat.reduceMul, kC1, kG1, kP1, kR1_0, kR1_1, kR1_2, kR1_3, kR1_4, kR1_5, kR1_6, kR1_7, kR1_8, kR1_9, kR1_10, kR1_11, kR1_12, kR1_13, kC2, kG2, kP2, kR2_0, kR2_1, kC3, kG3, kP3, kR3_0, kR3_1, kR3_2, kR3_3, kL4, kA4, kS4, kL5, kA5, kS5, kL6, kA6, kS6, kL7, kA7, kS7, kC8, kG8, kP8, kR8_0, kR8_1, kL9, kA9, kS9, kL10, kA10, kS10, kC11, kG11, kP11, kR11_0, kR11_1, kR11_2, kR11_3, kL12, kA12, kS12, kL13, kA13, kS13, kL14, kA14, kS14, kL15, kA15, kS15, kC16, kG16, kP16, kR16_0, kR16_1, kL17, kA17, kS17, kL18, kA18, kS18, kC19, kG19, kP19, kR19_0, kL20, kL141, kL146, kA146, kS146, kL151, kA151, kS151, kL156, kA156, kS156, kC157, kG157, kP157, kR157_0, kR157_1, kL158, kA158, kS158, kL159, kA159, kS159, kC161, kG161, kP161, kR161_0, kR161_1, kL162, kA162, kS162, kL163, kA163, kS163, kC165, kG165, kP165, kR165_0, kR165_1, kR165_2, kR165_3, kL166, kA166, kS166, kL167, kA167, kS167, kL168, kA168, kS168, kL169, kA169, kS169, kC170, kG170, kP170, kR170_0, kR170_1, kR170_2, kL171, kA171, kS171, kL172, kA172, kS172, kL173, kA173, kS173, kC174, kG174, kP174, kR174_0, kR174_1, kR174_2, kR174_3, kR174_4, kL175, kA175, kS175, kL176, kA176, kS176, kL177, kA177, kS177, kL178, kA178, kS178, kL179, kC180, kG180, kP180, kL181, kL182, kA182, kS182, kC183, kG183, kP183, kR183_1, kR183_3, kR183_5, kR183_6, kR183_7, kR183_8, kR183_9, kR183_21, kR183_26, kR183_27, kR183_30, kR183_31, kR183_33, kR183_34, kR183_36, kR183_37, kR183_38, kR183_39, kR183_40, kR183_41, kR183_42, kR183_43, kR183_44, kL184, kA184, kS184, kL185, kA185, kS185, kL186, kA186, kS186, kL187, kA187, kS187, kL188, kA188, kS188, kL189, kL190, kL191, kA191, kS191, kL192, kA192, kS192, kL193, kA193, kS193, kL194, kA194, kS194, kL195, kA195, kS195, kL196, kA196, kS196, kL197, kA197, kS197, kL198, kA198, kS198, kL199, kA199, kS199, kL200, kA200, kS200, kL201, kL202, kA202, kS202, kL203, kA203, kS203, kL204, kA204, kS204, kL205, kL206, kA206, kS206, show (100000 : Int32) = nI 100000 from rfl, nn_le, Nat.le_refl]
        rw [knI_no hl, nI_succ]
      | true =>
        rw [if_neg (by decide)]
        have hEb := eE_b hg ho s
        obtain ⟨e, he, he2⟩ : ∃ e : Nat, eE g (zR F) s = (e : Int) - 150 ∧ e < 301 := ⟨(eE g (zR F) s + 150).toNat, by omega, by omega⟩
        have hE := energy12_ok (I := knI I g F s) (s := s) (r := g.2.1) hS (hGk s) (xw_K hS (a := 191) (by decide) (by decide) (by decide)) (by omega) (Nat.le_refl _)
        rw [hrow] at hE
        have hpa := eP_all hg (zR F) s
        unfold gSz at hpa
        rw [hpa] at hE
        have h18 := (hGk s).2.2.2.2.2.2.2.2.2.1
        simp (disch := first | assumption | omega) only [Option.bind_some, Option.map_some, xw_gR, xw_gN, xw_al, xw_ck, xw_uI, xw_ur, xup_at, xur_at, if_true, if_false, reduceIte, and_true, true_and, and_false, false_and, not_true_eq_false, not_false_eq_true, Nat.reduceEqDiff, eq_self, Nat.reduceAdd, Nat.reduceMul, kC1, kG1, kP1, kR1_0, kR1_1, kR1_2, kR1_3, kR1_4, kR1_5, kR1_6, kR1_7, kR1_8, kR1_9, kR1_10, kR1_11, kR1_12, kR1_13, kC2, kG2, kP2, kR2_0, kR2_1, kC3, kG3, kP3, kR3_0, kR3_1, kR3_2, kR3_3, kL4, kA4, kS4, kL5, kA5, kS5, kL6, kA6, kS6, kL7, kA7, kS7, kC8, kG8, kP8, kR8_0, kR8_1, kL9, kA9, kS9, kL10, kA10, kS10, kC11, kG11, kP11, kR11_0, kR11_1, kR11_2, kR11_3, kL12, kA12, kS12, kL13, kA13, kS13, kL14, kA14, kS14, kL15, kA15, kS15, kC16, kG16, kP16, kR16_0, kR16_1, kL17, kA17, kS17, kL18, kA18, kS18, kC19, kG19, kP19, kR19_0, kL20, kL141, kL146, kA146, kS146, kL151, kA151, kS151, kL156, kA156, kS156, kC157, kG157, kP157, kR157_0, kR157_1, kL158, kA158, kS158, kL159, kA159, kS159, kC161, kG161, kP161, kR161_0, kR161_1, kL162, kA162, kS162, kL163, kA163, kS163, kC165, kG165, kP165, kR165_0, kR165_1, kR165_2, kR165_3, kL166, kA166, kS166, kL167, kA167, kS167, kL168, kA168, kS168, kL169, kA169, kS169, kC170, kG170, kP170, kR170_0, kR170_1, kR170_2, kL171, kA171, kS171, kL172, kA172, kS172, kL173, kA173, kS173, kC174, kG174, kP174, kR174_0, kR174_1, kR174_2, kR174_3, kR174_4, kL175, kA175, kS175, kL176, kA176, kS176, kL177, kA177, kS177, kL178, kA178, kS178, kL179, kC180, kG180, kP180, kL181, kL182, kA182, kS182, kC183, kG183, kP183, kR183_1, kR183_3, kR183_5, kR183_6, kR183_7, kR183_8, kR183_9, kR183_21, kR183_26, kR183_27, kR183_30, kR183_31, kR183_33, kR183_34, kR183_36, kR183_37, kR183_38, kR183_39, kR183_40, kR183_41, kR183_42, kR183_43, kR183_44, kL184, kA184, kS184, kL185, kA185, kS185, kL186, kA186, kS186, kL187, kA187, kS187, kL188, kA188, kS188, kL189, kL190, kL191, kA191, kS191, kL192, kA192, kS192, kL193, kA193, kS193, kL194, kA194, kS194, kL195, kA195, kS195, kL196, kA196, kS196, kL197, kA197, kS197, kL198, kA198, kS198, kL199, kA199, kS199, kL200, kA200, kS200, kL201, kL202, kA202, kS202, kL203, kA203, kS203, kL204, kA204, kS204, kL205, kL206, kA206, kS206, h18]
        rw [hE, Option.bind_some]
        unfold f_X12_knows_j77
        have e150 : (150 : Int32) + iI (eE g (zR F) s) = nI e := by rw [show (150 : Int32) = iI 150 from rfl, iI_add, iI_n]; congr 1; omega
        have e1e : ((100000 : Int32) ≤ iI (eE g (zR F) s)) = False := by
          rw [show (100000 : Int32) = iI 100000 from rfl, iI_le (by omega) (by omega) (by omega) (by omega)]
          exact eq_false (by omega)
        have kv : knI I g F s 197 e = nI (fb_ct (lE g F ((e : Int) - 150)) s) := by
          unfold knI
          rw [if_neg (by omega), if_pos ⟨rfl, he2⟩]
        simp (disch := first | assumption | omega) only [Option.bind_some, Option.map_some, xw_gR, xw_gN, xw_al, xw_ck, xw_uI, xw_ur, xup_at, xur_at, if_true, if_false, reduceIte, and_true, true_and, and_false, false_and, not_true_eq_false, not_false_eq_true, Nat.reduceEqDiff, eq_self, Nat.reduceAdd, Nat.reduceMul, kC1, kG1, kP1, kR1_0, kR1_1, kR1_2, kR1_3, kR1_4, kR1_5, kR1_6, kR1_7, kR1_8, kR1_9, kR1_10, kR1_11, kR1_12, kR1_13, kC2, kG2, kP2, kR2_0, kR2_1, kC3, kG3, kP3, kR3_0, kR3_1, kR3_2, kR3_3, kL4, kA4, kS4, kL5, kA5, kS5, kL6, kA6, kS6, kL7, kA7, kS7, kC8, kG8, kP8, kR8_0, kR8_1, kL9, kA9, kS9, kL10, kA10, kS10, kC11, kG11, kP11, kR11_0, kR11_1, kR11_2, kR11_3, kL12, kA12, kS12, kL13, kA13, kS13, kL14, kA14, kS14, kL15, kA15, kS15, kC16, kG16, kP16, kR16_0, kR16_1, kL17, kA17, kS17, kL18, kA18, kS18, kC19, kG19, kP19, kR19_0, kL20, kL141, kL146, kA146, kS146, kL151, kA151, kS151, kL156, kA156, kS156, kC157, kG157, kP157, kR157_0, kR157_1, kL158, kA158, kS158, kL159, kA159, kS159, kC161, kG161, kP161, kR161_0, kR161_1, kL162, kA162, kS162, kL163, kA163, kS163, kC165, kG165, kP165, kR165_0, kR165_1, kR165_2, kR165_3, kL166, kA166, kS166, kL167, kA167, kS167, kL168, kA168, kS168, kL169, kA169, kS169, kC170, kG170, kP170, kR170_0, kR170_1, kR170_2, kL171, kA171, kS171, kL172, kA172, kS172, kL173, kA173, kS173, kC174, kG174, kP174, kR174_0, kR174_1, kR174_2, kR174_3, kR174_4, kL175, kA175, kS175, kL176, kA176, kS176, kL177, kA177, kS177, kL178, kA178, kS178, kL179, kC180, kG180, kP180, kL181, kL182, kA182, kS182, kC183, kG183, kP183, kR183_1, kR183_3, kR183_5, kR183_6, kR183_7, kR183_8, kR183_9, kR183_21, kR183_26, kR183_27, kR183_30, kR183_31, kR183_33, kR183_34, kR183_36, kR183_37, kR183_38, kR183_39, kR183_40, kR183_41, kR183_42, kR183_43, kR183_44, kL184, kA184, kS184, kL185, kA185, kS185, kL186, kA186, kS186, kL187, kA187, kS187, kL188, kA188, kS188, kL189, kL190, kL191, kA191, kS191, kL192, kA192, kS192, kL193, kA193, kS193, kL194, kA194, kS194, kL195, kA195, kS195, kL196, kA196, kS196, kL197, kA197, kS197, kL198, kA198, kS198, kL199, kA199, kS199, kL200, kA200, kS200, kL201, kL202, kA202, kS202, kL203, kA203, kS203, kL204, kA204, kS204, kL205, kL206, kA206, kS206, e1e, e150, kv]
        rw [knI_yes hl he he2, nI_succ]
    · simp only [f_X12_knows_b37]
      simp (disch := first | assumption | omega) only [Option.bind_some, Option.map_some, xw_gR, xw_gN, xw_al, xw_ck, xw_uI, xw_ur, xup_at, xur_at, if_true, if_false, reduceIte, and_true, true_and, and_false, false_and, not_true_eq_false, not_false_eq_true, Nat.reduceEqDiff, eq_self, Nat.reduceAdd, Nat.reduceMul, kC1, kG1, kP1, kR1_0, kR1_1, kR1_2, kR1_3, kR1_4, kR1_5, kR1_6, kR1_7, kR1_8, kR1_9, kR1_10, kR1_11, kR1_12, kR1_13, kC2, kG2, kP2, kR2_0, kR2_1, kC3, kG3, kP3, kR3_0, kR3_1, kR3_2, kR3_3, kL4, kA4, kS4, kL5, kA5, kS5, kL6, kA6, kS6, kL7, kA7, kS7, kC8, kG8, kP8, kR8_0, kR8_1, kL9, kA9, kS9, kL10, kA10, kS10, kC11, kG11, kP11, kR11_0, kR11_1, kR11_2, kR11_3, kL12, kA12, kS12, kL13, kA13, kS13, kL14, kA14, kS14, kL15, kA15, kS15, kC16, kG16, kP16, kR16_0, kR16_1, kL17, kA17, kS17, kL18, kA18, kS18, kC19, kG19, kP19, kR19_0, kL20, kL141, kL146, kA146, kS146, kL151, kA151, kS151, kL156, kA156, kS156, kC157, kG157, kP157, kR157_0, kR157_1, kL158, kA158, kS158, kL159, kA159, kS159, kC161, kG161, kP161, kR161_0, kR161_1, kL162, kA162, kS162, kL163, kA163, kS163, kC165, kG165, kP165, kR165_0, kR165_1, kR165_2, kR165_3, kL166, kA166, kS166, kL167, kA167, kS167, kL168, kA168, kS168, kL169, kA169, kS169, kC170, kG170, kP170, kR170_0, kR170_1, kR170_2, kL171, kA171, kS171, kL172, kA172, kS172, kL173, kA173, kS173, kC174, kG174, kP174, kR174_0, kR174_1, kR174_2, kR174_3, kR174_4, kL175, kA175, kS175, kL176, kA176, kS176, kL177, kA177, kS177, kL178, kA178, kS178, kL179, kC180, kG180, kP180, kL181, kL182, kA182, kS182, kC183, kG183, kP183, kR183_1, kR183_3, kR183_5, kR183_6, kR183_7, kR183_8, kR183_9, kR183_21, kR183_26, kR183_27, kR183_30, kR183_31, kR183_33, kR183_34, kR183_36, kR183_37, kR183_38, kR183_39, kR183_40, kR183_41, kR183_42, kR183_43, kR183_44, kL184, kA184, kS184, kL185, kA185, kS185, kL186, kA186, kS186, kL187, kA187, kS187, kL188, kA188, kS188, kL189, kL190, kL191, kA191, kS191, kL192, kA192, kS192, kL193, kA193, kS193, kL194, kA194, kS194, kL195, kA195, kS195, kL196, kA196, kS196, kL197, kA197, kS197, kL198, kA198, kS198, kL199, kA199, kS199, kL200, kA200, kS200, kL201, kL202, kA202, kS202, kL203, kA203, kS203, kL204, kA204, kS204, kL205, kL206, kA206, kS206, states12_ok hS (hGk (gSt g)), nn_le, Nat.le_refl]
      rw [e1]
      rfl
  · rw [j3 196 s (by omega) (by omega), xup_at, if_neg (by omega)]
    unfold knI
    rw [if_pos ⟨rfl, hs⟩]
  · rw [j3 197 e (by omega) (by omega)]
    exact hM0 e he
  · rw [j3 a k (by omega) h2, xup_at, if_neg (by omega), knI_out (by omega) (by omega)]
end KNOWS
