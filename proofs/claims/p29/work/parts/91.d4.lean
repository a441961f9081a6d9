section
/-! the states of a small strip, sorted by energy -/
def tP (g : GD) (F : Nat → Int32) (k : Nat) : Nat := fb_sm (fun j : Nat => lC g F ((j : Int) - 144)) k
def tK (g : GD) (F : Nat → Int32) (s : Nat) : Nat := (eE g (zR F) s + 144).toNat
def tQ (g : GD) (F : Nat → Int32) (s : Nat) : Nat := tP g F (tK g F s) + fb_ct (lE g F ((tK g F s : Int) - 144)) s
section TORD
variable {g : GD} {F : Nat → Int32}
theorem tK_ok (hg : g ∈ gAll) (ho : RO g F) (s : Nat) : tK g F s < 289 ∧ (tK g F s : Int) - 144 = eE g (zR F) s := by
  have := eE_b hg ho s
  unfold tK
  omega
theorem tP_s {k : Nat} : tP g F (k + 1) = tP g F k + lC g F ((k : Int) - 144) := rfl
theorem tP_m {i j : Nat} (h : i ≤ j) : tP g F i ≤ tP g F j := by
  have := fb_sm_mono (fun j : Nat => lC g F ((j : Int) - 144)) i (j - i)
  rw [show i + (j - i) = j by omega] at this
  exact this
theorem tE_ok (hg : g ∈ gAll) (ho : RO g F) {s : Nat} (hl : lW g F s = true) : lE g F ((tK g F s : Int) - 144) s = true := by
  unfold lE
  rw [hl, (tK_ok hg ho s).2]
  simp
theorem ct_in {p : Nat → Bool} {s n : Nat} (h : s < n) (hp : p s = true) : fb_ct p s < fb_ct p n := by
  have h1 := fb_ct_mono p (show s + 1 ≤ n by omega)
  rw [fb_ct_succ, hp] at h1
  simp at h1
  omega
theorem tQ_lt (hg : g ∈ gAll) (ho : RO g F) {s : Nat} (hs : s < gSt g) (hl : lW g F s = true) : tQ g F s < tP g F (tK g F s + 1) := by
  rw [tP_s]
  have := ct_in hs (tE_ok hg ho hl)
  unfold tQ lC
  omega
theorem tQ_ge {s : Nat} : tP g F (tK g F s) ≤ tQ g F s := Nat.le_add_right _ _
theorem tQ_K (hg : g ∈ gAll) (ho : RO g F) {a b : Nat} (ha : a < gSt g) (hla : lW g F a = true) (h : tQ g F b ≤ tQ g F a) : tK g F b ≤ tK g F a := by
  by_cases z : tK g F b ≤ tK g F a
  · exact z
  · have h1 := tQ_lt hg ho ha hla
    have h2 := tP_m (g := g) (F := F) (show tK g F a + 1 ≤ tK g F b by omega)
    have h3 := tQ_ge (g := g) (F := F) (s := b)
    omega
theorem tQ_inj (hg : g ∈ gAll) (ho : RO g F) {a b : Nat} (ha : a < gSt g) (hb : b < gSt g) (hla : lW g F a = true) (hlb : lW g F b = true) (h : tQ g F a = tQ g F b) : a = b := by
  have h1 := tQ_K hg ho ha hla (b := b) (by omega)
  have h2 := tQ_K hg ho hb hlb (b := a) (by omega)
  have h3 : tK g F a = tK g F b := by omega
  unfold tQ at h
  rw [h3] at h
  have e1 := tE_ok hg ho hla
  have e2 := tE_ok hg ho hlb
  rw [h3] at e1
  exact fb_ct_kth_one e1 e2 (by omega)
theorem tQ_top (hg : g ∈ gAll) (ho : RO g F) {s : Nat} (hs : s < gSt g) (hl : lW g F s = true) : tQ g F s < tP g F 289 := by
  have h1 := tQ_lt hg ho hs hl
  have h2 := (tK_ok hg ho s).1
  have h3 := tP_m (g := g) (F := F) (show tK g F s + 1 ≤ 289 by omega)
  omega
theorem tQ_on (hg : g ∈ gAll) (ho : RO g F) : ∀ k, k ≤ 289 → ∀ i, i < tP g F k → ∃ s, s < gSt g ∧ lW g F s = true ∧ tQ g F s = i := by
  intro k
  induction k with
  | zero => intro _ i hi; exact absurd hi (Nat.not_lt_zero _)
  | succ k ih =>
    intro hk i hi
    by_cases h : i < tP g F k
    · exact ih (by omega) i h
    · rw [tP_s] at hi
      have h1 : i - tP g F k < fb_ct (lE g F ((k : Int) - 144)) (gSt g) := by unfold lC at hi; omega
      obtain ⟨s, s1, s2, s3⟩ := fb_ct_kth h1
      have s2' := s2
      unfold lE at s2
      simp only [Bool.and_eq_true, decide_eq_true_eq] at s2
      have e : tK g F s = k := by
        have := (tK_ok hg ho s).2
        omega
      refine ⟨s, s1, s2.1, ?_⟩
      unfold tQ
      rw [e, s3]
      omega
theorem t_ord (hg : g ∈ gAll) (ho : RO g F) : ∃ o : Nat → Nat, (∀ i, i < tP g F 289 → o i < gSt g ∧ lW g F (o i) = true ∧ tQ g F (o i) = i) ∧ (∀ i j, i < j → j < tP g F 289 → eE g (zR F) (o i) ≤ eE g (zR F) (o j) ∧ o i ≠ o j) ∧ (∀ s, s < gSt g → lW g F s = true → ∃ i, i < tP g F 289 ∧ o i = s) ∧ tP g F 289 ≤ gSt g := by
  have h : ∀ i, ∃ s, i < tP g F 289 → s < gSt g ∧ lW g F s = true ∧ tQ g F s = i := by
    intro i
    by_cases z : i < tP g F 289
    · obtain ⟨s, h⟩ := tQ_on hg ho 289 (Nat.le_refl _) i z
      exact ⟨s, fun _ => h⟩
    · exact ⟨0, fun q => absurd q z⟩
  obtain ⟨o, h⟩ := Classical.axiomOfChoice h
  have h2 : ∀ i j, i < j → j < tP g F 289 → eE g (zR F) (o i) ≤ eE g (zR F) (o j) ∧ o i ≠ o j := by
    intro i j hij hj
    obtain ⟨i1, i2, i3⟩ := h i (by omega)
    obtain ⟨j1, j2, j3⟩ := h j hj
    have hk := tQ_K hg ho j1 j2 (b := o i) (by omega)
    have a1 := (tK_ok hg ho (o i)).2
    have a2 := (tK_ok hg ho (o j)).2
    refine ⟨by omega, fun z => ?_⟩
    rw [z] at i3
    omega
  refine ⟨o, h, h2, fun s hs hl => ?_, fb_holes _ _ o (fun i hi => (h i hi).1) (fun i j hij hj => (h2 i j hij hj).2)⟩
  have ht := tQ_top hg ho hs hl
  obtain ⟨b1, b2, b3⟩ := h _ ht
  exact ⟨_, ht, tQ_inj hg ho b1 hs b2 hl b3⟩
end TORD
section SORT
variable {σ : XS} {I : Nat → Nat → Int32} {g : GD} {F : Nat → Int32} {c m : Nat}
def tS (σ : XS) : XS := xuR (xuR σ 174 5 157) 174 6 16
theorem tS_R {a j : Nat} (h : ¬ (a = 174 ∧ (j = 5 ∨ j = 6))) : xR (tS σ) a j = xR σ a j := by
  show xup (xup (xR σ) 174 5 157) 174 6 16 a j = _
  unfold xup
  rw [if_neg (by omega), if_neg (by omega)]
theorem tS_Shp (hS : Shp σ) : Shp (tS σ) := by
  refine ⟨hS.1, hS.2.1, fun a ha j hj => ?_⟩
  have hz : ∀ j, (j = 5 ∨ j = 6) → (shR.getD 174 []).getD j 0 = 0 := fun j h => by rcases h with rfl | rfl <;> decide +kernel
  rw [tS_R (fun z => hj (by rw [z.1]; exact hz j z.2))]
  exact hS.2.2 a ha j hj
theorem tS_E (hE : EnO σ 157 c m) : EnO (tS σ) 157 c m := ⟨hE.1, by rw [tS_R (by omega)]; exact hE.2.1, hE.2.2⟩
theorem tS_K (hK : ENK I (xR σ) (xlen σ) 157 g F) : ENK I (xR (tS σ)) (xlen (tS σ)) 157 g F := by
  unfold ENK at *
  rw [tS_R (by omega)]
  exact hK
theorem sort1_ok {Q : XS → Prop} (hS : Shp σ) (hW : WAY I 166 g F) (h8 : I 174 8 = nI 0) (he : ∀ J : Nat → Nat → Int32, J 174 8 = nI (tP g F 289) → (∀ j, j < 289 → J 176 j = nI (tP g F j)) → (∀ a k, a ≠ 176 → ¬ (a = 174 ∧ k = 8) → J a k = I a k) → ∃ r, f_X9_sort_b24 174 157 165 16 (nI 289, xw σ J) = some (.inr r) ∧ Q r) : ∃ r, xloop (f_X9_sort_b24 174 157 165 16) ((0 : Int32), xw σ I) = some r ∧ Q r := by
  refine xforI (fun k x => ∃ J : Nat → Nat → Int32, x = (nI k, xw σ J) ∧ J 174 8 = nI (tP g F k) ∧ (∀ j, j < k → J 176 j = nI (tP g F j)) ∧ ∀ a k, a ≠ 176 → ¬ (a = 174 ∧ k = 8) → J a k = I a k) 289 ⟨I, rfl, h8, fun j hj => absurd hj (Nat.not_lt_zero _), fun _ _ _ _ => rfl⟩ ?_ ?_
  · rintro k x hk ⟨J, rfl, j1, j2, j3⟩
    refine ⟨_, ?_, xup (xup J 176 k (nI (tP g F k))) 174 8 (nI (tP g F (k + 1))), rfl, ?_, ?_, ?_⟩
    · simp only [f_X9_sort_b24]
      rw [if_neg (by rw [show (289 : Int32) = nI 289 from rfl, nn_le (by omega) (by omega)]; omega)]
      simp (disch := first | assumption | omega) only [Option.bind_some, Option.map_some, xw_gR, xw_gN, xw_al, xw_ck, xw_uI, xw_ur, xup_at, xur_at, if_true, if_false, reduceIte, and_true, true_and, and_false, false_and, not_true_eq_false, not_false_eq_true, Nat.reduceEqDiff, eq_self, Nat.reduceAdd, Nat.reduceMul, kC1, kG1, kP1, kR1_0, kR1_1, kR1_2, kR1_3, kR1_4, kR1_5, kR1_6, kR1_7, kR1_8, kR1_9, kR1_10, kR1_11, kR1_12, kR1_13, kC2, kG2, kP2, kR2_0, kR2_1, kC3, kG3, kP3, kR3_0, kR3_1, kR3_2, kR3_3, kL4, kA4, kS4, kL5, kA5, kS5, kL6, kA6, kS6, kL7, kA7, kS7, kC8, kG8, kP8, kR8_0, kR8_1, kL9, kA9, kS9, kL10, kA10, kS10, kC11, kG11, kP11, kR11_0, kR11_1, kR11_2, kR11_3, kL12, kA12, kS12, kL13, kA13, kS13, kL14, kA14, kS14, kL15, kA15, kS15, kC16, kG16, kP16, kR16_0, kR16_1, kL17, kA17, kS17, kL18, kA18, kS18, kC19, kG19, kP19, kR19_0, kL20, kL141, kL146, kA146, kS146, kL151, kA151, kS151, kL156, kA156, kS156, kC157, kG157, kP157, kR157_0, kR157_1, kL158, kA158, kS158, kL159, kA159, kS159, kC161, kG161, kP161, kR161_0, kR161_1, kL162, kA162, kS162, kL163, kA163, kS163, kC165, kG165, kP165, kR165_0, kR165_1, kR165_2, kR165_3, kL166, kA166, kS166, kL167, kA167, kS167, kL168, kA168, kS168, kL169, kA169, kS169, kC170, kG170, kP170, kR170_0, kR170_1, kR170_2, kL171, kA171, kS171, kL172, kA172, kS172, kL173, kA173, kS173, kC174, kG174, kP174, kR174_0, kR174_1, kR174_2, kR174_3, kR174_4, kL175, kA175, kS175, kL176, kA176, kS176, kL177, kA177, kS177, kL178, kA178, kS178, kL179, kC180, kG180, kP180, kL181, kL182, kA182, kS182, kC183, kG183, kP183, kR183_1, kR183_3, kR183_5, kR183_6, kR183_7, kR183_8, kR183_9, kR183_21, kR183_26, kR183_27, kR183_30, kR183_31, kR183_33, kR183_34, kR183_36, kR183_37, kR183_38, kR183_39, kR183_40, kR183_41, kR183_42, kR183_43, kR183_44, kL184, kA184, kS184, kL185, kA185, kS185, kL186, kA186, kS186, kL187, kA187, kS187, kL188, kA188, kS188, kL189, kL190, kL191, kA191, kS191, kL192, kA192, kS192, kL193, kA193, kS193, kL194, kA194, kS194, kL195, kA195, kS195, kL196, kA196, kS196, kL197, kA197, kS197, kL198, kA198, kS198, kL199, kA199, kS199, kL200, kA200, kS200, kL201, kL202, kA202, kS202, kL203, kA203, kS203, kL204, kA204, kS204, kL205, kL206, kA206, kS206, j1, j3 166 k (by omega) (by omega), hW k hk, nn_add]
      rw [nI_succ]
      rfl
    · rw [xup_at, if_pos ⟨rfl, rfl⟩]
    · intro j hj
      rw [xup_at, if_neg (by omega), xup_at]
      by_cases z : j = k
      · rw [if_pos ⟨rfl, z⟩, z]
      · rw [if_neg (by omega)]; exact j2 j (by omega)
    · intro a k h1 h2
      rw [xup_at, if_neg h2, xup_at, if_neg (by omega)]; exact j3 a k h1 h2
  · rintro x ⟨J, rfl, j1, j2, j3⟩
    exact he J j1 j2 j3
theorem put_ok (hS : Shp σ) {k p s : Nat} (hk : k < 289) (hp : p < 1024) (hv : I 176 k = nI p) : f_X9_putInOrder (xw σ I) 174 (nI s) (nI k) = some (xw σ (xup (xup I 175 p (nI s)) 176 k (nI (p + 1)))) := by
  unfold f_X9_putInOrder
  rw [if_neg (nI_pos (by omega)), if_neg (by rw [show (289 : Int32) = nI 289 from rfl, nn_le (by omega) (by omega)]; omega)]
  have e : ((1024 : Int32) ≤ nI p) = False := by rw [show (1024 : Int32) = nI 1024 from rfl, nn_le (by omega) (by omega)]; exact eq_false (by omega)
  simp (disch := first | assumption | omega) only [Option.bind_some, Option.map_some, xw_gR, xw_gN, xw_al, xw_ck, xw_uI, xw_ur, xup_at, xur_at, if_true, if_false, reduceIte, and_true, true_and, and_false, false_and, not_true_eq_false, not_false_eq_true, Nat.reduceEqDiff, eq_self, Nat.reduceAdd, Nat.reduceMul, kC1, kG1, kP1, kR1_0, kR1_1, kR1_2, kR1_3, kR1_4, kR1_5, kR1_6, kR1_7, kR1_8, kR1_9, kR1_10, kR1_11, kR1_12, kR1_13, kC2, kG2, kP2, kR2_0, kR2_1, kC3, kG3, kP3, kR3_0, kR3_1, kR3_2, kR3_3, kL4, kA4, kS4, kL5, kA5, kS5, kL6, kA6, kS6, kL7, kA7, kS7, kC8, kG8, kP8, kR8_0, kR8_1, kL9, kA9, kS9, kL10, kA10, kS10, kC11, kG11, kP11, kR11_0, kR11_1, kR11_2, kR11_3, kL12, kA12, kS12, kL13, kA13, kS13, kL14, kA14, kS14, kL15, kA15, kS15, kC16, kG16, kP16, kR16_0, kR16_1, kL17, kA17, kS17, kL18, kA18, kS18, kC19, kG19, kP19, kR19_0, kL20, kL141, kL146, kA146, kS146, kL151, kA151, kS151, kL156, kA156, kS156, kC157, kG157, kP157, kR157_0, kR157_1, kL158, kA158, kS158, kL159, kA159, kS159, kC161, kG161, kP161, kR161_0, kR161_1, kL162, kA162, kS162, kL163, kA163, kS163, kC165, kG165, kP165, kR165_0, kR165_1, kR165_2, kR165_3, kL166, kA166, kS166, kL167, kA167, kS167, kL168, kA168, kS168, kL169, kA169, kS169, kC170, kG170, kP170, kR170_0, kR170_1, kR170_2, kL171, kA171, kS171, kL172, kA172, kS172, kL173, kA173, kS173, kC174, kG174, kP174, kR174_0, kR174_1, kR174_2, kR174_3, kR174_4, kL175, kA175, kS175, kL176, kA176, kS176, kL177, kA177, kS177, kL178, kA178, kS178, kL179, kC180, kG180, kP180, kL181, kL182, kA182, kS182, kC183, kG183, kP183, kR183_1, kR183_3, kR183_5, kR183_6, kR183_7, kR183_8, kR183_9, kR183_21, kR183_26, kR183_27, kR183_30, kR183_31, kR183_33, kR183_34, kR183_36, kR183_37, kR183_38, kR183_39, kR183_40, kR183_41, kR183_42, kR183_43, kR183_44, kL184, kA184, kS184, kL185, kA185, kS185, kL186, kA186, kS186, kL187, kA187, kS187, kL188, kA188, kS188, kL189, kL190, kL191, kA191, kS191, kL192, kA192, kS192, kL193, kA193, kS193, kL194, kA194, kS194, kL195, kA195, kS195, kL196, kA196, kS196, kL197, kA197, kS197, kL198, kA198, kS198, kL199, kA199, kS199, kL200, kA200, kS200, kL201, kL202, kA202, kS202, kL203, kA203, kS203, kL204, kA204, kS204, kL205, kL206, kA206, kS206, hv, nn_nneg, e, nI_succ]
theorem sort2_ok (hS : Shp σ) (hg : g ∈ gAll) (ho : RO g F) (h10 : gSz g ≤ 10) (hE : EnO σ 157 c m) (hK : ENK I (xR σ) (xlen σ) 157 g F) (hSR : SR g I 16 F) (h6 : ∀ j, j < 289 → I 176 j = nI (tP g F j)) :
    ∃ r, xloop (f_X9_sort_b96 174 157 16 (nI (gSt g))) ((0 : Int32), xw σ I) = some r ∧ ∃ J, r = xw σ J ∧ (∀ s, s < gSt g → lW g F s = true → J 175 (tQ g F s) = nI s) ∧ ∀ a k, a ≠ 175 → a ≠ 176 → J a k = I a k := by
  have hEb := hE.b
  have hSt := gSt_b hg
  have h1024 : gSt g ≤ 1024 := Nat.le_trans hSt.2 (Nat.pow_le_pow_right (by decide) h10)
  obtain ⟨o, -, -, -, hM⟩ := t_ord hg ho
  refine xforI (fun s x => ∃ J : Nat → Nat → Int32, x = (nI s, xw σ J) ∧ (∀ j, j < 289 → J 176 j = nI (tP g F j + fb_ct (lE g F ((j : Int) - 144)) s)) ∧ (∀ s', s' < s → lW g F s' = true → J 175 (tQ g F s') = nI s') ∧ ∀ a k, a ≠ 175 → a ≠ 176 → J a k = I a k) (gSt g) ⟨I, rfl, fun j hj => h6 j hj, fun j hj => absurd hj (Nat.not_lt_zero _), fun _ _ _ _ => rfl⟩ ?_ ?_
  · rintro s x hs ⟨J, rfl, j1, j2, j3⟩
    have hSRJ : SR g J 16 F := SR_m hg (fun k _ _ => j3 _ k (by omega) (by omega)) (fun k _ => j3 _ k (by omega) (by omega)) (fun k _ => j3 _ k (by omega) (by omega)) (fun k _ => rfl) hSR
    have hKJ : ENK J (xR σ) (xlen σ) 157 g F := ENK_c (fun k => by rw [hE.2.1]; exact j3 _ k (by omega) (by omega)) hK
    have hal := allows_ok (σ := σ) (I := J) hS hg suA_16 hSRJ s
    have hof := of_ok (σ := σ) (I := J) hS hE hKJ (show s < 2 ^ gSz g by omega)
    cases hl : lW g F s with
    | false =>
      rw [hl] at hal
      refine ⟨_, ?_, J, rfl, fun j hj => ?_, fun s' h1 h2 => ?_, j3⟩
      · simp only [f_X9_sort_b96]
        rw [if_neg (by rw [nn_le (by omega) (by omega)]; omega)]
        simp (disch := first | assumption | omega) only [Option.bind_some, Option.map_some, xw_gR, xw_gN, xw_al, xw_ck, xw_uI, xw_ur, xup_at, xur_at, if_true, if_false, reduceIte, and_true, true_and, and_false, false_and, not_true_eq_false, not_false_eq_true, Nat.reduceEqDiff, eq_self, Nat.reduceAdd, Nat.reduceMul, kC1, kG1, kP1, kR1_0, kR1_1, kR1_2, kR1_3, kR1_4, kR1_5, kR1_6, kR1_7, kR1_8, kR1_9, kR1_10, kR1_11, kR1_12, kR1_13, kC2, kG2, kP2, kR2_0, kR2_1, kC3, kG3, kP3, kR3_0, kR3_1, kR3_2, kR3_3, kL4, kA4, kS4, kL5, kA5, kS5, kL6, kA6, kS6, kL7, kA7, kS7, kC8, kG8, kP8, kR8_0, kR8_1, kL9, kA9, kS9, kL10, kA10, kS10, kC11, kG11, kP11, kR11_0, kR11_1, kR11_2, kR11_3, kL12, kA12, kS12, kL13, kA13, kS13, kL14, kA14, kS14, kL15, kA15, kS15, kC16, kG16, kP16, kR16_0, kR16_1, kL17, kA17, kS17, kL18, kA18, kS18, kC19, kG19, kP19, kR19_0, kL20, kL141, kL146, kA146, kS146, kL151, kA151, kS151, kL156, kA156, kS156, kC157, kG157, kP157, kR157_0, kR157_1, kL158, kA158, kS158, kL159, kA159, kS159, kC161, kG161, kP161, kR161_0, kR161_1, kL162, kA162, kS162, kL163, kA163, kS163, kC165, kG165, kP165, kR165_0, kR165_1, kR165_2, kR165_3, kL166, kA166, kS166, kL167, kA167, kS167, kL168, kA168, kS168, kL169, kA169, kS169, kC170, kG170, kP170, kR170_0, kR170_1, kR170_2, kL171, kA171, kS171, kL172, kA172, kS172, kL173, kA173, kS173, kC174, kG174, kP174, kR174_0, kR174_1, kR174_2, kR174_3, kR174_4, kL175, kA175, kS175, kL176, kA176, kS176, kL177, kA177, kS177, kL178, kA178, kS178, kL179, kC180, kG180, kP180, kL181, kL182, kA182, kS182, kC183, kG183, kP183, kR183_1, kR183_3, kR183_5, kR183_6, kR183_7, kR183_8, kR183_9, kR183_21, kR183_26, kR183_27, kR183_30, kR183_31, kR183_33, kR183_34, kR183_36, kR183_37, kR183_38, kR183_39, kR183_40, kR183_41, kR183_42, kR183_43, kR183_44, kL184, kA184, kS184, kL185, kA185, kS185, kL186, kA186, kS186, kL187, kA187, kS187, kL188, kA188, kS188, kL189, kL190, kL191, kA191, kS191, kL192, kA192, kS192, kL193, kA193, kS193, kL194, kA194, kS194, kL195, kA195, kS195, kL196, kA196, kS196, kL197, kA197, kS197, kL198, kA198, kS198, kL199, kA199, kS199, kL200, kA200, kS200, kL201, kL202, kA202, kS202, kL203, kA203, kS203, kL204, kA204, kS204, kL205, kL206, kA206, kS206, hal]
        rw [nI_succ]
        rfl
      · have : lE g F ((j : Int) - 144) s = false := by unfold lE; rw [hl]; rfl
        rw [fb_ct_succ, this]; exact j1 j hj
      · by_cases z : s' = s
        · rw [z, hl] at h2; cases h2
        · exact j2 s' (by omega) h2
    | true =>
      rw [hl] at hal
      have hk := tK_ok hg ho s
      have hq : tQ g F s < 1024 := by
        have := tQ_top hg ho hs hl
        omega
      have hv := j1 _ hk.1
      have e1 : iI (eE g (zR F) s) + (144 : Int32) = nI (tK g F s) := by rw [← hk.2]; exact e144 _
      have hput := put_ok (σ := σ) (I := J) (s := s) hS hk.1 hq hv
      refine ⟨_, ?_, xup (xup J 175 (tQ g F s) (nI s)) 176 (tK g F s) (nI (tQ g F s + 1)), rfl, fun j hj => ?_, fun s' h1 h2 => ?_, fun a k h1 h2 => ?_⟩
      · simp only [f_X9_sort_b96]
        rw [if_neg (by rw [nn_le (by omega) (by omega)]; omega)]
        have hc2 : xck (xw σ J) 157 2 = some () := by rw [xw_ck]; exact xck_ok (hE.T hS)
        simp (disch := first | assumption | omega) only [Option.bind_some, Option.map_some, xw_gR, xw_gN, xw_al, xw_ck, xw_uI, xw_ur, xup_at, xur_at, if_true, if_false, reduceIte, and_true, true_and, and_false, false_and, not_true_eq_false, not_false_eq_true, Nat.reduceEqDiff, eq_self, Nat.reduceAdd, Nat.reduceMul, kC1, kG1, kP1, kR1_0, kR1_1, kR1_2, kR1_3, kR1_4, kR1_5, kR1_6, kR1_7, kR1_8, kR1_9, kR1_10, kR1_11, kR1_12, kR1_13, kC2, kG2, kP2, kR2_0, kR2_1, kC3, kG3, kP3, kR3_0, kR3_1, kR3_2, kR3_3, kL4, kA4, kS4, kL5, kA5, kS5, kL6, kA6, kS6, kL7, kA7, kS7, kC8, kG8, kP8, kR8_0, kR8_1, kL9, kA9, kS9, kL10, kA10, kS10, kC11, kG11, kP11, kR11_0, kR11_1, kR11_2, kR11_3, kL12, kA12, kS12, kL13, kA13, kS13, kL14, kA14, kS14, kL15, kA15, kS15, kC16, kG16, kP16, kR16_0, kR16_1, kL17, kA17, kS17, kL18, kA18, kS18, kC19, kG19, kP19, kR19_0, kL20, kL141, kL146, kA146, kS146, kL151, kA151, kS151, kL156, kA156, kS156, kC157, kG157, kP157, kR157_0, kR157_1, kL158, kA158, kS158, kL159, kA159, kS159, kC161, kG161, kP161, kR161_0, kR161_1, kL162, kA162, kS162, kL163, kA163, kS163, kC165, kG165, kP165, kR165_0, kR165_1, kR165_2, kR165_3, kL166, kA166, kS166, kL167, kA167, kS167, kL168, kA168, kS168, kL169, kA169, kS169, kC170, kG170, kP170, kR170_0, kR170_1, kR170_2, kL171, kA171, kS171, kL172, kA172, kS172, kL173, kA173, kS173, kC174, kG174, kP174, kR174_0, kR174_1, kR174_2, kR174_3, kR174_4, kL175, kA175, kS175, kL176, kA176, kS176, kL177, kA177, kS177, kL178, kA178, kS178, kL179, kC180, kG180, kP180, kL181, kL182, kA182, kS182, kC183, kG183, kP183, kR183_1, kR183_3, kR183_5, kR183_6, kR183_7, kR183_8, kR183_9, kR183_21, kR183_26, kR183_27, kR183_30, kR183_31, kR183_33, kR183_34, kR183_36, kR183_37, kR183_38, kR183_39, kR183_40, kR183_41, kR183_42, kR183_43, kR183_44, kL184, kA184, kS184, kL185, kA185, kS185, kL186, kA186, kS186, kL187, kA187, kS187, kL188, kA188, kS188, kL189, kL190, kL191, kA191, kS191, kL192, kA192, kS192, kL193, kA193, kS193, kL194, kA194, kS194, kL195, kA195, kS195, kL196, kA196, kS196, kL197, kA197, kS197, kL198, kA198, kS198, kL199, kA199, kS199, kL200, kA200, kS200, kL201, kL202, kA202, kS202, kL203, kA203, kS203, kL204, kA204, kS204, kL205, kL206, kA206, kS206, hal, one0, hof, hc2, e1, hput]
        rw [nI_succ, nI_succ]
      · rw [xup_at]
        by_cases z : j = tK g F s
        · rw [if_pos ⟨rfl, z⟩, z, fb_ct_succ, tE_ok hg ho hl]
          rfl
        · rw [if_neg (by omega), xup_at, if_neg (by omega), j1 j hj, fb_ct_succ]
          have : lE g F ((j : Int) - 144) s = false := by
            unfold lE
            have : ¬ (eE g (zR F) s = (j : Int) - 144) := by omega
            simp [this]
          rw [this]; rfl
      · rw [xup_at, if_neg (by omega), xup_at]
        by_cases z : s' = s
        · rw [if_pos ⟨rfl, by rw [z]⟩, z]
        · rw [if_neg (fun q => z (tQ_inj hg ho (by omega) hs h2 hl q.2))]; exact j2 s' (by omega) h2
      · rw [xup_at, if_neg (by omega), xup_at, if_neg (by omega)]; exact j3 a k h1 h2
  · rintro x ⟨J, rfl, j1, j2, j3⟩
    refine ⟨_, ?_, J, rfl, j2, j3⟩
    simp only [f_X9_sort_b96]
    rw [if_pos (by rw [nn_le (by omega) (by omega)]; exact Nat.le_refl _)]
    rfl
theorem sort_ok (hS : Shp σ) (hg : g ∈ gAll) (ho : RO g F) (h10 : gSz g ≤ 10) (hE : EnO σ 157 c m) (hK : ENK I (xR σ) (xlen σ) 157 g F) (hSR : SR g I 16 F) (hW : WAY I 166 g F) :
    ∃ J, f_X9_sort (xw σ I) 174 157 165 16 (nI (gSz g)) = some (xw (tS σ) J) ∧ TRK J (xR (tS σ)) g F ∧ ∀ a k, a ≠ 175 → a ≠ 176 → ¬ (a = 174 ∧ (k = 7 ∨ k = 8)) → J a k = I a k := by
  have hEb := hE.b
  have hSt := gSt_b hg
  have hS2 := tS_Shp hS
  have h1024 : gSt g ≤ 1024 := Nat.le_trans hSt.2 (Nat.pow_le_pow_right (by decide) h10)
  obtain ⟨I1, hI1⟩ : ∃ I1, I1 = xup (xup I 174 7 (nI (gSz g))) 174 8 0 := ⟨_, rfl⟩
  have u1 : ∀ a k, ¬ (a = 174 ∧ (k = 7 ∨ k = 8)) → I1 a k = I a k := fun a k h => by rw [hI1, xup_at, if_neg (by omega), xup_at, if_neg (by omega)]
  obtain ⟨r, e1, J, rfl, a1, a2, a3, a4⟩ := sort1_ok (σ := tS σ) (I := I1) (g := g) (F := F) (Q := fun r => ∃ J, r = xw (tS σ) J ∧ J 174 8 = nI (tP g F 289) ∧ J 174 7 = nI (gSz g) ∧ (∀ s, s < gSt g → lW g F s = true → J 175 (tQ g F s) = nI s) ∧ ∀ a k, a ≠ 175 → a ≠ 176 → ¬ (a = 174 ∧ (k = 7 ∨ k = 8)) → J a k = I a k) hS2 (fun k hk => by rw [u1 _ _ (by omega)]; exact hW k hk) (by rw [hI1, xup_at, if_pos ⟨rfl, rfl⟩]; rfl) (by
    intro J j1 j2 j3
    have hSRJ : SR g J 16 F := SR_m hg (fun k _ _ => by rw [j3 _ k (by omega) (by omega)]; exact u1 _ _ (by omega)) (fun k _ => by rw [j3 _ k (by omega) (by omega)]; exact u1 _ _ (by omega)) (fun k _ => by rw [j3 _ k (by omega) (by omega)]; exact u1 _ _ (by omega)) (fun k _ => rfl) hSR
    have hKJ : ENK J (xR (tS σ)) (xlen (tS σ)) 157 g F := tS_K (ENK_c (fun k => by rw [hE.2.1, j3 _ k (by omega) (by omega)]; exact u1 _ _ (by omega)) hK)
    obtain ⟨r, e2, J2, rfl, b1, b2⟩ := sort2_ok (σ := tS σ) (I := J) hS2 hg ho h10 (tS_E hE) hKJ hSRJ j2
    have j7 : J 174 7 = nI (gSz g) := by rw [j3 174 7 (by omega) (by omega), hI1, xup_at, if_neg (by omega), xup_at, if_pos ⟨rfl, rfl⟩]
    refine ⟨xw (tS σ) J2, ?_, J2, rfl, by rw [b2 _ _ (by omega) (by omega)]; exact j1, by rw [b2 _ _ (by omega) (by omega)]; exact j7, b1, fun a k h1 h2 h3 => by rw [b2 a k h1 h2, j3 a k h2 (by omega)]; exact u1 a k h3⟩
    simp only [f_X9_sort_b24]
    rw [if_pos (by decide)]
    have q0 : (nI (gSz g) ≤ 0) = (gSz g ≤ 0) := nn_le (b := 0) (by omega) (by decide)
    have q1 : ((10 : Int32) < nI (gSz g)) = (10 < gSz g) := nn_lt (a := 10) (by omega) (by omega)
    simp (disch := first | assumption | omega) only [Option.bind_some, Option.map_some, xw_gR, xw_gN, xw_al, xw_ck, xw_uI, xw_ur, xup_at, xur_at, if_true, if_false, reduceIte, and_true, true_and, and_false, false_and, not_true_eq_false, not_false_eq_true, Nat.reduceEqDiff, eq_self, Nat.reduceAdd, Nat.reduceMul, kC1, kG1, kP1, kR1_0, kR1_1, kR1_2, kR1_3, kR1_4, kR1_5, kR1_6, kR1_7, kR1_8, kR1_9, kR1_10, kR1_11, kR1_12, kR1_13, kC2, kG2, kP2, kR2_0, kR2_1, kC3, kG3, kP3, kR3_0, kR3_1, kR3_2, kR3_3, kL4, kA4, kS4, kL5, kA5, kS5, kL6, kA6, kS6, kL7, kA7, kS7, kC8, kG8, kP8, kR8_0, kR8_1, kL9, kA9, kS9, kL10, kA10, kS10, kC11, kG11, kP11, kR11_0, kR11_1, kR11_2, kR11_3, kL12, kA12, kS12, kL13, kA13, kS13, kL14, kA14, kS14, kL15, kA15, kS15, kC16, kG16, kP16, kR16_0, kR16_1, kL17, kA17, kS17, kL18, kA18, kS18, kC19, kG19, kP19, kR19_0, kL20, kL141, kL146, kA146, kS146, kL151, kA151, kS151, kL156, kA156, kS156, kC157, kG157, kP157, kR157_0, kR157_1, kL158, kA158, kS158, kL159, kA159, kS159, kC161, kG161, kP161, kR161_0, kR161_1, kL162, kA162, kS162, kL163, kA163, kS163, kC165, kG165, kP165, kR165_0, kR165_1, kR165_2, kR165_3, kL166, kA166, kS166, kL167, kA167, kS167, kL168, kA168, kS168, kL169, kA169, kS169, kC170, kG170, kP170, kR170_0, kR170_1, kR170_2, kL171, kA171, kS171, kL172, kA172, kS172, kL173, kA173, kS173, kC174, kG174, kP174, kR174_0, kR174_1, kR174_2, kR174_3, kR174_4, kL175, kA175, kS175, kL176, kA176, kS176, kL177, kA177, kS177, kL178, kA178, kS178, kL179, kC180, kG180, kP180, kL181, kL182, kA182, kS182, kC183, kG183, kP183, kR183_1, kR183_3, kR183_5, kR183_6, kR183_7, kR183_8, kR183_9, kR183_21, kR183_26, kR183_27, kR183_30, kR183_31, kR183_33, kR183_34, kR183_36, kR183_37, kR183_38, kR183_39, kR183_40, kR183_41, kR183_42, kR183_43, kR183_44, kL184, kA184, kS184, kL185, kA185, kS185, kL186, kA186, kS186, kL187, kA187, kS187, kL188, kA188, kS188, kL189, kL190, kL191, kA191, kS191, kL192, kA192, kS192, kL193, kA193, kS193, kL194, kA194, kS194, kL195, kA195, kS195, kL196, kA196, kS196, kL197, kA197, kS197, kL198, kA198, kS198, kL199, kA199, kS199, kL200, kA200, kS200, kL201, kL202, kA202, kS202, kL203, kA203, kS203, kL204, kA204, kS204, kL205, kL206, kA206, kS206, j7, q0, q1, show ¬ (10 < gSz g) by omega, nn_one]
    by_cases z : gSz g = 0
    · rw [if_pos (by omega)]
      have : gSt g = 0 := by unfold gSt; rw [if_pos z]
      rw [this] at e2
      rw [show (0 : Int32) = nI 0 from rfl, show nI 0 = (0 : Int32) from rfl] at *
      rw [e2]; rfl
    · rw [if_neg (by omega)]
      have : gSt g = 2 ^ gSz g := by unfold gSt; rw [if_neg z]
      rw [this] at e2
      rw [e2]; rfl)
  refine ⟨J, ?_, ?_, a4⟩
  · unfold f_X9_sort
    rw [xnz_ok (by decide), Option.bind_some, xpR_ok (show xT (xw σ I) 174 = 9 from sT174 hS), Option.bind_some, xnz_ok (by decide), Option.bind_some, xpR_ok (show xT (xuR (xw σ I) 174 5 157) 174 = 9 from (show xT σ 174 = 9 from sT174 hS)), Option.bind_some]
    show ((xpI (xw (tS σ) I) 174 9 7 (nI (gSz g))).bind fun σ8 => _) = _
    simp (disch := first | assumption | omega) only [Option.bind_some, Option.map_some, xw_gR, xw_gN, xw_al, xw_ck, xw_uI, xw_ur, xup_at, xur_at, if_true, if_false, reduceIte, and_true, true_and, and_false, false_and, not_true_eq_false, not_false_eq_true, Nat.reduceEqDiff, eq_self, Nat.reduceAdd, Nat.reduceMul, kC1, kG1, kP1, kR1_0, kR1_1, kR1_2, kR1_3, kR1_4, kR1_5, kR1_6, kR1_7, kR1_8, kR1_9, kR1_10, kR1_11, kR1_12, kR1_13, kC2, kG2, kP2, kR2_0, kR2_1, kC3, kG3, kP3, kR3_0, kR3_1, kR3_2, kR3_3, kL4, kA4, kS4, kL5, kA5, kS5, kL6, kA6, kS6, kL7, kA7, kS7, kC8, kG8, kP8, kR8_0, kR8_1, kL9, kA9, kS9, kL10, kA10, kS10, kC11, kG11, kP11, kR11_0, kR11_1, kR11_2, kR11_3, kL12, kA12, kS12, kL13, kA13, kS13, kL14, kA14, kS14, kL15, kA15, kS15, kC16, kG16, kP16, kR16_0, kR16_1, kL17, kA17, kS17, kL18, kA18, kS18, kC19, kG19, kP19, kR19_0, kL20, kL141, kL146, kA146, kS146, kL151, kA151, kS151, kL156, kA156, kS156, kC157, kG157, kP157, kR157_0, kR157_1, kL158, kA158, kS158, kL159, kA159, kS159, kC161, kG161, kP161, kR161_0, kR161_1, kL162, kA162, kS162, kL163, kA163, kS163, kC165, kG165, kP165, kR165_0, kR165_1, kR165_2, kR165_3, kL166, kA166, kS166, kL167, kA167, kS167, kL168, kA168, kS168, kL169, kA169, kS169, kC170, kG170, kP170, kR170_0, kR170_1, kR170_2, kL171, kA171, kS171, kL172, kA172, kS172, kL173, kA173, kS173, kC174, kG174, kP174, kR174_0, kR174_1, kR174_2, kR174_3, kR174_4, kL175, kA175, kS175, kL176, kA176, kS176, kL177, kA177, kS177, kL178, kA178, kS178, kL179, kC180, kG180, kP180, kL181, kL182, kA182, kS182, kC183, kG183, kP183, kR183_1, kR183_3, kR183_5, kR183_6, kR183_7, kR183_8, kR183_9, kR183_21, kR183_26, kR183_27, kR183_30, kR183_31, kR183_33, kR183_34, kR183_36, kR183_37, kR183_38, kR183_39, kR183_40, kR183_41, kR183_42, kR183_43, kR183_44, kL184, kA184, kS184, kL185, kA185, kS185, kL186, kA186, kS186, kL187, kA187, kS187, kL188, kA188, kS188, kL189, kL190, kL191, kA191, kS191, kL192, kA192, kS192, kL193, kA193, kS193, kL194, kA194, kS194, kL195, kA195, kS195, kL196, kA196, kS196, kL197, kA197, kS197, kL198, kA198, kS198, kL199, kA199, kS199, kL200, kA200, kS200, kL201, kL202, kA202, kS202, kL203, kA203, kS203, kL204, kA204, kS204, kL205, kL206, kA206, kS206, ← hI1]
    exact e1
  · intro _
    obtain ⟨o, o1, o2, o3, o4⟩ := t_ord hg ho
    refine ⟨a2, rfl, rfl, tP g F 289, o, by omega, a1, fun i hi => ?_, o2, o3⟩
    obtain ⟨z1, z2, z3⟩ := o1 i hi
    refine ⟨?_, z1, z2⟩
    rw [← a3 _ z1 z2, z3]
end SORT
end
section
/-! the terrain at hand -/
theorem TRK_F {I : Nat → Nat → Int32} {R : Nat → Nat → Nat} {g : GD} {F F' : Nat → Int32} (hg : g ∈ gAll) (h : ∀ k, k < 64 → F' k = F k) (H : TRK I R g F) : TRK I R g F' := by
  obtain ⟨c1, c2, -⟩ := ct_congr hg h
  unfold TRK at *
  rw [c1, c2]
  exact H
theorem terrainNow_ok {n : Nat} {σ : XS} {g : GD} {gT gP : GH} {st : Nat} (hn : n ≤ 512) (H : IV n σ g gT gP st) (h10 : gSz g ≤ 10) : ∃ τ, f_X11_terrainNow σ 1 = some (174, τ) ∧ IV n τ g gT gP st ∧ ENK (xI τ) (xR τ) (xlen τ) 157 g (xI τ 191) ∧ LVK (xI τ) g (xI τ 191) ∧ TRK (xI τ) (xR τ) g (xI τ 191) ∧ (∀ b j, (b < 157 ∨ (161 ≤ b ∧ b ≤ 164) ∨ (170 ≤ b ∧ b ≤ 173) ∨ (177 ≤ b ∧ b ≤ 206)) → xI τ b j = xI σ b j) := by
  obtain ⟨σ1, e1, H1, K1, L1, u1, -⟩ := levelsNow_ok hn H
  have hS := H1.shp
  have hG := H1.grd
  have hg := hG.1
  obtain ⟨hSR, hRO, t, p, ht, hp, e6, e7, gt1, gt2, gp1, gp2⟩ := H1.now
  have hst := H1.stn
  obtain ⟨c, a, hE, ha, hcn⟩ := H1.en157
  have hEb := hE.b
  obtain ⟨J, q1, q2, q3⟩ := sort_ok (I := xI σ1) hS hg hRO h10 hE K1 hSR L1.1
  have hS2 := tS_Shp hS
  have stp : f_X11_terrainNow σ 1 = if xI σ1 174 10 = nI p then some (174, σ1) else some (174, xw (tS σ1) (xup J 174 10 (nI p))) := by
    unfold f_X11_terrainNow
    rw [xck_ok (sT1 H.shp), Option.bind_some, e1, Option.bind_some]
    dsimp only
    rw [xnz_ok (by decide), Option.bind_some]
    show f_X11_terrainNow_j4 (xw σ1 (xI σ1)) 1 165 = _
    unfold f_X11_terrainNow_j4
    have j16 : J 16 7 = nI p := by rw [q3 16 7 (by omega) (by omega) (by omega)]; exact e7
    simp (disch := first | assumption | omega) only [Option.bind_some, Option.map_some, xw_gR, xw_gN, xw_al, xw_ck, xw_uI, xw_ur, xup_at, xur_at, if_true, if_false, reduceIte, and_true, true_and, and_false, false_and, not_true_eq_false, not_false_eq_true, Nat.reduceEqDiff, eq_self, Nat.reduceAdd, Nat.reduceMul, kC1, kG1, kP1, kR1_0, kR1_1, kR1_2, kR1_3, kR1_4, kR1_5, kR1_6, kR1_7, kR1_8, kR1_9, kR1_10, kR1_11, kR1_12, kR1_13, kC2, kG2, kP2, kR2_0, kR2_1, kC3, kG3, kP3, kR3_0, kR3_1, kR3_2, kR3_3, kL4, kA4, kS4, kL5, kA5, kS5, kL6, kA6, kS6, kL7, kA7, kS7, kC8, kG8, kP8, kR8_0, kR8_1, kL9, kA9, kS9, kL10, kA10, kS10, kC11, kG11, kP11, kR11_0, kR11_1, kR11_2, kR11_3, kL12, kA12, kS12, kL13, kA13, kS13, kL14, kA14, kS14, kL15, kA15, kS15, kC16, kG16, kP16, kR16_0, kR16_1, kL17, kA17, kS17, kL18, kA18, kS18, kC19, kG19, kP19, kR19_0, kL20, kL141, kL146, kA146, kS146, kL151, kA151, kS151, kL156, kA156, kS156, kC157, kG157, kP157, kR157_0, kR157_1, kL158, kA158, kS158, kL159, kA159, kS159, kC161, kG161, kP161, kR161_0, kR161_1, kL162, kA162, kS162, kL163, kA163, kS163, kC165, kG165, kP165, kR165_0, kR165_1, kR165_2, kR165_3, kL166, kA166, kS166, kL167, kA167, kS167, kL168, kA168, kS168, kL169, kA169, kS169, kC170, kG170, kP170, kR170_0, kR170_1, kR170_2, kL171, kA171, kS171, kL172, kA172, kS172, kL173, kA173, kS173, kC174, kG174, kP174, kR174_0, kR174_1, kR174_2, kR174_3, kR174_4, kL175, kA175, kS175, kL176, kA176, kS176, kL177, kA177, kS177, kL178, kA178, kS178, kL179, kC180, kG180, kP180, kL181, kL182, kA182, kS182, kC183, kG183, kP183, kR183_1, kR183_3, kR183_5, kR183_6, kR183_7, kR183_8, kR183_9, kR183_21, kR183_26, kR183_27, kR183_30, kR183_31, kR183_33, kR183_34, kR183_36, kR183_37, kR183_38, kR183_39, kR183_40, kR183_41, kR183_42, kR183_43, kR183_44, kL184, kA184, kS184, kL185, kA185, kS185, kL186, kA186, kS186, kL187, kA187, kS187, kL188, kA188, kS188, kL189, kL190, kL191, kA191, kS191, kL192, kA192, kS192, kL193, kA193, kS193, kL194, kA194, kS194, kL195, kA195, kS195, kL196, kA196, kS196, kL197, kA197, kS197, kL198, kA198, kS198, kL199, kA199, kS199, kL200, kA200, kS200, kL201, kL202, kA202, kS202, kL203, kA203, kS203, kL204, kA204, kS204, kL205, kL206, kA206, kS206, e7, xnz_ok, hG.2.2.2.2.1, q1, j16]
    rfl
  rw [stp]
  by_cases hq : xI σ1 174 10 = nI p
  · rw [if_pos hq]
    refine ⟨σ1, rfl, H1, K1, L1, ?_, fun b j hb => u1 b j (by omega)⟩
    rcases H1.cch.2.2.2 with z | ⟨p', z1, z2, z3⟩
    · rw [hq] at z
      exact absurd z (by have := nn_m1 (a := p) (by omega); rw [this]; exact id)
    · have : p' = p := by
        rw [hq, nn_eq (by omega) (by omega)] at z2; exact z2.symm
      subst this
      rw [gp1] at z3
      exact TRK_F hg gp2 z3
  · rw [if_neg hq]
    have ux : ∀ b j, b ≠ 174 → b ≠ 175 → b ≠ 176 → xup J 174 10 (nI p) b j = xI σ1 b j := fun b j h1 h2 h3 => by rw [xup_at, if_neg (by omega), q3 b j (by omega) (by omega) (by omega)]
    have trk : TRK (xup J 174 10 (nI p)) (xR (tS σ1)) g (xI σ1 191) := by
      intro h
      obtain ⟨y1, y2, y3, M, o, y4, y5, y6, y7⟩ := q2 h
      exact ⟨by rw [xup_at, if_neg (by omega)]; exact y1, y2, y3, M, o, y4, by rw [xup_at, if_neg (by omega)]; exact y5, fun i hi => by rw [xup_at, if_neg (by omega)]; exact y6 i hi, y7⟩
    have row : xup J 174 10 (nI p) 191 = xI σ1 191 := by funext k; exact ux 191 k (by omega) (by omega) (by omega)
    have enk : ∀ g F, ENK (xI σ1) (xR σ1) (xlen σ1) 157 g F → ENK (xup J 174 10 (nI p)) (xR (tS σ1)) (xlen (tS σ1)) 157 g F := fun g F h => tS_K (ENK_c (fun k => ux _ k (by rw [hE.2.1]; omega) (by rw [hE.2.1]; omega) (by rw [hE.2.1]; omega)) h)
    have hcel : CEL (tS σ1).1 (xR (tS σ1)) (xn (tS σ1)) (xz (tS σ1)) (xL (tS σ1)) := by
      have := H1.cel
      unfold CEL at *
      rw [tS_R (by omega), tS_R (by omega)]
      exact this
    refine ⟨_, rfl, H1.cache (τ := xw (tS σ1) (xup J 174 10 (nI p))) hS2 (fun b j hb => ux b j (by omega) (by omega) (by omega)) ?_ hcel, ?_, ?_, ?_, fun b j hb => ?_⟩
    · obtain ⟨c1, c2, c3, c4⟩ := H1.cch
      refine ⟨?_, ?_, ?_, .inr ⟨p, hp, ?_, ?_⟩⟩
      · rw [xw_I, ux 157 5 (by omega) (by omega) (by omega)]
        rcases c1 with z | ⟨q, z1, z2, z3⟩
        · exact .inl z
        · exact .inr ⟨q, z1, z2, enk _ _ z3⟩
      · rw [xw_I, ux 165 5 (by omega) (by omega) (by omega)]
        rcases c2 with z | ⟨q, z1, z2, z3⟩
        · exact .inl z
        · exact .inr ⟨q, z1, z2, LVK_c (fun b k hb => ux _ k (by omega) (by omega) (by omega)) z3⟩
      · rw [xw_I, ux 170 3 (by omega) (by omega) (by omega)]
        rcases c3 with z | ⟨q, z1, z2, z3⟩
        · exact .inl z
        · exact .inr ⟨q, z1, z2, BRK_c (fun k => ux _ k (by omega) (by omega) (by omega)) z3⟩
      · rw [xw_I, xup_at, if_pos ⟨rfl, rfl⟩]
      · rw [gp1]
        exact TRK_F hg (fun k hk => (gp2 k hk).symm) trk
    · rw [xw_I, row]; exact enk _ _ K1
    · rw [xw_I, row]; exact LVK_c (fun b k hb => ux _ k (by omega) (by omega) (by omega)) L1
    · rw [xw_I, row]; exact trk
    · rw [xw_I, ux b j (by omega) (by omega) (by omega)]; exact u1 b j (by omega)
end
section
/-! the terrain's own rows; basin -/
theorem TRK_c2 {I I' : Nat → Nat → Int32} {R : Nat → Nat → Nat} {g : GD} {F : Nat → Int32} (h7 : I' 174 7 = I 174 7) (h8 : I' 174 8 = I 174 8) (h : ∀ k, I' 175 k = I 175 k) (H : TRK I R g F) : TRK I' R g F := by
  intro hn
  obtain ⟨h1, h2, h3, M, o, h4, h5, h6, h9⟩ := H hn
  exact ⟨by rw [h7]; exact h1, h2, h3, M, o, h4, by rw [h8]; exact h5, fun i hi => by rw [h]; exact h6 i hi, h9⟩
theorem IV.terr {n : Nat} {σ : XS} {g : GD} {gT gP : GH} {st : Nat} (H : IV n σ g gT gP st) {I' : Nat → Nat → Int32} (u : ∀ a k, ¬ (176 ≤ a ∧ a ≤ 182) → ¬ (a = 174 ∧ k = 9) → I' a k = xI σ a k) : IV n (xw σ I') g gT gP st := by
  have hc := H.cells
  refine H.cache (τ := xw σ I') H.shp (fun a k h => u a k (by omega) (by omega)) ?_ H.cel
  obtain ⟨c1, c2, c3, c4⟩ := H.cch
  refine ⟨?_, ?_, ?_, ?_⟩
  · rw [xw_I, u 157 5 (by omega) (by omega)]
    rcases c1 with z | ⟨q, z1, z2, z3⟩
    · exact .inl z
    · exact .inr ⟨q, z1, z2, ENK_c (fun k => u _ k (by rw [xw_R]; omega) (by rw [xw_R]; omega)) z3⟩
  · rw [xw_I, u 165 5 (by omega) (by omega)]
    rcases c2 with z | ⟨q, z1, z2, z3⟩
    · exact .inl z
    · exact .inr ⟨q, z1, z2, LVK_c (fun b k hb => u _ k (by omega) (by omega)) z3⟩
  · rw [xw_I, u 170 3 (by omega) (by omega)]
    rcases c3 with z | ⟨q, z1, z2, z3⟩
    · exact .inl z
    · exact .inr ⟨q, z1, z2, BRK_c (fun k => u _ k (by omega) (by omega)) z3⟩
  · rw [xw_I, u 174 10 (by omega) (by omega)]
    rcases c4 with z | ⟨q, z1, z2, z3⟩
    · exact .inl z
    · exact .inr ⟨q, z1, z2, TRK_c2 (u _ _ (by omega) (by omega)) (u _ _ (by omega) (by omega)) (fun k => u _ _ (by omega) (by omega)) z3⟩
/-- what the terrain's rows rest on -/
def TC (σ : XS) (J : Nat → Nat → Int32) (g : GD) (F : Nat → Int32) (c m : Nat) : Prop :=
  Shp σ ∧ g ∈ gAll ∧ RO g F ∧ gSz g ≤ 10 ∧ EnO σ 157 c m ∧ ENK J (xR σ) (xlen σ) 157 g F ∧ SR g J 16 F ∧ xR σ 174 5 = 157 ∧ xR σ 174 6 = 16 ∧ J 174 7 = nI (gSz g)
/-- the states in their order -/
def TO (J : Nat → Nat → Int32) (g : GD) (F : Nat → Int32) (M : Nat) (o : Nat → Nat) : Prop :=
  M ≤ 1024 ∧ J 174 8 = nI M ∧ (∀ i, i < M → J 175 i = nI (o i) ∧ o i < gSt g ∧ lW g F (o i) = true) ∧ (∀ i j, i < j → j < M → eE g (zR F) (o i) ≤ eE g (zR F) (o j) ∧ o i ≠ o j) ∧ ∀ s, s < gSt g → lW g F s = true → ∃ i, i < M ∧ o i = s
def nxS (s : Nat) (o : Option Nat) : Nat := match o with
  | none => s
  | some i => s ^^^ 2 ^ i
def fE (g : GD) (F : Nat → Int32) (s : Nat) : Nat := fs g F s 288
section TERR
variable {σ : XS} {J J' : Nat → Nat → Int32} {g : GD} {F : Nat → Int32} {c m M : Nat} {o : Nat → Nat}
theorem TC_c (u : ∀ a k, ¬ (176 ≤ a ∧ a ≤ 182) → ¬ (a = 174 ∧ k = 9) → J' a k = J a k) (h : TC σ J g F c m) : TC σ J' g F c m := by
  obtain ⟨hS, hg, ho, h10, hE, hK, hSR, r5, r6, j7⟩ := h
  have hEb := hE.b
  exact ⟨hS, hg, ho, h10, hE, ENK_c (fun k => by rw [hE.2.1]; exact u _ k (by omega) (by omega)) hK, SR_m hg (fun k _ _ => u _ k (by omega) (by omega)) (fun k _ => u _ k (by omega) (by omega)) (fun k _ => u _ k (by omega) (by omega)) (fun k _ => rfl) hSR, r5, r6, by rw [u _ _ (by omega) (by omega)]; exact j7⟩
theorem TO_c (u : ∀ a k, ¬ (176 ≤ a ∧ a ≤ 182) → ¬ (a = 174 ∧ k = 9) → J' a k = J a k) (h : TO J g F M o) : TO J' g F M o := by
  obtain ⟨h1, h2, h3, h4⟩ := h
  exact ⟨h1, by rw [u _ _ (by omega) (by omega)]; exact h2, fun i hi => by rw [u _ _ (by omega) (by omega)]; exact h3 i hi, h4⟩
theorem TC.st (h : TC σ J g F c m) : gSt g ≤ 1024 := Nat.le_trans (gSt_b h.2.1).2 (Nat.pow_le_pow_right (by decide) h.2.2.2.1)
theorem tEn_ok (h : TC σ J g F c m) {s : Nat} (hs : s < 2 ^ gSz g) : f_X9_energyOf (xw σ J) 174 (nI s) = some (iI (eE g (zR F) s)) := by
  obtain ⟨hS, hg, ho, h10, hE, hK, hSR, r5, r6, j7⟩ := h
  unfold f_X9_energyOf
  have e5 : xgN σ 174 9 5 = some 157 := by rw [xgN_ok (sT174 hS), r5]
  have h1 := of_ok (σ := σ) (I := J) hS hE hK hs
  simp (disch := first | assumption | omega) only [Option.bind_some, Option.map_some, xw_gR, xw_gN, xw_al, xw_ck, xw_uI, xw_ur, xup_at, xur_at, if_true, if_false, reduceIte, and_true, true_and, and_false, false_and, not_true_eq_false, not_false_eq_true, Nat.reduceEqDiff, eq_self, Nat.reduceAdd, Nat.reduceMul, kC1, kG1, kP1, kR1_0, kR1_1, kR1_2, kR1_3, kR1_4, kR1_5, kR1_6, kR1_7, kR1_8, kR1_9, kR1_10, kR1_11, kR1_12, kR1_13, kC2, kG2, kP2, kR2_0, kR2_1, kC3, kG3, kP3, kR3_0, kR3_1, kR3_2, kR3_3, kL4, kA4, kS4, kL5, kA5, kS5, kL6, kA6, kS6, kL7, kA7, kS7, kC8, kG8, kP8, kR8_0, kR8_1, kL9, kA9, kS9, kL10, kA10, kS10, kC11, kG11, kP11, kR11_0, kR11_1, kR11_2, kR11_3, kL12, kA12, kS12, kL13, kA13, kS13, kL14, kA14, kS14, kL15, kA15, kS15, kC16, kG16, kP16, kR16_0, kR16_1, kL17, kA17, kS17, kL18, kA18, kS18, kC19, kG19, kP19, kR19_0, kL20, kL141, kL146, kA146, kS146, kL151, kA151, kS151, kL156, kA156, kS156, kC157, kG157, kP157, kR157_0, kR157_1, kL158, kA158, kS158, kL159, kA159, kS159, kC161, kG161, kP161, kR161_0, kR161_1, kL162, kA162, kS162, kL163, kA163, kS163, kC165, kG165, kP165, kR165_0, kR165_1, kR165_2, kR165_3, kL166, kA166, kS166, kL167, kA167, kS167, kL168, kA168, kS168, kL169, kA169, kS169, kC170, kG170, kP170, kR170_0, kR170_1, kR170_2, kL171, kA171, kS171, kL172, kA172, kS172, kL173, kA173, kS173, kC174, kG174, kP174, kR174_0, kR174_1, kR174_2, kR174_3, kR174_4, kL175, kA175, kS175, kL176, kA176, kS176, kL177, kA177, kS177, kL178, kA178, kS178, kL179, kC180, kG180, kP180, kL181, kL182, kA182, kS182, kC183, kG183, kP183, kR183_1, kR183_3, kR183_5, kR183_6, kR183_7, kR183_8, kR183_9, kR183_21, kR183_26, kR183_27, kR183_30, kR183_31, kR183_33, kR183_34, kR183_36, kR183_37, kR183_38, kR183_39, kR183_40, kR183_41, kR183_42, kR183_43, kR183_44, kL184, kA184, kS184, kL185, kA185, kS185, kL186, kA186, kS186, kL187, kA187, kS187, kL188, kA188, kS188, kL189, kL190, kL191, kA191, kS191, kL192, kA192, kS192, kL193, kA193, kS193, kL194, kA194, kS194, kL195, kA195, kS195, kL196, kA196, kS196, kL197, kA197, kS197, kL198, kA198, kS198, kL199, kA199, kS199, kL200, kA200, kS200, kL201, kL202, kA202, kS202, kL203, kA203, kS203, kL204, kA204, kS204, kL205, kL206, kA206, kS206, e5, h1]
theorem tCan_ok (h : TC σ J g F c m) {i : Nat} (hi : i < gSz g) : f_X9_canTurn (xw σ J) 174 (nI i) = some (if F (48 + i) = 0 then 1 else 0) := by
  obtain ⟨hS, hg, ho, h10, hE, hK, hSR, r5, r6, j7⟩ := h
  obtain ⟨-, -, ⟨p, u, e3, e4, e5, e6⟩, -, -⟩ := hSR
  have hp : p < 65536 := Nat.lt_pow_two_of_testBit (n := 16) p (fun j hj => by rw [e5]; simp; omega)
  have hpb : (p.testBit i = false) = (F (48 + i) = 0) := by rw [e5]; simp [hi]
  unfold f_X9_canTurn
  have e7 : xgN σ 174 9 6 = some 16 := by rw [xgN_ok (sT174 hS), r6]
  have h1 := isPinned_ok (σ := σ) (I := J) hS suA_16 e3 hp (show i < 32 by omega)
  simp (disch := first | assumption | omega) only [Option.bind_some, Option.map_some, xw_gR, xw_gN, xw_al, xw_ck, xw_uI, xw_ur, xup_at, xur_at, if_true, if_false, reduceIte, and_true, true_and, and_false, false_and, not_true_eq_false, not_false_eq_true, Nat.reduceEqDiff, eq_self, Nat.reduceAdd, Nat.reduceMul, kC1, kG1, kP1, kR1_0, kR1_1, kR1_2, kR1_3, kR1_4, kR1_5, kR1_6, kR1_7, kR1_8, kR1_9, kR1_10, kR1_11, kR1_12, kR1_13, kC2, kG2, kP2, kR2_0, kR2_1, kC3, kG3, kP3, kR3_0, kR3_1, kR3_2, kR3_3, kL4, kA4, kS4, kL5, kA5, kS5, kL6, kA6, kS6, kL7, kA7, kS7, kC8, kG8, kP8, kR8_0, kR8_1, kL9, kA9, kS9, kL10, kA10, kS10, kC11, kG11, kP11, kR11_0, kR11_1, kR11_2, kR11_3, kL12, kA12, kS12, kL13, kA13, kS13, kL14, kA14, kS14, kL15, kA15, kS15, kC16, kG16, kP16, kR16_0, kR16_1, kL17, kA17, kS17, kL18, kA18, kS18, kC19, kG19, kP19, kR19_0, kL20, kL141, kL146, kA146, kS146, kL151, kA151, kS151, kL156, kA156, kS156, kC157, kG157, kP157, kR157_0, kR157_1, kL158, kA158, kS158, kL159, kA159, kS159, kC161, kG161, kP161, kR161_0, kR161_1, kL162, kA162, kS162, kL163, kA163, kS163, kC165, kG165, kP165, kR165_0, kR165_1, kR165_2, kR165_3, kL166, kA166, kS166, kL167, kA167, kS167, kL168, kA168, kS168, kL169, kA169, kS169, kC170, kG170, kP170, kR170_0, kR170_1, kR170_2, kL171, kA171, kS171, kL172, kA172, kS172, kL173, kA173, kS173, kC174, kG174, kP174, kR174_0, kR174_1, kR174_2, kR174_3, kR174_4, kL175, kA175, kS175, kL176, kA176, kS176, kL177, kA177, kS177, kL178, kA178, kS178, kL179, kC180, kG180, kP180, kL181, kL182, kA182, kS182, kC183, kG183, kP183, kR183_1, kR183_3, kR183_5, kR183_6, kR183_7, kR183_8, kR183_9, kR183_21, kR183_26, kR183_27, kR183_30, kR183_31, kR183_33, kR183_34, kR183_36, kR183_37, kR183_38, kR183_39, kR183_40, kR183_41, kR183_42, kR183_43, kR183_44, kL184, kA184, kS184, kL185, kA185, kS185, kL186, kA186, kS186, kL187, kA187, kS187, kL188, kA188, kS188, kL189, kL190, kL191, kA191, kS191, kL192, kA192, kS192, kL193, kA193, kS193, kL194, kA194, kS194, kL195, kA195, kS195, kL196, kA196, kS196, kL197, kA197, kS197, kL198, kA198, kS198, kL199, kA199, kS199, kL200, kA200, kS200, kL201, kL202, kA202, kS202, kL203, kA203, kS203, kL204, kA204, kS204, kL205, kL206, kA206, kS206, e7, h1, bI_0, hpb]
  by_cases q : F (48 + i) = 0
  · rw [if_pos q, if_pos q]
  · rw [if_neg q, if_neg q]
theorem isSt_ok {s : Nat} (hs : s < 1024) : f_X9_isState (nI s) = some 1 := by
  unfold f_X9_isState
  rw [if_neg (nI_pos (by omega)), if_neg (by rw [show (1024 : Int32) = nI 1024 from rfl, nn_le (by omega) (by omega)]; omega)]
theorem nxE (hg : g ∈ gAll) {s k : Nat} (hk : k ≤ gSz g) : eE g (zR F) (nxS s (sp g F s k).2) = eE g (zR F) s + (sp g F s k).1 := by
  cases h : (sp g F s k).2 with
  | none =>
    have := (sp_some g F s k).1 h
    show eE g (zR F) s = _
    omega
  | some i =>
    have q := (sp_some g F s k).2 i h
    show eE g (zR F) (s ^^^ 2 ^ i) = _
    rw [eE_flip hg _ (by omega), q.2.2.1]
theorem nxB {s k : Nat} (hs : s < gSt g) (hk : k ≤ gSz g) : nxS s (sp g F s k).2 < gSt g := by
  cases h : (sp g F s k).2 with
  | none => exact hs
  | some i =>
    have q := (sp_some g F s k).2 i h
    exact gSt_flip hs (by omega)
theorem steepFrom_ok (h : TC σ J g F c m) {s : Nat} (hs : s < gSt g) : f_X9_steepestFrom (xw σ J) 174 (nI s) = some (nI (nxS s (sp g F s (gSz g)).2)) := by
  have h' := h
  obtain ⟨hS, hg, ho, h10, hE, hK, hSR, r5, r6, j7⟩ := h'
  unfold f_X9_steepestFrom
  refine xforE (fun i : Nat => (nI (nxS s (sp g F s i).2), nI i)) (gSz g) rfl (fun i hi => ?_) ?_
  · simp only [f_X9_steepestFrom_b4]
    have hf := (gSt_pos (gSt_flip hs hi)).2
    have hn := (gSt_pos (nxB (F := F) hs (show i ≤ gSz g by omega))).2
    have hlb := sp_lb hg ho s i (by omega)
    have hle := (sp_le g F s i).1
    have hcb := sp_b hg ho s hi
    have hb := eE_b hg ho s
    have hq : (iI (eE g (zR F) s + (sp g F s i).1) ≤ iI (eE g (zR F) s + eC g (zR F) s i)) = ((sp g F s i).1 ≤ eC g (zR F) s i) := by
      rw [iI_le (by omega) (by omega) (by omega) (by omega)]; apply propext; omega
    have e1 := tEn_ok h hf
    have e2 := tEn_ok h hn
    rw [eE_flip hg _ hi] at e1
    rw [nxE hg (by omega)] at e2
    have e3 := tCan_ok h hi
    simp (disch := first | assumption | omega) only [Option.bind_some, Option.map_some, xw_gR, xw_gN, xw_al, xw_ck, xw_uI, xw_ur, xup_at, xur_at, if_true, if_false, reduceIte, and_true, true_and, and_false, false_and, not_true_eq_false, not_false_eq_true, Nat.reduceEqDiff, eq_self, Nat.reduceAdd, Nat.reduceMul, kC1, kG1, kP1, kR1_0, kR1_1, kR1_2, kR1_3, kR1_4, kR1_5, kR1_6, kR1_7, kR1_8, kR1_9, kR1_10, kR1_11, kR1_12, kR1_13, kC2, kG2, kP2, kR2_0, kR2_1, kC3, kG3, kP3, kR3_0, kR3_1, kR3_2, kR3_3, kL4, kA4, kS4, kL5, kA5, kS5, kL6, kA6, kS6, kL7, kA7, kS7, kC8, kG8, kP8, kR8_0, kR8_1, kL9, kA9, kS9, kL10, kA10, kS10, kC11, kG11, kP11, kR11_0, kR11_1, kR11_2, kR11_3, kL12, kA12, kS12, kL13, kA13, kS13, kL14, kA14, kS14, kL15, kA15, kS15, kC16, kG16, kP16, kR16_0, kR16_1, kL17, kA17, kS17, kL18, kA18, kS18, kC19, kG19, kP19, kR19_0, kL20, kL141, kL146, kA146, kS146, kL151, kA151, kS151, kL156, kA156, kS156, kC157, kG157, kP157, kR157_0, kR157_1, kL158, kA158, kS158, kL159, kA159, kS159, kC161, kG161, kP161, kR161_0, kR161_1, kL162, kA162, kS162, kL163, kA163, kS163, kC165, kG165, kP165, kR165_0, kR165_1, kR165_2, kR165_3, kL166, kA166, kS166, kL167, kA167, kS167, kL168, kA168, kS168, kL169, kA169, kS169, kC170, kG170, kP170, kR170_0, kR170_1, kR170_2, kL171, kA171, kS171, kL172, kA172, kS172, kL173, kA173, kS173, kC174, kG174, kP174, kR174_0, kR174_1, kR174_2, kR174_3, kR174_4, kL175, kA175, kS175, kL176, kA176, kS176, kL177, kA177, kS177, kL178, kA178, kS178, kL179, kC180, kG180, kP180, kL181, kL182, kA182, kS182, kC183, kG183, kP183, kR183_1, kR183_3, kR183_5, kR183_6, kR183_7, kR183_8, kR183_9, kR183_21, kR183_26, kR183_27, kR183_30, kR183_31, kR183_33, kR183_34, kR183_36, kR183_37, kR183_38, kR183_39, kR183_40, kR183_41, kR183_42, kR183_43, kR183_44, kL184, kA184, kS184, kL185, kA185, kS185, kL186, kA186, kS186, kL187, kA187, kS187, kL188, kA188, kS188, kL189, kL190, kL191, kA191, kS191, kL192, kA192, kS192, kL193, kA193, kS193, kL194, kA194, kS194, kL195, kA195, kS195, kL196, kA196, kS196, kL197, kA197, kS197, kL198, kA198, kS198, kL199, kA199, kS199, kL200, kA200, kS200, kL201, kL202, kA202, kS202, kL203, kA203, kS203, kL204, kA204, kS204, kL205, kL206, kA206, kS206, j7, nn_le, show ¬ (gSz g ≤ i) by omega, e3, nn_one, nn_xor, e1, e2, hq]
    rw [← nI_succ]
    show _ = some (Sum.inl (nI (nxS s (sp g F s (i + 1)).2), nI (i + 1)))
    rw [sp]
    by_cases h0 : F (48 + i) = 0
    · rw [if_pos h0, if_neg (by decide)]
      by_cases h1 : (sp g F s i).1 ≤ eC g (zR F) s i
      · rw [if_pos h1, if_neg (fun z => by omega)]
      · rw [if_neg h1, if_pos ⟨h0, by omega⟩]
        rfl
    · rw [if_neg h0, if_pos rfl, if_neg (fun z => h0 z.1)]
  · simp only [f_X9_steepestFrom_b4]
    simp (disch := first | assumption | omega) only [Option.bind_some, Option.map_some, xw_gR, xw_gN, xw_al, xw_ck, xw_uI, xw_ur, xup_at, xur_at, if_true, if_false, reduceIte, and_true, true_and, and_false, false_and, not_true_eq_false, not_false_eq_true, Nat.reduceEqDiff, eq_self, Nat.reduceAdd, Nat.reduceMul, kC1, kG1, kP1, kR1_0, kR1_1, kR1_2, kR1_3, kR1_4, kR1_5, kR1_6, kR1_7, kR1_8, kR1_9, kR1_10, kR1_11, kR1_12, kR1_13, kC2, kG2, kP2, kR2_0, kR2_1, kC3, kG3, kP3, kR3_0, kR3_1, kR3_2, kR3_3, kL4, kA4, kS4, kL5, kA5, kS5, kL6, kA6, kS6, kL7, kA7, kS7, kC8, kG8, kP8, kR8_0, kR8_1, kL9, kA9, kS9, kL10, kA10, kS10, kC11, kG11, kP11, kR11_0, kR11_1, kR11_2, kR11_3, kL12, kA12, kS12, kL13, kA13, kS13, kL14, kA14, kS14, kL15, kA15, kS15, kC16, kG16, kP16, kR16_0, kR16_1, kL17, kA17, kS17, kL18, kA18, kS18, kC19, kG19, kP19, kR19_0, kL20, kL141, kL146, kA146, kS146, kL151, kA151, kS151, kL156, kA156, kS156, kC157, kG157, kP157, kR157_0, kR157_1, kL158, kA158, kS158, kL159, kA159, kS159, kC161, kG161, kP161, kR161_0, kR161_1, kL162, kA162, kS162, kL163, kA163, kS163, kC165, kG165, kP165, kR165_0, kR165_1, kR165_2, kR165_3, kL166, kA166, kS166, kL167, kA167, kS167, kL168, kA168, kS168, kL169, kA169, kS169, kC170, kG170, kP170, kR170_0, kR170_1, kR170_2, kL171, kA171, kS171, kL172, kA172, kS172, kL173, kA173, kS173, kC174, kG174, kP174, kR174_0, kR174_1, kR174_2, kR174_3, kR174_4, kL175, kA175, kS175, kL176, kA176, kS176, kL177, kA177, kS177, kL178, kA178, kS178, kL179, kC180, kG180, kP180, kL181, kL182, kA182, kS182, kC183, kG183, kP183, kR183_1, kR183_3, kR183_5, kR183_6, kR183_7, kR183_8, kR183_9, kR183_21, kR183_26, kR183_27, kR183_30, kR183_31, kR183_33, kR183_34, kR183_36, kR183_37, kR183_38, kR183_39, kR183_40, kR183_41, kR183_42, kR183_43, kR183_44, kL184, kA184, kS184, kL185, kA185, kS185, kL186, kA186, kS186, kL187, kA187, kS187, kL188, kA188, kS188, kL189, kL190, kL191, kA191, kS191, kL192, kA192, kS192, kL193, kA193, kS193, kL194, kA194, kS194, kL195, kA195, kS195, kL196, kA196, kS196, kL197, kA197, kS197, kL198, kA198, kS198, kL199, kA199, kS199, kL200, kA200, kS200, kL201, kL202, kA202, kS202, kL203, kA203, kS203, kL204, kA204, kS204, kL205, kL206, kA206, kS206, j7, nn_le, Nat.le_refl]
theorem fs_shift (s : Nat) : ∀ j, fs g F (fs g F s 1) j = fs g F s (j + 1)
  | 0 => rfl
  | j + 1 => by rw [fs, fs_shift s j]; rfl
theorem fs_stay {s M : Nat} (h : (sp g F (fs g F s M) (gSz g)).2 = none) : ∀ k, fs g F s (M + k) = fs g F s M
  | 0 => rfl
  | k + 1 => by
    rw [show M + (k + 1) = (M + k) + 1 by omega, fs, fs_stay h k, h]
theorem fE_M (hg : g ∈ gAll) (ho : RO g F) {s M : Nat} (hM : M ≤ 288) (h : (sp g F (fs g F s M) (gSz g)).2 = none) : fE g F s = fs g F s M := by
  unfold fE
  rw [show 288 = M + (288 - M) by omega]
  exact fs_stay h _
theorem fE_nx (hg : g ∈ gAll) (ho : RO g F) (s : Nat) : fE g F (nxS s (sp g F s (gSz g)).2) = fE g F s := by
  obtain ⟨M, hM, h1, h2⟩ := fs_end (s := s) hg ho
  have e : nxS s (sp g F s (gSz g)).2 = fs g F s 1 := rfl
  rw [e]
  unfold fE
  rw [fs_shift, show 288 + 1 = M + (289 - M) by omega, fs_stay h1, show 288 = M + (288 - M) by omega, fs_stay h1]
theorem fE_no {s : Nat} (h : (sp g F s (gSz g)).2 = none) : fE g F s = s := by
  have := fs_stay (g := g) (F := F) (s := s) (M := 0) h 288
  rw [Nat.zero_add] at this
  exact this
theorem bj66 (hS : Shp σ) {i b q cn e : Nat} (hi : i < 1024) (hq : q < 1024) (hv : J 175 i = nI q) (he : e < 1024) (hb : b < 1024) : f_X9_basinOf_j66 (xw σ J) 174 (nI b) (nI cn) (nI i) (nI e) = some (.inl (nI (cn + (if e = b then 1 else 0)), nI (i + 1), xw σ (xup J 178 q (nI e)))) := by
  unfold f_X9_basinOf_j66
  have e0 : (nI e = nI b) = (e = b) := nn_eq (by omega) (by omega)
  simp (disch := first | assumption | omega) only [Option.bind_some, Option.map_some, xw_gR, xw_gN, xw_al, xw_ck, xw_uI, xw_ur, xup_at, xur_at, if_true, if_false, reduceIte, and_true, true_and, and_false, false_and, not_true_eq_false, not_false_eq_true, Nat.reduceEqDiff, eq_self, Nat.reduceAdd, Nat.reduceMul, kC1, kG1, kP1, kR1_0, kR1_1, kR1_2, kR1_3, kR1_4, kR1_5, kR1_6, kR1_7, kR1_8, kR1_9, kR1_10, kR1_11, kR1_12, kR1_13, kC2, kG2, kP2, kR2_0, kR2_1, kC3, kG3, kP3, kR3_0, kR3_1, kR3_2, kR3_3, kL4, kA4, kS4, kL5, kA5, kS5, kL6, kA6, kS6, kL7, kA7, kS7, kC8, kG8, kP8, kR8_0, kR8_1, kL9, kA9, kS9, kL10, kA10, kS10, kC11, kG11, kP11, kR11_0, kR11_1, kR11_2, kR11_3, kL12, kA12, kS12, kL13, kA13, kS13, kL14, kA14, kS14, kL15, kA15, kS15, kC16, kG16, kP16, kR16_0, kR16_1, kL17, kA17, kS17, kL18, kA18, kS18, kC19, kG19, kP19, kR19_0, kL20, kL141, kL146, kA146, kS146, kL151, kA151, kS151, kL156, kA156, kS156, kC157, kG157, kP157, kR157_0, kR157_1, kL158, kA158, kS158, kL159, kA159, kS159, kC161, kG161, kP161, kR161_0, kR161_1, kL162, kA162, kS162, kL163, kA163, kS163, kC165, kG165, kP165, kR165_0, kR165_1, kR165_2, kR165_3, kL166, kA166, kS166, kL167, kA167, kS167, kL168, kA168, kS168, kL169, kA169, kS169, kC170, kG170, kP170, kR170_0, kR170_1, kR170_2, kL171, kA171, kS171, kL172, kA172, kS172, kL173, kA173, kS173, kC174, kG174, kP174, kR174_0, kR174_1, kR174_2, kR174_3, kR174_4, kL175, kA175, kS175, kL176, kA176, kS176, kL177, kA177, kS177, kL178, kA178, kS178, kL179, kC180, kG180, kP180, kL181, kL182, kA182, kS182, kC183, kG183, kP183, kR183_1, kR183_3, kR183_5, kR183_6, kR183_7, kR183_8, kR183_9, kR183_21, kR183_26, kR183_27, kR183_30, kR183_31, kR183_33, kR183_34, kR183_36, kR183_37, kR183_38, kR183_39, kR183_40, kR183_41, kR183_42, kR183_43, kR183_44, kL184, kA184, kS184, kL185, kA185, kS185, kL186, kA186, kS186, kL187, kA187, kS187, kL188, kA188, kS188, kL189, kL190, kL191, kA191, kS191, kL192, kA192, kS192, kL193, kA193, kS193, kL194, kA194, kS194, kL195, kA195, kS195, kL196, kA196, kS196, kL197, kA197, kS197, kL198, kA198, kS198, kL199, kA199, kS199, kL200, kA200, kS200, kL201, kL202, kA202, kS202, kL203, kA203, kS203, kL204, kA204, kS204, kL205, kL206, kA206, kS206, hv, isSt_ok, one0]
  unfold f_X9_basinOf_j93
  simp only [e0]
  by_cases z : e = b
  · rw [if_pos z, if_pos z, nI_succ, nI_succ]
  · rw [if_neg z, if_neg z, nI_succ]
    congr 3
    show nI cn + nI 0 = _
    rw [nn_add]
theorem basinOf_ok (h : TC σ J g F c m) (hO : TO J g F M o) {b : Nat} (hb : b < gSt g) : ∃ J', f_X9_basinOf (xw σ J) 174 (nI b) = some (nI (fb_ct (fun i => decide (fE g F (o i) = b)) M), xw σ J') ∧ ∀ a k, a ≠ 178 → J' a k = J a k := by
  have hst := h.st
  obtain ⟨hS, hg, hro, h10, -⟩ := id h
  obtain ⟨hM, j8, o1, o2, o3⟩ := id hO
  unfold f_X9_basinOf
  have key := xforI (f := f_X9_basinOf_b4 174 (nI b)) (fun k x => ∃ J' : Nat → Nat → Int32, x = (nI (fb_ct (fun i => decide (fE g F (o i) = b)) k), nI k, xw σ J') ∧ (∀ a q, a ≠ 178 → J' a q = J a q) ∧ ∀ i, i < k → J' 178 (o i) = nI (fE g F (o i))) M (Q := fun r => ∃ J', r = (nI (fb_ct (fun i => decide (fE g F (o i) = b)) M), xw σ J') ∧ ∀ a k, a ≠ 178 → J' a k = J a k) (a0 := ((0 : Int32), (0 : Int32), xw σ J)) ⟨J, rfl, fun _ _ _ => rfl, fun i hi => absurd hi (Nat.not_lt_zero _)⟩ ?_ ?_
  · obtain ⟨r, e, J', rfl, u⟩ := key
    exact ⟨J', e, u⟩
  · rintro k x hk ⟨J', rfl, u, v⟩
    have hT' : TC σ J' g F c m := TC_c (fun a k h1 h2 => u a k (by omega)) h
    obtain ⟨k1, k2, k3⟩ := o1 k hk
    have v8 : J' 174 8 = nI M := by rw [u _ _ (by omega)]; exact j8
    have v5 : J' 175 k = nI (o k) := by rw [u _ _ (by omega)]; exact k1
    have st := steepFrom_ok hT' k2
    have hfe : fE g F (o k) < gSt g := (fs_l (g := g) (F := F) k2 k3 288).1
    have stp : f_X9_basinOf_b4 174 (nI b) (nI (fb_ct (fun i => decide (fE g F (o i) = b)) k), nI k, xw σ J') = f_X9_basinOf_j66 (xw σ J') 174 (nI b) (nI (fb_ct (fun i => decide (fE g F (o i) = b)) k)) (nI k) (nI (fE g F (o k))) := by
      simp only [f_X9_basinOf_b4]
      have q1 : (nI M ≤ nI k) = False := by rw [nn_le (by omega) (by omega)]; exact eq_false (by omega)
      have q2 : ((1024 : Int32) ≤ nI k) = False := by rw [show (1024 : Int32) = nI 1024 from rfl, nn_le (by omega) (by omega)]; exact eq_false (by omega)
      have hk' : k < 1024 := by omega
      simp (disch := first | assumption | omega) only [Option.bind_some, Option.map_some, xw_gR, xw_gN, xw_al, xw_ck, xw_uI, xw_ur, xup_at, xur_at, if_true, if_false, reduceIte, and_true, true_and, and_false, false_and, not_true_eq_false, not_false_eq_true, Nat.reduceEqDiff, eq_self, Nat.reduceAdd, Nat.reduceMul, kC1, kG1, kP1, kR1_0, kR1_1, kR1_2, kR1_3, kR1_4, kR1_5, kR1_6, kR1_7, kR1_8, kR1_9, kR1_10, kR1_11, kR1_12, kR1_13, kC2, kG2, kP2, kR2_0, kR2_1, kC3, kG3, kP3, kR3_0, kR3_1, kR3_2, kR3_3, kL4, kA4, kS4, kL5, kA5, kS5, kL6, kA6, kS6, kL7, kA7, kS7, kC8, kG8, kP8, kR8_0, kR8_1, kL9, kA9, kS9, kL10, kA10, kS10, kC11, kG11, kP11, kR11_0, kR11_1, kR11_2, kR11_3, kL12, kA12, kS12, kL13, kA13, kS13, kL14, kA14, kS14, kL15, kA15, kS15, kC16, kG16, kP16, kR16_0, kR16_1, kL17, kA17, kS17, kL18, kA18, kS18, kC19, kG19, kP19, kR19_0, kL20, kL141, kL146, kA146, kS146, kL151, kA151, kS151, kL156, kA156, kS156, kC157, kG157, kP157, kR157_0, kR157_1, kL158, kA158, kS158, kL159, kA159, kS159, kC161, kG161, kP161, kR161_0, kR161_1, kL162, kA162, kS162, kL163, kA163, kS163, kC165, kG165, kP165, kR165_0, kR165_1, kR165_2, kR165_3, kL166, kA166, kS166, kL167, kA167, kS167, kL168, kA168, kS168, kL169, kA169, kS169, kC170, kG170, kP170, kR170_0, kR170_1, kR170_2, kL171, kA171, kS171, kL172, kA172, kS172, kL173, kA173, kS173, kC174, kG174, kP174, kR174_0, kR174_1, kR174_2, kR174_3, kR174_4, kL175, kA175, kS175, kL176, kA176, kS176, kL177, kA177, kS177, kL178, kA178, kS178, kL179, kC180, kG180, kP180, kL181, kL182, kA182, kS182, kC183, kG183, kP183, kR183_1, kR183_3, kR183_5, kR183_6, kR183_7, kR183_8, kR183_9, kR183_21, kR183_26, kR183_27, kR183_30, kR183_31, kR183_33, kR183_34, kR183_36, kR183_37, kR183_38, kR183_39, kR183_40, kR183_41, kR183_42, kR183_43, kR183_44, kL184, kA184, kS184, kL185, kA185, kS185, kL186, kA186, kS186, kL187, kA187, kS187, kL188, kA188, kS188, kL189, kL190, kL191, kA191, kS191, kL192, kA192, kS192, kL193, kA193, kS193, kL194, kA194, kS194, kL195, kA195, kS195, kL196, kA196, kS196, kL197, kA197, kS197, kL198, kA198, kS198, kL199, kA199, kS199, kL200, kA200, kS200, kL201, kL202, kA202, kS202, kL203, kA203, kS203, kL204, kA204, kS204, kL205, kL206, kA206, kS206, v8, q1, q2, v5, st]
      cases hsp : (sp g F (o k) (gSz g)).2 with
      | none =>
        rw [fE_no hsp]
        rw [if_pos (show nI (nxS (o k) none) = nI (o k) from rfl)]
      | some i =>
        have sq := (sp_some g F (o k) (gSz g)).2 i hsp
        have hnx := nxB (F := F) k2 (Nat.le_refl (gSz g))
        have hnE := nxE (g := g) (F := F) hg (s := o k) (Nat.le_refl (gSz g))
        have hfn := fE_nx hg hro (o k)
        rw [hsp] at hnx hnE hfn
        have hlw : lW g F (nxS (o k) (some i)) = true := by
          show lW g F (o k ^^^ 2 ^ i) = true
          rw [lW_flip sq.1 k3]; exact decide_eq_true sq.2.1
        obtain ⟨i', i1, i2⟩ := o3 _ hnx hlw
        have hlt : i' < k := by
          rcases Nat.lt_trichotomy i' k with z | z | z
          · exact z
          · rw [z] at i2
            rw [← i2] at hnE
            omega
          · have := (o2 k i' z i1).1
            rw [i2] at this
            omega
        have hv := v i' hlt
        rw [i2, hfn] at hv
        have hne : (nI (nxS (o k) (some i)) = nI (o k)) = False := by
          rw [nn_eq (by omega) (by omega)]
          apply eq_false
          intro z
          rw [z] at hnE
          omega
        have hs1 := isSt_ok (show nxS (o k) (some i) < 1024 by omega)
        have hA : xaI (xw σ J') 20 178 (nI (nxS (o k) (some i))) = some (J' 178 (nxS (o k) (some i))) := kA178 hS (by omega)
        simp only [hne, if_false, hs1, Option.bind_some, one0, hA, hv]
    refine ⟨_, stp.trans (bj66 hS (by omega) (by omega) v5 (by omega) (by omega)), xup J' 178 (o k) (nI (fE g F (o k))), ?_, fun a q hq => ?_, fun i hi => ?_⟩
    · congr 2
      rw [fb_ct_succ]
      by_cases z : fE g F (o k) = b
      · simp [z]
      · simp [z]
    · rw [xup_at, if_neg (by omega)]; exact u a q hq
    · rw [xup_at]
      by_cases z : i = k
      · rw [z, if_pos ⟨rfl, rfl⟩]
      · have := (o2 i k (by omega) hk).2
        rw [if_neg (fun w => this w.2)]
        exact v i (by omega)
  · rintro x ⟨J', rfl, u, v⟩
    have v8 : J' 174 8 = nI M := by rw [u _ _ (by omega)]; exact j8
    refine ⟨_, ?_, J', rfl, u⟩
    simp only [f_X9_basinOf_b4]
    simp (disch := first | assumption | omega) only [Option.bind_some, Option.map_some, xw_gR, xw_gN, xw_al, xw_ck, xw_uI, xw_ur, xup_at, xur_at, if_true, if_false, reduceIte, and_true, true_and, and_false, false_and, not_true_eq_false, not_false_eq_true, Nat.reduceEqDiff, eq_self, Nat.reduceAdd, Nat.reduceMul, kC1, kG1, kP1, kR1_0, kR1_1, kR1_2, kR1_3, kR1_4, kR1_5, kR1_6, kR1_7, kR1_8, kR1_9, kR1_10, kR1_11, kR1_12, kR1_13, kC2, kG2, kP2, kR2_0, kR2_1, kC3, kG3, kP3, kR3_0, kR3_1, kR3_2, kR3_3, kL4, kA4, kS4, kL5, kA5, kS5, kL6, kA6, kS6, kL7, kA7, kS7, kC8, kG8, kP8, kR8_0, kR8_1, kL9, kA9, kS9, kL10, kA10, kS10, kC11, kG11, kP11, kR11_0, kR11_1, kR11_2, kR11_3, kL12, kA12, kS12, kL13, kA13, kS13, kL14, kA14, kS14, kL15, kA15, kS15, kC16, kG16, kP16, kR16_0, kR16_1, kL17, kA17, kS17, kL18, kA18, kS18, kC19, kG19, kP19, kR19_0, kL20, kL141, kL146, kA146, kS146, kL151, kA151, kS151, kL156, kA156, kS156, kC157, kG157, kP157, kR157_0, kR157_1, kL158, kA158, kS158, kL159, kA159, kS159, kC161, kG161, kP161, kR161_0, kR161_1, kL162, kA162, kS162, kL163, kA163, kS163, kC165, kG165, kP165, kR165_0, kR165_1, kR165_2, kR165_3, kL166, kA166, kS166, kL167, kA167, kS167, kL168, kA168, kS168, kL169, kA169, kS169, kC170, kG170, kP170, kR170_0, kR170_1, kR170_2, kL171, kA171, kS171, kL172, kA172, kS172, kL173, kA173, kS173, kC174, kG174, kP174, kR174_0, kR174_1, kR174_2, kR174_3, kR174_4, kL175, kA175, kS175, kL176, kA176, kS176, kL177, kA177, kS177, kL178, kA178, kS178, kL179, kC180, kG180, kP180, kL181, kL182, kA182, kS182, kC183, kG183, kP183, kR183_1, kR183_3, kR183_5, kR183_6, kR183_7, kR183_8, kR183_9, kR183_21, kR183_26, kR183_27, kR183_30, kR183_31, kR183_33, kR183_34, kR183_36, kR183_37, kR183_38, kR183_39, kR183_40, kR183_41, kR183_42, kR183_43, kR183_44, kL184, kA184, kS184, kL185, kA185, kS185, kL186, kA186, kS186, kL187, kA187, kS187, kL188, kA188, kS188, kL189, kL190, kL191, kA191, kS191, kL192, kA192, kS192, kL193, kA193, kS193, kL194, kA194, kS194, kL195, kA195, kS195, kL196, kA196, kS196, kL197, kA197, kS197, kL198, kA198, kS198, kL199, kA199, kS199, kL200, kA200, kS200, kL201, kL202, kA202, kS202, kL203, kA203, kS203, kL204, kA204, kS204, kL205, kL206, kA206, kS206, v8, nn_le, Nat.le_refl]
end TERR
theorem ct_perm (p : Nat → Bool) (o : Nat → Nat) (N : Nat) : ∀ M, (∀ i, i < M → o i < N) → (∀ i j, i < j → j < M → o i ≠ o j) → ∀ q : Nat → Bool, (∀ s, s < N → (q s = true ↔ ∃ i, i < M ∧ o i = s)) → fb_ct (fun i => p (o i)) M = fb_ct (fun s => q s && p s) N := by
  intro M
  induction M with
  | zero =>
    intro _ _ q hq
    symm
    apply fb_ct_zero.mpr
    intro s hs
    have : q s = false := by
      cases h : q s with
      | false => rfl
      | true =>
        obtain ⟨i, hi, -⟩ := (hq s hs).mp h
        omega
    rw [this]; rfl
  | succ M ih =>
    intro h1 h2 q hq
    have hoM := h1 M (by omega)
    have := ih (fun i hi => h1 i (by omega)) (fun i j hij hj => h2 i j hij (by omega)) (fun s => if s = o M then false else q s) (fun s hs => by
      by_cases z : s = o M
      · simp only [z, if_true]
        constructor
        · intro w; cases w
        · rintro ⟨i, hi, w⟩
          exact absurd w (h2 i M hi (by omega))
      · simp only [z, if_false]
        rw [hq s hs]
        constructor
        · rintro ⟨i, hi, w⟩
          refine ⟨i, ?_, w⟩
          by_cases e : i = M
          · rw [e] at w; exact absurd w.symm z
          · omega
        · rintro ⟨i, hi, w⟩
          exact ⟨i, by omega, w⟩)
    have qM : q (o M) = true := (hq _ hoM).mpr ⟨M, by omega, rfl⟩
    have up : fb_ct (fun k => if k = o M then false else (q k && p k)) N + (if (q (o M) && p (o M)) = true then 1 else 0) = fb_ct (fun s => q s && p s) N + (if false = true then 1 else 0) := fb_ct_upd (fun s => q s && p s) false hoM
    have cg : fb_ct (fun s => (if s = o M then false else q s) && p s) N = fb_ct (fun k => if k = o M then false else (q k && p k)) N := fb_ct_cong (fun k _ => by
      by_cases z : k = o M
      · simp [z]
      · simp [z])
    rw [fb_ct_succ, this, cg]
    rw [qM, Bool.true_and, if_neg (show ¬ (false = true) by decide)] at up
    exact up
end
section
/-! basin -/
theorem isSmall_ok {σ : XS} {I : Nat → Nat → Int32} {g : GD} (hS : Shp σ) (hG : GRD I g) : f_X11_isSmall (xw σ I) 1 = some (if gSz g ≤ 10 then 1 else 0) := by
  have h16 := (gAll_b g hG.1).2.2.1
  unfold f_X11_isSmall
  have e : ((10 : Int32) < nI (gSz g)) = (10 < gSz g) := nn_lt (a := 10) (by omega) (by omega)
  simp (disch := first | assumption | omega) only [Option.bind_some, Option.map_some, xw_gR, xw_gN, xw_al, xw_ck, xw_uI, xw_ur, xup_at, xur_at, if_true, if_false, reduceIte, and_true, true_and, and_false, false_and, not_true_eq_false, not_false_eq_true, Nat.reduceEqDiff, eq_self, Nat.reduceAdd, Nat.reduceMul, kC1, kG1, kP1, kR1_0, kR1_1, kR1_2, kR1_3, kR1_4, kR1_5, kR1_6, kR1_7, kR1_8, kR1_9, kR1_10, kR1_11, kR1_12, kR1_13, kC2, kG2, kP2, kR2_0, kR2_1, kC3, kG3, kP3, kR3_0, kR3_1, kR3_2, kR3_3, kL4, kA4, kS4, kL5, kA5, kS5, kL6, kA6, kS6, kL7, kA7, kS7, kC8, kG8, kP8, kR8_0, kR8_1, kL9, kA9, kS9, kL10, kA10, kS10, kC11, kG11, kP11, kR11_0, kR11_1, kR11_2, kR11_3, kL12, kA12, kS12, kL13, kA13, kS13, kL14, kA14, kS14, kL15, kA15, kS15, kC16, kG16, kP16, kR16_0, kR16_1, kL17, kA17, kS17, kL18, kA18, kS18, kC19, kG19, kP19, kR19_0, kL20, kL141, kL146, kA146, kS146, kL151, kA151, kS151, kL156, kA156, kS156, kC157, kG157, kP157, kR157_0, kR157_1, kL158, kA158, kS158, kL159, kA159, kS159, kC161, kG161, kP161, kR161_0, kR161_1, kL162, kA162, kS162, kL163, kA163, kS163, kC165, kG165, kP165, kR165_0, kR165_1, kR165_2, kR165_3, kL166, kA166, kS166, kL167, kA167, kS167, kL168, kA168, kS168, kL169, kA169, kS169, kC170, kG170, kP170, kR170_0, kR170_1, kR170_2, kL171, kA171, kS171, kL172, kA172, kS172, kL173, kA173, kS173, kC174, kG174, kP174, kR174_0, kR174_1, kR174_2, kR174_3, kR174_4, kL175, kA175, kS175, kL176, kA176, kS176, kL177, kA177, kS177, kL178, kA178, kS178, kL179, kC180, kG180, kP180, kL181, kL182, kA182, kS182, kC183, kG183, kP183, kR183_1, kR183_3, kR183_5, kR183_6, kR183_7, kR183_8, kR183_9, kR183_21, kR183_26, kR183_27, kR183_30, kR183_31, kR183_33, kR183_34, kR183_36, kR183_37, kR183_38, kR183_39, kR183_40, kR183_41, kR183_42, kR183_43, kR183_44, kL184, kA184, kS184, kL185, kA185, kS185, kL186, kA186, kS186, kL187, kA187, kS187, kL188, kA188, kS188, kL189, kL190, kL191, kA191, kS191, kL192, kA192, kS192, kL193, kA193, kS193, kL194, kA194, kS194, kL195, kA195, kS195, kL196, kA196, kS196, kL197, kA197, kS197, kL198, kA198, kS198, kL199, kA199, kS199, kL200, kA200, kS200, kL201, kL202, kA202, kS202, kL203, kA203, kS203, kL204, kA204, kS204, kL205, kL206, kA206, kS206, hG.2.2.2.2.1, e]
  by_cases h : gSz g ≤ 10
  · rw [if_pos h, if_neg (by omega)]
  · rw [if_neg h, if_pos (by omega)]
theorem terr_ready {n : Nat} {σ : XS} {g : GD} {gT gP : GH} {st : Nat} (hn : n ≤ 512) (H : IV n σ g gT gP st) (h10 : gSz g ≤ 10) : ∃ τ c m M o, f_X11_terrainNow σ 1 = some (174, τ) ∧ IV n τ g gT gP st ∧ TC τ (xI τ) g (xI σ 191) c m ∧ TO (xI τ) g (xI σ 191) M o ∧ xI τ 191 = xI σ 191 := by
  obtain ⟨τ, e1, H1, K1, L1, T1, u1⟩ := terrainNow_ok hn H h10
  have r1 : xI τ 191 = xI σ 191 := by funext k; exact u1 191 k (by omega)
  rw [r1] at K1 T1
  obtain ⟨t1, t2, t3, M, o, t4⟩ := T1 h10
  obtain ⟨c, a, hE, ha, hcn⟩ := H1.en157
  have hN := H1.now
  rw [r1] at hN
  exact ⟨τ, c, 2 ^ a, M, o, e1, H1, ⟨H1.shp, H1.grd.1, hN.2.1, h10, hE, K1, hN.1, t2, t3, t1⟩, t4, r1⟩
theorem small12 {σ : XS} {I : Nat → Nat → Int32} {g : GD} (hS : Shp σ) (hG : GRD I g) : (nI (gSz g) ≤ (10 : Int32)) = (gSz g ≤ 10) := nn_le (b := 10) (by have := (gAll_b g hG.1).2.2.1; omega) (by decide)
theorem op_basin : Op_basin INV := by
  intro n σ hn ⟨g, gT, gP, st, H⟩ x
  have hS := H.shp
  have hG := H.grd
  have hg := hG.1
  have h16 := (gAll_b g hg).2.2.1
  have hSt := (gSt_b hg).1
  have sm := isSmall_ok (σ := σ) (I := xI σ) hS hG
  have l1 := isLawful11_ok (σ := σ) (I := xI σ) hS hG H.now.1 x
  have l2 := isLawful12_ok (σ := σ) (I := xI σ) hS hG H.now.2.1 x
  have s2 := sites_ok (σ := σ) (I := xI σ) hS hG
  by_cases h10 : gSz g ≤ 10
  · rw [if_pos h10] at sm
    by_cases hb : isB g (xI σ 191) x = true
    · rw [hb, if_pos rfl] at l1
      obtain ⟨b, hb1, rfl, hbl⟩ := isB_t hb
      obtain ⟨τ, c, m, M, o, e1, H1, hT, hO, r1⟩ := terr_ready (by omega) H h10
      obtain ⟨F, hF⟩ : ∃ F, F = xI σ 191 := ⟨_, rfl⟩
      rw [← hF] at hT hO hbl r1
      obtain ⟨J', e3, u3⟩ := basinOf_ok hT hO hb1
      have H3 : IV n (xw τ J') g gT gP st := H1.terr (fun a k h1 h2 => u3 a k (by omega))
      obtain ⟨Q, e4, H4, K4, u4⟩ := knows_ok H3
      have e4 : f_X12_knows (xw τ J') 183 = some (xw τ Q) := e4
      have H4 : IV n (xw τ Q) g gT gP st := H4
      have r3 : J' 191 = F := by rw [← r1]; funext k; exact u3 191 k (by omega)
      have r4 : Q 191 = F := by rw [← r3]; funext k; exact u4 191 k (by omega) (by omega)
      rw [r4] at K4
      have hS3 : Shp τ := H1.shp
      have hG4 : GRD Q g := H4.grd
      have ho := hT.2.2.1
      have l3 := isLawful12_ok (σ := τ) (I := J') hS3 (show GRD J' g from H3.grd) (show RO g (J' 191) from H3.now.2.1) (nI b)
      rw [r3, isB_n hg hb1, hbl, if_pos rfl] at l3
      obtain ⟨hM, j8, o1, o2, o3⟩ := id hO
      have cnt : fb_ct (fun i => decide (fE g F (o i) = b)) M = fb_ct (fun s => lW g F s && decide (fE g F s = b)) (gSt g) := ct_perm (fun s => decide (fE g F s = b)) o (gSt g) M (fun i hi => (o1 i hi).2.1) (fun i j hij hj => (o2 i j hij hj).2) (lW g F) (fun s hs => ⟨fun hl => o3 s hs hl, fun ⟨i, hi, z⟩ => by rw [← z]; exact (o1 i hi).2.2⟩)
      rw [cnt] at e3
      refine ⟨nI (fb_ct (fun s => lW g F s && decide (fE g F s = b)) (gSt g)), xw τ J', xw τ Q, ?_, ?_, INV_i H4.nop⟩
      · unfold f_X11_basin
        show ((xck σ 1 11).bind fun _ => (f_X11_isSmall (xw σ (xI σ)) 1).bind _) = _
        rw [xck_ok (sT1 hS), Option.bind_some, sm, Option.bind_some, if_neg (by decide), Option.bind_some]
        show ((f_X11_isLawful (xw σ (xI σ)) 1 (nI b)).bind _) = _
        rw [l1, Option.bind_some, if_neg (by decide), Option.bind_some, e1, Option.bind_some]
        dsimp only
        rw [xnz_ok (by decide), Option.bind_some]
        unfold f_X11_basin_j22
        rw [xck_ok (sT174 hS3), Option.bind_some]
        show ((f_X9_basinOf (xw τ (xI τ)) 174 (nI b)).bind _) = _
        rw [e3, Option.bind_some]
      · unfold f_X12_basin
        have sm2 := small12 hS hG
        simp (disch := first | assumption | omega) only [Option.bind_some, Option.map_some, xw_gR, xw_gN, xw_al, xw_ck, xw_uI, xw_ur, xup_at, xur_at, if_true, if_false, reduceIte, and_true, true_and, and_false, false_and, not_true_eq_false, not_false_eq_true, Nat.reduceEqDiff, eq_self, Nat.reduceAdd, Nat.reduceMul, kC1, kG1, kP1, kR1_0, kR1_1, kR1_2, kR1_3, kR1_4, kR1_5, kR1_6, kR1_7, kR1_8, kR1_9, kR1_10, kR1_11, kR1_12, kR1_13, kC2, kG2, kP2, kR2_0, kR2_1, kC3, kG3, kP3, kR3_0, kR3_1, kR3_2, kR3_3, kL4, kA4, kS4, kL5, kA5, kS5, kL6, kA6, kS6, kL7, kA7, kS7, kC8, kG8, kP8, kR8_0, kR8_1, kL9, kA9, kS9, kL10, kA10, kS10, kC11, kG11, kP11, kR11_0, kR11_1, kR11_2, kR11_3, kL12, kA12, kS12, kL13, kA13, kS13, kL14, kA14, kS14, kL15, kA15, kS15, kC16, kG16, kP16, kR16_0, kR16_1, kL17, kA17, kS17, kL18, kA18, kS18, kC19, kG19, kP19, kR19_0, kL20, kL141, kL146, kA146, kS146, kL151, kA151, kS151, kL156, kA156, kS156, kC157, kG157, kP157, kR157_0, kR157_1, kL158, kA158, kS158, kL159, kA159, kS159, kC161, kG161, kP161, kR161_0, kR161_1, kL162, kA162, kS162, kL163, kA163, kS163, kC165, kG165, kP165, kR165_0, kR165_1, kR165_2, kR165_3, kL166, kA166, kS166, kL167, kA167, kS167, kL168, kA168, kS168, kL169, kA169, kS169, kC170, kG170, kP170, kR170_0, kR170_1, kR170_2, kL171, kA171, kS171, kL172, kA172, kS172, kL173, kA173, kS173, kC174, kG174, kP174, kR174_0, kR174_1, kR174_2, kR174_3, kR174_4, kL175, kA175, kS175, kL176, kA176, kS176, kL177, kA177, kS177, kL178, kA178, kS178, kL179, kC180, kG180, kP180, kL181, kL182, kA182, kS182, kC183, kG183, kP183, kR183_1, kR183_3, kR183_5, kR183_6, kR183_7, kR183_8, kR183_9, kR183_21, kR183_26, kR183_27, kR183_30, kR183_31, kR183_33, kR183_34, kR183_36, kR183_37, kR183_38, kR183_39, kR183_40, kR183_41, kR183_42, kR183_43, kR183_44, kL184, kA184, kS184, kL185, kA185, kS185, kL186, kA186, kS186, kL187, kA187, kS187, kL188, kA188, kS188, kL189, kL190, kL191, kA191, kS191, kL192, kA192, kS192, kL193, kA193, kS193, kL194, kA194, kS194, kL195, kA195, kS195, kL196, kA196, kS196, kL197, kA197, kS197, kL198, kA198, kS198, kL199, kA199, kS199, kL200, kA200, kS200, kL201, kL202, kA202, kS202, kL203, kA203, kS203, kL204, kA204, kS204, kL205, kL206, kA206, kS206, l3, one0, sites_ok hS3 (show GRD J' g from H3.grd), sm2, h10, e4]
        refine xforE (fun s : Nat => (nI (fb_ct (fun s => lW g F s && decide (fE g F s = b)) s), nI s)) (gSt g) rfl (fun s hs => ?_) ?_
        · simp only [f_X12_basin_b29]
          have hv := K4.1 s hs
          rw [fb_ct_succ]
          cases hl : lW g F s with
          | false =>
            rw [hl, if_neg (by decide)] at hv
            have q : ((100000 : Int32) ≤ nI 100000) = True := eq_true (by decide)
            simp (disch := first | assumption | omega) only [Option.bind_some, Option.map_some, xw_gR, xw_gN, xw_al, xw_ck, xw_uI, xw_ur, xup_at, xur_at, if_true, if_false, reduceIte, and_true, true_and, and_false, false_and, not_true_eq_false, not_false_eq_true, Nat.reduceEqDiff, eq_self, Nat.reduceAdd, Nat.reduceMul, kC1, kG1, kP1, kR1_0, kR1_1, kR1_2, kR1_3, kR1_4, kR1_5, kR1_6, kR1_7, kR1_8, kR1_9, kR1_10, kR1_11, kR1_12, kR1_13, kC2, kG2, kP2, kR2_0, kR2_1, kC3, kG3, kP3, kR3_0, kR3_1, kR3_2, kR3_3, kL4, kA4, kS4, kL5, kA5, kS5, kL6, kA6, kS6, kL7, kA7, kS7, kC8, kG8, kP8, kR8_0, kR8_1, kL9, kA9, kS9, kL10, kA10, kS10, kC11, kG11, kP11, kR11_0, kR11_1, kR11_2, kR11_3, kL12, kA12, kS12, kL13, kA13, kS13, kL14, kA14, kS14, kL15, kA15, kS15, kC16, kG16, kP16, kR16_0, kR16_1, kL17, kA17, kS17, kL18, kA18, kS18, kC19, kG19, kP19, kR19_0, kL20, kL141, kL146, kA146, kS146, kL151, kA151, kS151, kL156, kA156, kS156, kC157, kG157, kP157, kR157_0, kR157_1, kL158, kA158, kS158, kL159, kA159, kS159, kC161, kG161, kP161, kR161_0, kR161_1, kL162, kA162, kS162, kL163, kA163, kS163, kC165, kG165, kP165, kR165_0, kR165_1, kR165_2, kR165_3, kL166, kA166, kS166, kL167, kA167, kS167, kL168, kA168, kS168, kL169, kA169, kS169, kC170, kG170, kP170, kR170_0, kR170_1, kR170_2, kL171, kA171, kS171, kL172, kA172, kS172, kL173, kA173, kS173, kC174, kG174, kP174, kR174_0, kR174_1, kR174_2, kR174_3, kR174_4, kL175, kA175, kS175, kL176, kA176, kS176, kL177, kA177, kS177, kL178, kA178, kS178, kL179, kC180, kG180, kP180, kL181, kL182, kA182, kS182, kC183, kG183, kP183, kR183_1, kR183_3, kR183_5, kR183_6, kR183_7, kR183_8, kR183_9, kR183_21, kR183_26, kR183_27, kR183_30, kR183_31, kR183_33, kR183_34, kR183_36, kR183_37, kR183_38, kR183_39, kR183_40, kR183_41, kR183_42, kR183_43, kR183_44, kL184, kA184, kS184, kL185, kA185, kS185, kL186, kA186, kS186, kL187, kA187, kS187, kL188, kA188, kS188, kL189, kL190, kL191, kA191, kS191, kL192, kA192, kS192, kL193, kA193, kS193, kL194, kA194, kS194, kL195, kA195, kS195, kL196, kA196, kS196, kL197, kA197, kS197, kL198, kA198, kS198, kL199, kA199, kS199, kL200, kA200, kS200, kL201, kL202, kA202, kS202, kL203, kA203, kS203, kL204, kA204, kS204, kL205, kL206, kA206, kS206, states12_ok hS3 hG4, nn_le, show ¬ (gSt g ≤ s) by omega, hv, q]
            rw [nI_succ]
            rfl
          | true =>
            rw [hl, if_pos rfl] at hv
            have hb2 := eE_b hg ho s
            have q : ((100000 : Int32) ≤ iI (eE g (zR F) s)) = False := by
              rw [show (100000 : Int32) = iI 100000 from rfl, iI_le (by omega) (by omega) (by omega) (by omega)]; exact eq_false (by omega)
            obtain ⟨M', hM', m1, m2⟩ := fs_end (s := s) hg ho
            have fe := fallEnd_ok (σ := τ) (J := Q) hS3 hG4 ho K4 hs hl m1 m2
            rw [← fE_M hg ho hM' m1] at fe
            have hfe : fE g F s < gSt g := (fs_l (g := g) (F := F) hs hl 288).1
            have q2 : (nI (fE g F s) = nI b) = (fE g F s = b) := nn_eq (by omega) (by omega)
            simp (disch := first | assumption | omega) only [Option.bind_some, Option.map_some, xw_gR, xw_gN, xw_al, xw_ck, xw_uI, xw_ur, xup_at, xur_at, if_true, if_false, reduceIte, and_true, true_and, and_false, false_and, not_true_eq_false, not_false_eq_true, Nat.reduceEqDiff, eq_self, Nat.reduceAdd, Nat.reduceMul, kC1, kG1, kP1, kR1_0, kR1_1, kR1_2, kR1_3, kR1_4, kR1_5, kR1_6, kR1_7, kR1_8, kR1_9, kR1_10, kR1_11, kR1_12, kR1_13, kC2, kG2, kP2, kR2_0, kR2_1, kC3, kG3, kP3, kR3_0, kR3_1, kR3_2, kR3_3, kL4, kA4, kS4, kL5, kA5, kS5, kL6, kA6, kS6, kL7, kA7, kS7, kC8, kG8, kP8, kR8_0, kR8_1, kL9, kA9, kS9, kL10, kA10, kS10, kC11, kG11, kP11, kR11_0, kR11_1, kR11_2, kR11_3, kL12, kA12, kS12, kL13, kA13, kS13, kL14, kA14, kS14, kL15, kA15, kS15, kC16, kG16, kP16, kR16_0, kR16_1, kL17, kA17, kS17, kL18, kA18, kS18, kC19, kG19, kP19, kR19_0, kL20, kL141, kL146, kA146, kS146, kL151, kA151, kS151, kL156, kA156, kS156, kC157, kG157, kP157, kR157_0, kR157_1, kL158, kA158, kS158, kL159, kA159, kS159, kC161, kG161, kP161, kR161_0, kR161_1, kL162, kA162, kS162, kL163, kA163, kS163, kC165, kG165, kP165, kR165_0, kR165_1, kR165_2, kR165_3, kL166, kA166, kS166, kL167, kA167, kS167, kL168, kA168, kS168, kL169, kA169, kS169, kC170, kG170, kP170, kR170_0, kR170_1, kR170_2, kL171, kA171, kS171, kL172, kA172, kS172, kL173, kA173, kS173, kC174, kG174, kP174, kR174_0, kR174_1, kR174_2, kR174_3, kR174_4, kL175, kA175, kS175, kL176, kA176, kS176, kL177, kA177, kS177, kL178, kA178, kS178, kL179, kC180, kG180, kP180, kL181, kL182, kA182, kS182, kC183, kG183, kP183, kR183_1, kR183_3, kR183_5, kR183_6, kR183_7, kR183_8, kR183_9, kR183_21, kR183_26, kR183_27, kR183_30, kR183_31, kR183_33, kR183_34, kR183_36, kR183_37, kR183_38, kR183_39, kR183_40, kR183_41, kR183_42, kR183_43, kR183_44, kL184, kA184, kS184, kL185, kA185, kS185, kL186, kA186, kS186, kL187, kA187, kS187, kL188, kA188, kS188, kL189, kL190, kL191, kA191, kS191, kL192, kA192, kS192, kL193, kA193, kS193, kL194, kA194, kS194, kL195, kA195, kS195, kL196, kA196, kS196, kL197, kA197, kS197, kL198, kA198, kS198, kL199, kA199, kS199, kL200, kA200, kS200, kL201, kL202, kA202, kS202, kL203, kA203, kS203, kL204, kA204, kS204, kL205, kL206, kA206, kS206, states12_ok hS3 hG4, nn_le, show ¬ (gSt g ≤ s) by omega, hv, q, fe, q2]
            rw [← nI_succ, ← nI_succ]
            by_cases z : fE g F s = b
            · simp [z]
            · simp [z]
        · simp only [f_X12_basin_b29]
          simp (disch := first | assumption | omega) only [Option.bind_some, Option.map_some, xw_gR, xw_gN, xw_al, xw_ck, xw_uI, xw_ur, xup_at, xur_at, if_true, if_false, reduceIte, and_true, true_and, and_false, false_and, not_true_eq_false, not_false_eq_true, Nat.reduceEqDiff, eq_self, Nat.reduceAdd, Nat.reduceMul, kC1, kG1, kP1, kR1_0, kR1_1, kR1_2, kR1_3, kR1_4, kR1_5, kR1_6, kR1_7, kR1_8, kR1_9, kR1_10, kR1_11, kR1_12, kR1_13, kC2, kG2, kP2, kR2_0, kR2_1, kC3, kG3, kP3, kR3_0, kR3_1, kR3_2, kR3_3, kL4, kA4, kS4, kL5, kA5, kS5, kL6, kA6, kS6, kL7, kA7, kS7, kC8, kG8, kP8, kR8_0, kR8_1, kL9, kA9, kS9, kL10, kA10, kS10, kC11, kG11, kP11, kR11_0, kR11_1, kR11_2, kR11_3, kL12, kA12, kS12, kL13, kA13, kS13, kL14, kA14, kS14, kL15, kA15, kS15, kC16, kG16, kP16, kR16_0, kR16_1, kL17, kA17, kS17, kL18, kA18, kS18, kC19, kG19, kP19, kR19_0, kL20, kL141, kL146, kA146, kS146, kL151, kA151, kS151, kL156, kA156, kS156, kC157, kG157, kP157, kR157_0, kR157_1, kL158, kA158, kS158, kL159, kA159, kS159, kC161, kG161, kP161, kR161_0, kR161_1, kL162, kA162, kS162, kL163, kA163, kS163, kC165, kG165, kP165, kR165_0, kR165_1, kR165_2, kR165_3, kL166, kA166, kS166, kL167, kA167, kS167, kL168, kA168, kS168, kL169, kA169, kS169, kC170, kG170, kP170, kR170_0, kR170_1, kR170_2, kL171, kA171, kS171, kL172, kA172, kS172, kL173, kA173, kS173, kC174, kG174, kP174, kR174_0, kR174_1, kR174_2, kR174_3, kR174_4, kL175, kA175, kS175, kL176, kA176, kS176, kL177, kA177, kS177, kL178, kA178, kS178, kL179, kC180, kG180, kP180, kL181, kL182, kA182, kS182, kC183, kG183, kP183, kR183_1, kR183_3, kR183_5, kR183_6, kR183_7, kR183_8, kR183_9, kR183_21, kR183_26, kR183_27, kR183_30, kR183_31, kR183_33, kR183_34, kR183_36, kR183_37, kR183_38, kR183_39, kR183_40, kR183_41, kR183_42, kR183_43, kR183_44, kL184, kA184, kS184, kL185, kA185, kS185, kL186, kA186, kS186, kL187, kA187, kS187, kL188, kA188, kS188, kL189, kL190, kL191, kA191, kS191, kL192, kA192, kS192, kL193, kA193, kS193, kL194, kA194, kS194, kL195, kA195, kS195, kL196, kA196, kS196, kL197, kA197, kS197, kL198, kA198, kS198, kL199, kA199, kS199, kL200, kA200, kS200, kL201, kL202, kA202, kS202, kL203, kA203, kS203, kL204, kA204, kS204, kL205, kL206, kA206, kS206, states12_ok hS3 hG4, nn_le, Nat.le_refl]
    · have hb' : isB g (xI σ 191) x = false := Bool.not_eq_true _ ▸ hb
      rw [hb', if_neg (by decide)] at l1 l2
      refine ⟨-100000, σ, σ, ?_, ?_, g, gT, gP, st, H.nop⟩
      · show f_X11_basin (xw σ (xI σ)) 1 x = _
        unfold f_X11_basin
        simp (disch := first | assumption | omega) only [Option.bind_some, Option.map_some, xw_gR, xw_gN, xw_al, xw_ck, xw_uI, xw_ur, xup_at, xur_at, if_true, if_false, reduceIte, and_true, true_and, and_false, false_and, not_true_eq_false, not_false_eq_true, Nat.reduceEqDiff, eq_self, Nat.reduceAdd, Nat.reduceMul, kC1, kG1, kP1, kR1_0, kR1_1, kR1_2, kR1_3, kR1_4, kR1_5, kR1_6, kR1_7, kR1_8, kR1_9, kR1_10, kR1_11, kR1_12, kR1_13, kC2, kG2, kP2, kR2_0, kR2_1, kC3, kG3, kP3, kR3_0, kR3_1, kR3_2, kR3_3, kL4, kA4, kS4, kL5, kA5, kS5, kL6, kA6, kS6, kL7, kA7, kS7, kC8, kG8, kP8, kR8_0, kR8_1, kL9, kA9, kS9, kL10, kA10, kS10, kC11, kG11, kP11, kR11_0, kR11_1, kR11_2, kR11_3, kL12, kA12, kS12, kL13, kA13, kS13, kL14, kA14, kS14, kL15, kA15, kS15, kC16, kG16, kP16, kR16_0, kR16_1, kL17, kA17, kS17, kL18, kA18, kS18, kC19, kG19, kP19, kR19_0, kL20, kL141, kL146, kA146, kS146, kL151, kA151, kS151, kL156, kA156, kS156, kC157, kG157, kP157, kR157_0, kR157_1, kL158, kA158, kS158, kL159, kA159, kS159, kC161, kG161, kP161, kR161_0, kR161_1, kL162, kA162, kS162, kL163, kA163, kS163, kC165, kG165, kP165, kR165_0, kR165_1, kR165_2, kR165_3, kL166, kA166, kS166, kL167, kA167, kS167, kL168, kA168, kS168, kL169, kA169, kS169, kC170, kG170, kP170, kR170_0, kR170_1, kR170_2, kL171, kA171, kS171, kL172, kA172, kS172, kL173, kA173, kS173, kC174, kG174, kP174, kR174_0, kR174_1, kR174_2, kR174_3, kR174_4, kL175, kA175, kS175, kL176, kA176, kS176, kL177, kA177, kS177, kL178, kA178, kS178, kL179, kC180, kG180, kP180, kL181, kL182, kA182, kS182, kC183, kG183, kP183, kR183_1, kR183_3, kR183_5, kR183_6, kR183_7, kR183_8, kR183_9, kR183_21, kR183_26, kR183_27, kR183_30, kR183_31, kR183_33, kR183_34, kR183_36, kR183_37, kR183_38, kR183_39, kR183_40, kR183_41, kR183_42, kR183_43, kR183_44, kL184, kA184, kS184, kL185, kA185, kS185, kL186, kA186, kS186, kL187, kA187, kS187, kL188, kA188, kS188, kL189, kL190, kL191, kA191, kS191, kL192, kA192, kS192, kL193, kA193, kS193, kL194, kA194, kS194, kL195, kA195, kS195, kL196, kA196, kS196, kL197, kA197, kS197, kL198, kA198, kS198, kL199, kA199, kS199, kL200, kA200, kS200, kL201, kL202, kA202, kS202, kL203, kA203, kS203, kL204, kA204, kS204, kL205, kL206, kA206, kS206, sm, one0, l1]
        rfl
      · show f_X12_basin (xw σ (xI σ)) 183 x = _
        unfold f_X12_basin
        simp (disch := first | assumption | omega) only [Option.bind_some, Option.map_some, xw_gR, xw_gN, xw_al, xw_ck, xw_uI, xw_ur, xup_at, xur_at, if_true, if_false, reduceIte, and_true, true_and, and_false, false_and, not_true_eq_false, not_false_eq_true, Nat.reduceEqDiff, eq_self, Nat.reduceAdd, Nat.reduceMul, kC1, kG1, kP1, kR1_0, kR1_1, kR1_2, kR1_3, kR1_4, kR1_5, kR1_6, kR1_7, kR1_8, kR1_9, kR1_10, kR1_11, kR1_12, kR1_13, kC2, kG2, kP2, kR2_0, kR2_1, kC3, kG3, kP3, kR3_0, kR3_1, kR3_2, kR3_3, kL4, kA4, kS4, kL5, kA5, kS5, kL6, kA6, kS6, kL7, kA7, kS7, kC8, kG8, kP8, kR8_0, kR8_1, kL9, kA9, kS9, kL10, kA10, kS10, kC11, kG11, kP11, kR11_0, kR11_1, kR11_2, kR11_3, kL12, kA12, kS12, kL13, kA13, kS13, kL14, kA14, kS14, kL15, kA15, kS15, kC16, kG16, kP16, kR16_0, kR16_1, kL17, kA17, kS17, kL18, kA18, kS18, kC19, kG19, kP19, kR19_0, kL20, kL141, kL146, kA146, kS146, kL151, kA151, kS151, kL156, kA156, kS156, kC157, kG157, kP157, kR157_0, kR157_1, kL158, kA158, kS158, kL159, kA159, kS159, kC161, kG161, kP161, kR161_0, kR161_1, kL162, kA162, kS162, kL163, kA163, kS163, kC165, kG165, kP165, kR165_0, kR165_1, kR165_2, kR165_3, kL166, kA166, kS166, kL167, kA167, kS167, kL168, kA168, kS168, kL169, kA169, kS169, kC170, kG170, kP170, kR170_0, kR170_1, kR170_2, kL171, kA171, kS171, kL172, kA172, kS172, kL173, kA173, kS173, kC174, kG174, kP174, kR174_0, kR174_1, kR174_2, kR174_3, kR174_4, kL175, kA175, kS175, kL176, kA176, kS176, kL177, kA177, kS177, kL178, kA178, kS178, kL179, kC180, kG180, kP180, kL181, kL182, kA182, kS182, kC183, kG183, kP183, kR183_1, kR183_3, kR183_5, kR183_6, kR183_7, kR183_8, kR183_9, kR183_21, kR183_26, kR183_27, kR183_30, kR183_31, kR183_33, kR183_34, kR183_36, kR183_37, kR183_38, kR183_39, kR183_40, kR183_41, kR183_42, kR183_43, kR183_44, kL184, kA184, kS184, kL185, kA185, kS185, kL186, kA186, kS186, kL187, kA187, kS187, kL188, kA188, kS188, kL189, kL190, kL191, kA191, kS191, kL192, kA192, kS192, kL193, kA193, kS193, kL194, kA194, kS194, kL195, kA195, kS195, kL196, kA196, kS196, kL197, kA197, kS197, kL198, kA198, kS198, kL199, kA199, kS199, kL200, kA200, kS200, kL201, kL202, kA202, kS202, kL203, kA203, kS203, kL204, kA204, kS204, kL205, kL206, kA206, kS206, l2]
        rfl
  · rw [if_neg h10] at sm
    refine ⟨-100000, σ, σ, ?_, ?_, g, gT, gP, st, H.nop⟩
    · show f_X11_basin (xw σ (xI σ)) 1 x = _
      unfold f_X11_basin
      simp (disch := first | assumption | omega) only [Option.bind_some, Option.map_some, xw_gR, xw_gN, xw_al, xw_ck, xw_uI, xw_ur, xup_at, xur_at, if_true, if_false, reduceIte, and_true, true_and, and_false, false_and, not_true_eq_false, not_false_eq_true, Nat.reduceEqDiff, eq_self, Nat.reduceAdd, Nat.reduceMul, kC1, kG1, kP1, kR1_0, kR1_1, kR1_2, kR1_3, kR1_4, kR1_5, kR1_6, kR1_7, kR1_8, kR1_9, kR1_10, kR1_11, kR1_12, kR1_13, kC2, kG2, kP2, kR2_0, kR2_1, kC3, kG3, kP3, kR3_0, kR3_1, kR3_2, kR3_3, kL4, kA4, kS4, kL5, kA5, kS5, kL6, kA6, kS6, kL7, kA7, kS7, kC8, kG8, kP8, kR8_0, kR8_1, kL9, kA9, kS9, kL10, kA10, kS10, kC11, kG11, kP11, kR11_0, kR11_1, kR11_2, kR11_3, kL12, kA12, kS12, kL13, kA13, kS13, kL14, kA14, kS14, kL15, kA15, kS15, kC16, kG16, kP16, kR16_0, kR16_1, kL17, kA17, kS17, kL18, kA18, kS18, kC19, kG19, kP19, kR19_0, kL20, kL141, kL146, kA146, kS146, kL151, kA151, kS151, kL156, kA156, kS156, kC157, kG157, kP157, kR157_0, kR157_1, kL158, kA158, kS158, kL159, kA159, kS159, kC161, kG161, kP161, kR161_0, kR161_1, kL162, kA162, kS162, kL163, kA163, kS163, kC165, kG165, kP165, kR165_0, kR165_1, kR165_2, kR165_3, kL166, kA166, kS166, kL167, kA167, kS167, kL168, kA168, kS168, kL169, kA169, kS169, kC170, kG170, kP170, kR170_0, kR170_1, kR170_2, kL171, kA171, kS171, kL172, kA172, kS172, kL173, kA173, kS173, kC174, kG174, kP174, kR174_0, kR174_1, kR174_2, kR174_3, kR174_4, kL175, kA175, kS175, kL176, kA176, kS176, kL177, kA177, kS177, kL178, kA178, kS178, kL179, kC180, kG180, kP180, kL181, kL182, kA182, kS182, kC183, kG183, kP183, kR183_1, kR183_3, kR183_5, kR183_6, kR183_7, kR183_8, kR183_9, kR183_21, kR183_26, kR183_27, kR183_30, kR183_31, kR183_33, kR183_34, kR183_36, kR183_37, kR183_38, kR183_39, kR183_40, kR183_41, kR183_42, kR183_43, kR183_44, kL184, kA184, kS184, kL185, kA185, kS185, kL186, kA186, kS186, kL187, kA187, kS187, kL188, kA188, kS188, kL189, kL190, kL191, kA191, kS191, kL192, kA192, kS192, kL193, kA193, kS193, kL194, kA194, kS194, kL195, kA195, kS195, kL196, kA196, kS196, kL197, kA197, kS197, kL198, kA198, kS198, kL199, kA199, kS199, kL200, kA200, kS200, kL201, kL202, kA202, kS202, kL203, kA203, kS203, kL204, kA204, kS204, kL205, kL206, kA206, kS206, sm]
      rfl
    · show f_X12_basin (xw σ (xI σ)) 183 x = _
      unfold f_X12_basin
      have sm2 := small12 hS hG
      simp (disch := first | assumption | omega) only [Option.bind_some, Option.map_some, xw_gR, xw_gN, xw_al, xw_ck, xw_uI, xw_ur, xup_at, xur_at, if_true, if_false, reduceIte, and_true, true_and, and_false, false_and, not_true_eq_false, not_false_eq_true, Nat.reduceEqDiff, eq_self, Nat.reduceAdd, Nat.reduceMul, kC1, kG1, kP1, kR1_0, kR1_1, kR1_2, kR1_3, kR1_4, kR1_5, kR1_6, kR1_7, kR1_8, kR1_9, kR1_10, kR1_11, kR1_12, kR1_13, kC2, kG2, kP2, kR2_0, kR2_1, kC3, kG3, kP3, kR3_0, kR3_1, kR3_2, kR3_3, kL4, kA4, kS4, kL5, kA5, kS5, kL6, kA6, kS6, kL7, kA7, kS7, kC8, kG8, kP8, kR8_0, kR8_1, kL9, kA9, kS9, kL10, kA10, kS10, kC11, kG11, kP11, kR11_0, kR11_1, kR11_2, kR11_3, kL12, kA12, kS12, kL13, kA13, kS13, kL14, kA14, kS14, kL15, kA15, kS15, kC16, kG16, kP16, kR16_0, kR16_1, kL17, kA17, kS17, kL18, kA18, kS18, kC19, kG19, kP19, kR19_0, kL20, kL141, kL146, kA146, kS146, kL151, kA151, kS151, kL156, kA156, kS156, kC157, kG157, kP157, kR157_0, kR157_1, kL158, kA158, kS158, kL159, kA159, kS159, kC161, kG161, kP161, kR161_0, kR161_1, kL162, kA162, kS162, kL163, kA163, kS163, kC165, kG165, kP165, kR165_0, kR165_1, kR165_2, kR165_3, kL166, kA166, kS166, kL167, kA167, kS167, kL168, kA168, kS168, kL169, kA169, kS169, kC170, kG170, kP170, kR170_0, kR170_1, kR170_2, kL171, kA171, kS171, kL172, kA172, kS172, kL173, kA173, kS173, kC174, kG174, kP174, kR174_0, kR174_1, kR174_2, kR174_3, kR174_4, kL175, kA175, kS175, kL176, kA176, kS176, kL177, kA177, kS177, kL178, kA178, kS178, kL179, kC180, kG180, kP180, kL181, kL182, kA182, kS182, kC183, kG183, kP183, kR183_1, kR183_3, kR183_5, kR183_6, kR183_7, kR183_8, kR183_9, kR183_21, kR183_26, kR183_27, kR183_30, kR183_31, kR183_33, kR183_34, kR183_36, kR183_37, kR183_38, kR183_39, kR183_40, kR183_41, kR183_42, kR183_43, kR183_44, kL184, kA184, kS184, kL185, kA185, kS185, kL186, kA186, kS186, kL187, kA187, kS187, kL188, kA188, kS188, kL189, kL190, kL191, kA191, kS191, kL192, kA192, kS192, kL193, kA193, kS193, kL194, kA194, kS194, kL195, kA195, kS195, kL196, kA196, kS196, kL197, kA197, kS197, kL198, kA198, kS198, kL199, kA199, kS199, kL200, kA200, kS200, kL201, kL202, kA202, kS202, kL203, kA203, kS203, kL204, kA204, kS204, kL205, kL206, kA206, kS206, l2, s2, sm2, h10]
      by_cases hb : isB g (xI σ 191) x = true
      · rw [hb, if_pos rfl, if_neg (by decide)]; rfl
      · rw [if_neg hb, if_pos rfl]; rfl
end
section
/-! connected states; a forest of pointers -/
def cn (S : Nat → Nat → Prop) (s t : Nat) : Prop := ∀ P : Nat → Prop, P s → (∀ a b, P a → S a b → P b) → P t
section CONN
variable {S S' : Nat → Nat → Prop} {s t u : Nat}
theorem cn_r (S : Nat → Nat → Prop) (s : Nat) : cn S s s := fun _ h _ => h
theorem cn_s (h : cn S s t) (h2 : S t u) : cn S s u := fun P p q => q t u (h P p q) h2
theorem cn_t (h : cn S s t) (h2 : cn S t u) : cn S s u := fun P p q => h2 P (h P p q) q
theorem cn_y (hy : ∀ a b, S a b → S b a) (h : cn S s t) : cn S t s := h (fun x => cn S x s) (cn_r S s) (fun a b p q => cn_t (cn_s (cn_r S b) (hy a b q)) p)
theorem cn_m (hm : ∀ a b, S a b → S' a b) (h : cn S s t) : cn S' s t := fun P p q => h P p (fun a b pa sab => q a b pa (hm a b sab))
end CONN
def aj (g : GD) (F : Nat → Int32) (a b : Nat) : Prop := ∃ i, i < gSz g ∧ F (48 + i) = 0 ∧ b = a ^^^ 2 ^ i
theorem xor2 (a i : Nat) : a ^^^ 2 ^ i ^^^ 2 ^ i = a := by rw [Nat.xor_assoc, Nat.xor_self, Nat.xor_zero]
theorem aj_y {g : GD} {F : Nat → Int32} {a b : Nat} (h : aj g F a b) : aj g F b a := by
  obtain ⟨i, h1, h2, rfl⟩ := h
  exact ⟨i, h1, h2, (xor2 a i).symm⟩
def lwS (g : GD) (F : Nat → Int32) (a : Nat) : Prop := a < gSt g ∧ lW g F a = true
theorem cn_al {g : GD} {F : Nat → Int32} {t : Nat} (ht : lwS g F t) : ∀ j, j ≤ gSz g → ∀ s, lwS g F s → (∀ i, j ≤ i → s.testBit i = t.testBit i) → cn (fun a b => lwS g F a ∧ lwS g F b ∧ aj g F a b) s t := by
  intro j
  induction j with
  | zero =>
    intro _ s hs h
    have : s = t := Nat.eq_of_testBit_eq (fun i => h i (Nat.zero_le _))
    rw [this]; exact cn_r _ _
  | succ j ih =>
    intro hj s hs h
    by_cases hb : s.testBit j = t.testBit j
    · refine ih (by omega) s hs (fun i hi => ?_)
      by_cases z : i = j
      · rw [z]; exact hb
      · exact h i (by omega)
    · have hp : F (48 + j) = 0 := by
        apply Classical.byContradiction
        intro hne
        exact hb ((lW_iff.mp hs.2 j (by omega) hne).trans (lW_iff.mp ht.2 j (by omega) hne).symm)
      have hs' := gSt_flip hs.1 (show j < gSz g by omega)
      have hl' : lW g F (s ^^^ 2 ^ j) = true := by rw [lW_flip (by omega) hs.2]; exact decide_eq_true hp
      refine cn_t (cn_s (cn_r _ _) ⟨hs, ⟨hs', hl'⟩, j, by omega, hp, rfl⟩) (ih (by omega) _ ⟨hs', hl'⟩ (fun i hi => ?_))
      rw [fb_bit_flip]
      by_cases z : i = j
      · subst z
        cases h1 : s.testBit i <;> cases h2 : t.testBit i <;> simp_all
      · simp [z]; exact h i (by omega)
theorem cn_all {g : GD} {F : Nat → Int32} {s t : Nat} (hs : lwS g F s) (ht : lwS g F t) : cn (fun a b => lwS g F a ∧ lwS g F b ∧ aj g F a b) s t := by
  refine cn_al ht (gSz g) (Nat.le_refl _) s hs (fun i hi => ?_)
  have e : ∀ x, x < 2 ^ gSz g → x.testBit i = false := fun x hx => Nat.testBit_lt_two_pow (Nat.lt_of_lt_of_le hx (Nat.pow_le_pow_right (by decide) hi))
  rw [e s (gSt_pos hs.1).2, e t (gSt_pos ht.1).2]
/-- pointers that lead to roots -/
def UF (w : Nat → Bool) (T r ρ : Nat → Nat) (R : Nat) : Prop := ∀ x, w x = true → x < 1024 ∧ w (T x) = true ∧ r (T x) = r x ∧ (T x = x ∨ ρ x < ρ (T x)) ∧ (T x = x → r x = x) ∧ ρ x ≤ R ∧ w (r x) = true ∧ T (r x) = r x
def rc (w : Nat → Bool) (r : Nat → Nat) : Nat := fb_ct (fun x => w x && decide (r x = x)) 1024
def TW (J : Nat → Nat → Int32) (w : Nat → Bool) (T : Nat → Nat) : Prop := ∀ x, x < 1024 → J 177 x = if w x then nI (T x) else -1
def UFH (J : Nat → Nat → Int32) (w : Nat → Bool) (r : Nat → Nat) (N : Nat) : Prop := ∃ T ρ R, TW J w T ∧ UF w T r ρ R ∧ R + rc w r = N ∧ J 174 9 = nI (rc w r)
theorem UF_half {w : Nat → Bool} {T r ρ : Nat → Nat} {R y : Nat} (h : UF w T r ρ R) (hy : w y = true) (hne : T y ≠ y) : UF w (fun z => if z = y then T (T y) else T z) r ρ R ∧ ρ y < ρ (T (T y)) := by
  obtain ⟨y1, y2, y3, y4, y5, y6, y7, y8⟩ := h y hy
  obtain ⟨t1, t2, t3, t4, t5, t6, t7, t8⟩ := h (T y) y2
  have hlt : ρ y < ρ (T (T y)) := by
    rcases y4 with z | z
    · exact absurd z hne
    · rcases t4 with q | q
      · rw [q]; exact z
      · omega
  refine ⟨fun x hw => ?_, hlt⟩
  obtain ⟨x1, x2, x3, x4, x5, x6, x7, x8⟩ := h x hw
  have hr : ¬ (r x = y) := fun z => hne (by rw [z] at x8; exact x8)
  have e8 : (if r x = y then T (T y) else T (r x)) = r x := by rw [if_neg hr]; exact x8
  by_cases hxy : x = y
  · subst hxy
    have e : (if x = x then T (T x) else T x) = T (T x) := if_pos rfl
    show x < 1024 ∧ w (if x = x then T (T x) else T x) = true ∧ r (if x = x then T (T x) else T x) = r x ∧ ((if x = x then T (T x) else T x) = x ∨ ρ x < ρ (if x = x then T (T x) else T x)) ∧ ((if x = x then T (T x) else T x) = x → r x = x) ∧ ρ x ≤ R ∧ w (r x) = true ∧ (if r x = x then T (T x) else T (r x)) = r x
    rw [e]
    refine ⟨x1, t2, t3.trans y3, .inr hlt, fun z => ?_, x6, x7, e8⟩
    rw [z] at hlt; exact absurd hlt (Nat.lt_irrefl _)
  · have e : (if x = y then T (T y) else T x) = T x := if_neg hxy
    show x < 1024 ∧ w (if x = y then T (T y) else T x) = true ∧ r (if x = y then T (T y) else T x) = r x ∧ ((if x = y then T (T y) else T x) = x ∨ ρ x < ρ (if x = y then T (T y) else T x)) ∧ ((if x = y then T (T y) else T x) = x → r x = x) ∧ ρ x ≤ R ∧ w (r x) = true ∧ (if r x = y then T (T y) else T (r x)) = r x
    rw [e]
    exact ⟨x1, x2, x3, x4, x5, x6, x7, e8⟩
theorem rc_pos {w : Nat → Bool} {T r ρ : Nat → Nat} {R x : Nat} (h : UF w T r ρ R) (hw : w x = true) : 0 < rc w r := by
  obtain ⟨x1, x2, x3, x4, x5, x6, x7, x8⟩ := h x hw
  obtain ⟨q1, q2, q3, q4, q5, -⟩ := h _ x7
  refine fb_ct_pos.mpr ⟨r x, q1, ?_⟩
  rw [x7, q5 x8]; simp
theorem rc_joinN {w : Nat → Bool} {T r ρ : Nat → Nat} {R a b n : Nat} (h : UF w T r ρ R) (ha : w a = true) (hb : w b = true) (hab : r a ≠ r b) (hn : r a < n) : fb_ct (fun x => w x && decide ((if r x = r a then r b else r x) = x)) n + 1 = fb_ct (fun x => w x && decide (r x = x)) n := by
  obtain ⟨a1, a2, a3, a4, a5, a6, a7, a8⟩ := h a ha
  obtain ⟨b1, b2, b3, b4, b5, b6, b7, b8⟩ := h b hb
  obtain ⟨p1, p2, p3, p4, p5, p6, p7, p8⟩ := h _ a7
  obtain ⟨q1, q2, q3, q4, q5, q6, q7, q8⟩ := h _ b7
  have up : fb_ct (fun k => if k = r a then false else (w k && decide (r k = k))) n + (if (w (r a) && decide (r (r a) = r a)) = true then 1 else 0) = fb_ct (fun x => w x && decide (r x = x)) n + (if false = true then 1 else 0) := fb_ct_upd (fun x => w x && decide (r x = x)) false hn
  have cg : fb_ct (fun x => w x && decide ((if r x = r a then r b else r x) = x)) n = fb_ct (fun k => if k = r a then false else (w k && decide (r k = k))) n := fb_ct_cong (fun k hk => by
    cases hw : w k with
    | false => simp
    | true =>
      rw [Bool.true_and, Bool.true_and]
      by_cases z : k = r a
      · rw [if_pos z, z, if_pos (p5 a8)]
        exact decide_eq_false (fun y => hab y.symm)
      · rw [if_neg z]
        by_cases y : r k = r a
        · rw [if_pos y, decide_eq_false (show ¬ r k = k from fun v => z (v.symm.trans y))]
          refine decide_eq_false (fun v => hab ?_)
          rw [← v, q5 b8] at y
          exact y.symm
        · rw [if_neg y])
  rw [a7, decide_eq_true (p5 a8), if_neg (show ¬ (false = true) by decide), if_pos (show (true && true) = true by decide), Nat.add_zero] at up
  rw [cg]
  exact up
theorem rc_join {w : Nat → Bool} {T r ρ : Nat → Nat} {R a b : Nat} (h : UF w T r ρ R) (ha : w a = true) (hb : w b = true) (hab : r a ≠ r b) : rc w (fun x => if r x = r a then r b else r x) + 1 = rc w r := rc_joinN h ha hb hab (h _ (h a ha).2.2.2.2.2.2.1).1
theorem UF_join {w : Nat → Bool} {T r ρ : Nat → Nat} {R a b : Nat} (h : UF w T r ρ R) (ha : w a = true) (hb : w b = true) (hab : r a ≠ r b) : UF w (fun z => if z = r a then r b else T z) (fun x => if r x = r a then r b else r x) (fun z => if z = r b then max (ρ (r a)) (ρ (r b)) + 1 else ρ z) (R + 1) := by
  obtain ⟨a1, a2, a3, a4, a5, a6, a7, a8⟩ := h a ha
  obtain ⟨b1, b2, b3, b4, b5, b6, b7, b8⟩ := h b hb
  obtain ⟨p1, p2, p3, p4, p5, p6, p7, p8⟩ := h _ a7
  obtain ⟨q1, q2, q3, q4, q5, q6, q7, q8⟩ := h _ b7
  have hba : ¬ r b = r a := fun z => hab z.symm
  intro x hw
  obtain ⟨x1, x2, x3, x4, x5, x6, x7, x8⟩ := h x hw
  have last : w (if r x = r a then r b else r x) = true ∧ (if (if r x = r a then r b else r x) = r a then r b else T (if r x = r a then r b else r x)) = (if r x = r a then r b else r x) := by
    by_cases y : r x = r a
    · rw [if_pos y, if_neg hba]; exact ⟨b7, b8⟩
    · rw [if_neg y, if_neg y]; exact ⟨x7, x8⟩
  have rk : (if x = r b then max (ρ (r a)) (ρ (r b)) + 1 else ρ x) ≤ R + 1 := by
    split <;> omega
  by_cases z : x = r a
  · have e : (if x = r a then r b else T x) = r b := if_pos z
    have e2 : (if r x = r a then r b else r x) = r b := by rw [z, p5 a8, if_pos rfl]
    have e3 : (if r (r b) = r a then r b else r (r b)) = r b := by rw [q5 b8, if_neg hba]
    have e4 : (if x = r b then max (ρ (r a)) (ρ (r b)) + 1 else ρ x) = ρ (r a) := by rw [z, if_neg hab]
    have e5 : (if r b = r b then max (ρ (r a)) (ρ (r b)) + 1 else ρ (r b)) = max (ρ (r a)) (ρ (r b)) + 1 := if_pos rfl
    refine ⟨x1, ?_, ?_, .inr ?_, fun y => ?_, rk, last⟩
    · show w (if x = r a then r b else T x) = true
      rw [e]; exact b7
    · show (if r (if x = r a then r b else T x) = r a then r b else r (if x = r a then r b else T x)) = (if r x = r a then r b else r x)
      rw [e, e2, e3]
    · show (if x = r b then max (ρ (r a)) (ρ (r b)) + 1 else ρ x) < (if (if x = r a then r b else T x) = r b then max (ρ (r a)) (ρ (r b)) + 1 else ρ (if x = r a then r b else T x))
      rw [e, e4, e5]; omega
    · have y' : (if x = r a then r b else T x) = x := y
      rw [e, z] at y'
      exact absurd y' hba
  · have e : (if x = r a then r b else T x) = T x := if_neg z
    refine ⟨x1, ?_, ?_, ?_, fun y => ?_, rk, last⟩
    · show w (if x = r a then r b else T x) = true
      rw [e]; exact x2
    · show (if r (if x = r a then r b else T x) = r a then r b else r (if x = r a then r b else T x)) = (if r x = r a then r b else r x)
      rw [e, x3]
    · show (if x = r a then r b else T x) = x ∨ (if x = r b then max (ρ (r a)) (ρ (r b)) + 1 else ρ x) < (if (if x = r a then r b else T x) = r b then max (ρ (r a)) (ρ (r b)) + 1 else ρ (if x = r a then r b else T x))
      rw [e]
      rcases x4 with v | v
      · exact .inl v
      · right
        have nb : ¬ x = r b := fun y => by
          rw [y, b8] at v
          exact absurd v (Nat.lt_irrefl _)
        rw [if_neg nb]
        split
        · next y => rw [y] at v; omega
        · exact v
    · have y' : (if x = r a then r b else T x) = x := y
      rw [e] at y'
      have v := x5 y'
      show (if r x = r a then r b else r x) = x
      rw [if_neg (fun q => z (v.symm.trans q))]; exact v
section FOREST
variable {σ : XS} {J : Nat → Nat → Int32} {w : Nat → Bool} {r : Nat → Nat} {N : Nat}
theorem wet_ok (hS : Shp σ) {T : Nat → Nat} (hJ : TW J w T) (hT : ∀ x, w x = true → T x < 1024) {x : Nat} (h1 : x < 1024) : f_X9_isWet (xw σ J) 174 (nI x) = some (if w x then 1 else 0) := by
  unfold f_X9_isWet
  have hv := hJ x h1
  cases hw : w x with
  | false =>
    rw [hw, if_neg (by decide)] at hv
    simp (disch := first | assumption | omega) only [Option.bind_some, Option.map_some, xw_gR, xw_gN, xw_al, xw_ck, xw_uI, xw_ur, xup_at, xur_at, if_true, if_false, reduceIte, and_true, true_and, and_false, false_and, not_true_eq_false, not_false_eq_true, Nat.reduceEqDiff, eq_self, Nat.reduceAdd, Nat.reduceMul, kC1, kG1, kP1, kR1_0, kR1_1, kR1_2, kR1_3, kR1_4, kR1_5, kR1_6, kR1_7, kR1_8, kR1_9, kR1_10, kR1_11, kR1_12, kR1_13, kC2, kG2, kP2, kR2_0, kR2_1, kC3, kG3, kP3, kR3_0, kR3_1, kR3_2, kR3_3, kL4, kA4, kS4, kL5, kA5, kS5, kL6, kA6, kS6, kL7, kA7, kS7, kC8, kG8, kP8, kR8_0, kR8_1, kL9, kA9, kS9, kL10, kA10, kS10, kC11, kG11, kP11, kR11_0, kR11_1, kR11_2, kR11_3, kL12, kA12, kS12, kL13, kA13, kS13, kL14, kA14, kS14, kL15, kA15, kS15, kC16, kG16, kP16, kR16_0, kR16_1, kL17, kA17, kS17, kL18, kA18, kS18, kC19, kG19, kP19, kR19_0, kL20, kL141, kL146, kA146, kS146, kL151, kA151, kS151, kL156, kA156, kS156, kC157, kG157, kP157, kR157_0, kR157_1, kL158, kA158, kS158, kL159, kA159, kS159, kC161, kG161, kP161, kR161_0, kR161_1, kL162, kA162, kS162, kL163, kA163, kS163, kC165, kG165, kP165, kR165_0, kR165_1, kR165_2, kR165_3, kL166, kA166, kS166, kL167, kA167, kS167, kL168, kA168, kS168, kL169, kA169, kS169, kC170, kG170, kP170, kR170_0, kR170_1, kR170_2, kL171, kA171, kS171, kL172, kA172, kS172, kL173, kA173, kS173, kC174, kG174, kP174, kR174_0, kR174_1, kR174_2, kR174_3, kR174_4, kL175, kA175, kS175, kL176, kA176, kS176, kL177, kA177, kS177, kL178, kA178, kS178, kL179, kC180, kG180, kP180, kL181, kL182, kA182, kS182, kC183, kG183, kP183, kR183_1, kR183_3, kR183_5, kR183_6, kR183_7, kR183_8, kR183_9, kR183_21, kR183_26, kR183_27, kR183_30, kR183_31, kR183_33, kR183_34, kR183_36, kR183_37, kR183_38, kR183_39, kR183_40, kR183_41, kR183_42, kR183_43, kR183_44, kL184, kA184, kS184, kL185, kA185, kS185, kL186, kA186, kS186, kL187, kA187, kS187, kL188, kA188, kS188, kL189, kL190, kL191, kA191, kS191, kL192, kA192, kS192, kL193, kA193, kS193, kL194, kA194, kS194, kL195, kA195, kS195, kL196, kA196, kS196, kL197, kA197, kS197, kL198, kA198, kS198, kL199, kA199, kS199, kL200, kA200, kS200, kL201, kL202, kA202, kS202, kL203, kA203, kS203, kL204, kA204, kS204, kL205, kL206, kA206, kS206, isSt_ok, one0, hv]
    rfl
  | true =>
    rw [hw, if_pos rfl] at hv
    have := hT x hw
    have q : (nI (T x) = -1) = False := nn_m1 (by omega)
    simp (disch := first | assumption | omega) only [Option.bind_some, Option.map_some, xw_gR, xw_gN, xw_al, xw_ck, xw_uI, xw_ur, xup_at, xur_at, if_true, if_false, reduceIte, and_true, true_and, and_false, false_and, not_true_eq_false, not_false_eq_true, Nat.reduceEqDiff, eq_self, Nat.reduceAdd, Nat.reduceMul, kC1, kG1, kP1, kR1_0, kR1_1, kR1_2, kR1_3, kR1_4, kR1_5, kR1_6, kR1_7, kR1_8, kR1_9, kR1_10, kR1_11, kR1_12, kR1_13, kC2, kG2, kP2, kR2_0, kR2_1, kC3, kG3, kP3, kR3_0, kR3_1, kR3_2, kR3_3, kL4, kA4, kS4, kL5, kA5, kS5, kL6, kA6, kS6, kL7, kA7, kS7, kC8, kG8, kP8, kR8_0, kR8_1, kL9, kA9, kS9, kL10, kA10, kS10, kC11, kG11, kP11, kR11_0, kR11_1, kR11_2, kR11_3, kL12, kA12, kS12, kL13, kA13, kS13, kL14, kA14, kS14, kL15, kA15, kS15, kC16, kG16, kP16, kR16_0, kR16_1, kL17, kA17, kS17, kL18, kA18, kS18, kC19, kG19, kP19, kR19_0, kL20, kL141, kL146, kA146, kS146, kL151, kA151, kS151, kL156, kA156, kS156, kC157, kG157, kP157, kR157_0, kR157_1, kL158, kA158, kS158, kL159, kA159, kS159, kC161, kG161, kP161, kR161_0, kR161_1, kL162, kA162, kS162, kL163, kA163, kS163, kC165, kG165, kP165, kR165_0, kR165_1, kR165_2, kR165_3, kL166, kA166, kS166, kL167, kA167, kS167, kL168, kA168, kS168, kL169, kA169, kS169, kC170, kG170, kP170, kR170_0, kR170_1, kR170_2, kL171, kA171, kS171, kL172, kA172, kS172, kL173, kA173, kS173, kC174, kG174, kP174, kR174_0, kR174_1, kR174_2, kR174_3, kR174_4, kL175, kA175, kS175, kL176, kA176, kS176, kL177, kA177, kS177, kL178, kA178, kS178, kL179, kC180, kG180, kP180, kL181, kL182, kA182, kS182, kC183, kG183, kP183, kR183_1, kR183_3, kR183_5, kR183_6, kR183_7, kR183_8, kR183_9, kR183_21, kR183_26, kR183_27, kR183_30, kR183_31, kR183_33, kR183_34, kR183_36, kR183_37, kR183_38, kR183_39, kR183_40, kR183_41, kR183_42, kR183_43, kR183_44, kL184, kA184, kS184, kL185, kA185, kS185, kL186, kA186, kS186, kL187, kA187, kS187, kL188, kA188, kS188, kL189, kL190, kL191, kA191, kS191, kL192, kA192, kS192, kL193, kA193, kS193, kL194, kA194, kS194, kL195, kA195, kS195, kL196, kA196, kS196, kL197, kA197, kS197, kL198, kA198, kS198, kL199, kA199, kS199, kL200, kA200, kS200, kL201, kL202, kA202, kS202, kL203, kA203, kS203, kL204, kA204, kS204, kL205, kL206, kA206, kS206, isSt_ok, one0, hv, q]
theorem UFH.wet (hS : Shp σ) (h : UFH J w r N) {x : Nat} (h1 : x < 1024) : f_X9_isWet (xw σ J) 174 (nI x) = some (if w x then 1 else 0) := by
  obtain ⟨T, ρ, R, hJ, hU, hR, h9⟩ := h
  exact wet_ok hS hJ (fun x hw => (hU _ (hU x hw).2.1).1) h1
theorem rootOf_ok (hS : Shp σ) (hN : N ≤ 1024) (h : UFH J w r N) {x : Nat} (hw : w x = true) : ∃ J', f_X9_rootOf (xw σ J) 174 (nI x) = some (nI (r x), xw σ J') ∧ UFH J' w r N ∧ ∀ a k, a ≠ 177 → J' a k = J a k := by
  obtain ⟨T0, ρ, R, hJ0, hU0, hR, h9⟩ := h
  have hpos := rc_pos hU0 hw
  unfold f_X9_rootOf
  have key := xloop_run (f := f_X9_rootOf_b4 174) (fun k a => ∃ (y n : Nat) (J' : Nat → Nat → Int32) (T : Nat → Nat), a = (nI y, nI n, xw σ J') ∧ k = R - ρ y ∧ w y = true ∧ r y = r x ∧ n ≤ ρ y ∧ TW J' w T ∧ UF w T r ρ R ∧ ∀ a k, a ≠ 177 → J' a k = J a k) (fun b => ∃ J', b = (nI (r x), xw σ J') ∧ UFH J' w r N ∧ ∀ a k, a ≠ 177 → J' a k = J a k) ?_ (R - ρ x) (nI x, (0 : Int32), xw σ J) ⟨x, 0, J, T0, rfl, rfl, hw, rfl, Nat.zero_le _, hJ0, hU0, fun _ _ _ => rfl⟩
  · obtain ⟨b, e, J', rfl, h1, h2⟩ := key
    exact ⟨J', e, h1, h2⟩
  · rintro k a ⟨y, n, J', T, rfl, rfl, wy, ry, hn, hJ, hU, u⟩
    obtain ⟨y1, y2, y3, y4, y5, y6, y7, y8⟩ := hU y wy
    obtain ⟨t1, t2, -⟩ := hU (T y) y2
    obtain ⟨z1, z2, z3, z4, z5, z6, -⟩ := hU (T (T y)) t2
    have hT : ∀ x, w x = true → T x < 1024 := fun x hw => (hU _ (hU x hw).2.1).1
    have w1 := wet_ok (σ := σ) hS hJ hT y1
    have w2 := wet_ok (σ := σ) hS hJ hT t1
    rw [wy, if_pos rfl] at w1
    rw [y2, if_pos rfl] at w2
    have v1 := hJ y y1
    rw [wy, if_pos rfl] at v1
    have v2 := hJ (T y) t1
    rw [y2, if_pos rfl] at v2
    have q0 : ((1024 : Int32) ≤ nI n) = False := by rw [show (1024 : Int32) = nI 1024 from rfl, nn_le (by omega) (by omega)]; exact eq_false (by omega)
    have q1 : (nI (T y) = nI y) = (T y = y) := nn_eq (by omega) (by omega)
    by_cases hy : T y = y
    · left
      refine ⟨_, ?_, J', rfl, ⟨T, ρ, R, hJ, hU, hR, by rw [u _ _ (by omega)]; exact h9⟩, u⟩
      simp only [f_X9_rootOf_b4]
      rw [hy] at v1 
      simp (disch := first | assumption | omega) only [Option.bind_some, Option.map_some, xw_gR, xw_gN, xw_al, xw_ck, xw_uI, xw_ur, xup_at, xur_at, if_true, if_false, reduceIte, and_true, true_and, and_false, false_and, not_true_eq_false, not_false_eq_true, Nat.reduceEqDiff, eq_self, Nat.reduceAdd, Nat.reduceMul, kC1, kG1, kP1, kR1_0, kR1_1, kR1_2, kR1_3, kR1_4, kR1_5, kR1_6, kR1_7, kR1_8, kR1_9, kR1_10, kR1_11, kR1_12, kR1_13, kC2, kG2, kP2, kR2_0, kR2_1, kC3, kG3, kP3, kR3_0, kR3_1, kR3_2, kR3_3, kL4, kA4, kS4, kL5, kA5, kS5, kL6, kA6, kS6, kL7, kA7, kS7, kC8, kG8, kP8, kR8_0, kR8_1, kL9, kA9, kS9, kL10, kA10, kS10, kC11, kG11, kP11, kR11_0, kR11_1, kR11_2, kR11_3, kL12, kA12, kS12, kL13, kA13, kS13, kL14, kA14, kS14, kL15, kA15, kS15, kC16, kG16, kP16, kR16_0, kR16_1, kL17, kA17, kS17, kL18, kA18, kS18, kC19, kG19, kP19, kR19_0, kL20, kL141, kL146, kA146, kS146, kL151, kA151, kS151, kL156, kA156, kS156, kC157, kG157, kP157, kR157_0, kR157_1, kL158, kA158, kS158, kL159, kA159, kS159, kC161, kG161, kP161, kR161_0, kR161_1, kL162, kA162, kS162, kL163, kA163, kS163, kC165, kG165, kP165, kR165_0, kR165_1, kR165_2, kR165_3, kL166, kA166, kS166, kL167, kA167, kS167, kL168, kA168, kS168, kL169, kA169, kS169, kC170, kG170, kP170, kR170_0, kR170_1, kR170_2, kL171, kA171, kS171, kL172, kA172, kS172, kL173, kA173, kS173, kC174, kG174, kP174, kR174_0, kR174_1, kR174_2, kR174_3, kR174_4, kL175, kA175, kS175, kL176, kA176, kS176, kL177, kA177, kS177, kL178, kA178, kS178, kL179, kC180, kG180, kP180, kL181, kL182, kA182, kS182, kC183, kG183, kP183, kR183_1, kR183_3, kR183_5, kR183_6, kR183_7, kR183_8, kR183_9, kR183_21, kR183_26, kR183_27, kR183_30, kR183_31, kR183_33, kR183_34, kR183_36, kR183_37, kR183_38, kR183_39, kR183_40, kR183_41, kR183_42, kR183_43, kR183_44, kL184, kA184, kS184, kL185, kA185, kS185, kL186, kA186, kS186, kL187, kA187, kS187, kL188, kA188, kS188, kL189, kL190, kL191, kA191, kS191, kL192, kA192, kS192, kL193, kA193, kS193, kL194, kA194, kS194, kL195, kA195, kS195, kL196, kA196, kS196, kL197, kA197, kS197, kL198, kA198, kS198, kL199, kA199, kS199, kL200, kA200, kS200, kL201, kL202, kA202, kS202, kL203, kA203, kS203, kL204, kA204, kS204, kL205, kL206, kA206, kS206, q0, w1, one0, v1]
      rw [← ry, y5 hy]
    · right
      obtain ⟨g1, g2⟩ := UF_half hU wy hy
      refine ⟨R - ρ (T (T y)), (nI (T (T y)), nI (n + 1), xw σ (xup J' 177 y (nI (T (T y))))), by omega, ?_, T (T y), n + 1, _, _, rfl, rfl, t2, ?_, by omega, ?_, g1, fun a k ha => by rw [xup_at, if_neg (by omega)]; exact u a k ha⟩
      · simp only [f_X9_rootOf_b4]
        simp (disch := first | assumption | omega) only [Option.bind_some, Option.map_some, xw_gR, xw_gN, xw_al, xw_ck, xw_uI, xw_ur, xup_at, xur_at, if_true, if_false, reduceIte, and_true, true_and, and_false, false_and, not_true_eq_false, not_false_eq_true, Nat.reduceEqDiff, eq_self, Nat.reduceAdd, Nat.reduceMul, kC1, kG1, kP1, kR1_0, kR1_1, kR1_2, kR1_3, kR1_4, kR1_5, kR1_6, kR1_7, kR1_8, kR1_9, kR1_10, kR1_11, kR1_12, kR1_13, kC2, kG2, kP2, kR2_0, kR2_1, kC3, kG3, kP3, kR3_0, kR3_1, kR3_2, kR3_3, kL4, kA4, kS4, kL5, kA5, kS5, kL6, kA6, kS6, kL7, kA7, kS7, kC8, kG8, kP8, kR8_0, kR8_1, kL9, kA9, kS9, kL10, kA10, kS10, kC11, kG11, kP11, kR11_0, kR11_1, kR11_2, kR11_3, kL12, kA12, kS12, kL13, kA13, kS13, kL14, kA14, kS14, kL15, kA15, kS15, kC16, kG16, kP16, kR16_0, kR16_1, kL17, kA17, kS17, kL18, kA18, kS18, kC19, kG19, kP19, kR19_0, kL20, kL141, kL146, kA146, kS146, kL151, kA151, kS151, kL156, kA156, kS156, kC157, kG157, kP157, kR157_0, kR157_1, kL158, kA158, kS158, kL159, kA159, kS159, kC161, kG161, kP161, kR161_0, kR161_1, kL162, kA162, kS162, kL163, kA163, kS163, kC165, kG165, kP165, kR165_0, kR165_1, kR165_2, kR165_3, kL166, kA166, kS166, kL167, kA167, kS167, kL168, kA168, kS168, kL169, kA169, kS169, kC170, kG170, kP170, kR170_0, kR170_1, kR170_2, kL171, kA171, kS171, kL172, kA172, kS172, kL173, kA173, kS173, kC174, kG174, kP174, kR174_0, kR174_1, kR174_2, kR174_3, kR174_4, kL175, kA175, kS175, kL176, kA176, kS176, kL177, kA177, kS177, kL178, kA178, kS178, kL179, kC180, kG180, kP180, kL181, kL182, kA182, kS182, kC183, kG183, kP183, kR183_1, kR183_3, kR183_5, kR183_6, kR183_7, kR183_8, kR183_9, kR183_21, kR183_26, kR183_27, kR183_30, kR183_31, kR183_33, kR183_34, kR183_36, kR183_37, kR183_38, kR183_39, kR183_40, kR183_41, kR183_42, kR183_43, kR183_44, kL184, kA184, kS184, kL185, kA185, kS185, kL186, kA186, kS186, kL187, kA187, kS187, kL188, kA188, kS188, kL189, kL190, kL191, kA191, kS191, kL192, kA192, kS192, kL193, kA193, kS193, kL194, kA194, kS194, kL195, kA195, kS195, kL196, kA196, kS196, kL197, kA197, kS197, kL198, kA198, kS198, kL199, kA199, kS199, kL200, kA200, kS200, kL201, kL202, kA202, kS202, kL203, kA203, kS203, kL204, kA204, kS204, kL205, kL206, kA206, kS206, q0, w1, one0, v1, w2, q1, hy, v2]
        rw [nI_succ]
      · rw [(hU (T y) y2).2.2.1, y3]; exact ry
      · intro x h1
        rw [xup_at]
        by_cases z : x = y
        · rw [if_pos ⟨rfl, z⟩, z, wy, if_pos rfl]
          show nI (T (T y)) = nI (if y = y then T (T y) else T y)
          rw [if_pos rfl]
        · rw [if_neg (by omega), hJ x h1]
          show _ = if w x = true then nI (if x = y then T (T y) else T x) else -1
          rw [if_neg z]
theorem join_ok (hS : Shp σ) (hN : N ≤ 1024) (h : UFH J w r N) {a b : Nat} (ha : w a = true) (hb : w b = true) : ∃ J', f_X9_join (xw σ J) 174 (nI a) (nI b) = some (xw σ J') ∧ UFH J' w (fun x => if r x = r a then r b else r x) N ∧ (∀ c k, c ≠ 177 → ¬ (c = 174 ∧ k = 9) → J' c k = J c k) := by
  obtain ⟨J1, e1, h1, u1⟩ := rootOf_ok hS hN h ha
  obtain ⟨J2, e2, h2, u2⟩ := rootOf_ok hS hN h1 hb
  have h2' := h2
  obtain ⟨T, ρ, R, hJ, hU, hR, h9⟩ := h2'
  obtain ⟨a1, a2, a3, a4, a5, a6, a7, a8⟩ := hU a ha
  obtain ⟨b1, b2, b3, b4, b5, b6, b7, b8⟩ := hU b hb
  obtain ⟨p1, p2, p3, p4, p5, p6, p7, p8⟩ := hU _ a7
  obtain ⟨q1, q2, q3, q4, q5, q6, q7, q8⟩ := hU _ b7
  have qe : (nI (r a) = nI (r b)) = (r a = r b) := nn_eq (by omega) (by omega)
  have fr : ∀ c k, c ≠ 177 → J2 c k = J c k := fun c k hc => by rw [u2 c k hc, u1 c k hc]
  by_cases hab : r a = r b
  · have er : (fun x => if r x = r a then r b else r x) = r := by
      funext x
      by_cases z : r x = r a
      · rw [if_pos z, z, hab]
      · rw [if_neg z]
    rw [er]
    refine ⟨J2, ?_, h2, fun c k h1 h2 => fr c k h1⟩
    unfold f_X9_join
    rw [xw_ck, kC174 hS, Option.bind_some, e1, Option.bind_some]
    dsimp only
    rw [xw_ck, kC174 hS, Option.bind_some, e2, Option.bind_some]
    dsimp only
    rw [if_pos (by rw [hab])]
  · have hrc := rc_join hU ha hb hab
    have hpos := rc_pos hU ha
    have es : nI (rc w r) - (1 : Int32) = nI (rc w (fun x => if r x = r a then r b else r x)) := by
      rw [show (1 : Int32) = nI 1 from rfl, nn_sub (by omega), ← hrc, Nat.add_sub_cancel]
    refine ⟨xup (xup J2 177 (r a) (nI (r b))) 174 9 (nI (rc w (fun x => if r x = r a then r b else r x))), ?_, ⟨_, _, R + 1, ?_, UF_join hU ha hb hab, by omega, ?_⟩, fun c k h1 h2 => ?_⟩
    · unfold f_X9_join
      rw [xw_ck, kC174 hS, Option.bind_some, e1, Option.bind_some]
      dsimp only
      rw [xw_ck, kC174 hS, Option.bind_some, e2, Option.bind_some]
      dsimp only
      rw [if_neg (by rw [qe]; exact hab), isSt_ok p1, Option.bind_some, if_neg (by decide)]
      simp (disch := first | assumption | omega) only [Option.bind_some, Option.map_some, xw_gR, xw_gN, xw_al, xw_ck, xw_uI, xw_ur, xup_at, xur_at, if_true, if_false, reduceIte, and_true, true_and, and_false, false_and, not_true_eq_false, not_false_eq_true, Nat.reduceEqDiff, eq_self, Nat.reduceAdd, Nat.reduceMul, kC1, kG1, kP1, kR1_0, kR1_1, kR1_2, kR1_3, kR1_4, kR1_5, kR1_6, kR1_7, kR1_8, kR1_9, kR1_10, kR1_11, kR1_12, kR1_13, kC2, kG2, kP2, kR2_0, kR2_1, kC3, kG3, kP3, kR3_0, kR3_1, kR3_2, kR3_3, kL4, kA4, kS4, kL5, kA5, kS5, kL6, kA6, kS6, kL7, kA7, kS7, kC8, kG8, kP8, kR8_0, kR8_1, kL9, kA9, kS9, kL10, kA10, kS10, kC11, kG11, kP11, kR11_0, kR11_1, kR11_2, kR11_3, kL12, kA12, kS12, kL13, kA13, kS13, kL14, kA14, kS14, kL15, kA15, kS15, kC16, kG16, kP16, kR16_0, kR16_1, kL17, kA17, kS17, kL18, kA18, kS18, kC19, kG19, kP19, kR19_0, kL20, kL141, kL146, kA146, kS146, kL151, kA151, kS151, kL156, kA156, kS156, kC157, kG157, kP157, kR157_0, kR157_1, kL158, kA158, kS158, kL159, kA159, kS159, kC161, kG161, kP161, kR161_0, kR161_1, kL162, kA162, kS162, kL163, kA163, kS163, kC165, kG165, kP165, kR165_0, kR165_1, kR165_2, kR165_3, kL166, kA166, kS166, kL167, kA167, kS167, kL168, kA168, kS168, kL169, kA169, kS169, kC170, kG170, kP170, kR170_0, kR170_1, kR170_2, kL171, kA171, kS171, kL172, kA172, kS172, kL173, kA173, kS173, kC174, kG174, kP174, kR174_0, kR174_1, kR174_2, kR174_3, kR174_4, kL175, kA175, kS175, kL176, kA176, kS176, kL177, kA177, kS177, kL178, kA178, kS178, kL179, kC180, kG180, kP180, kL181, kL182, kA182, kS182, kC183, kG183, kP183, kR183_1, kR183_3, kR183_5, kR183_6, kR183_7, kR183_8, kR183_9, kR183_21, kR183_26, kR183_27, kR183_30, kR183_31, kR183_33, kR183_34, kR183_36, kR183_37, kR183_38, kR183_39, kR183_40, kR183_41, kR183_42, kR183_43, kR183_44, kL184, kA184, kS184, kL185, kA185, kS185, kL186, kA186, kS186, kL187, kA187, kS187, kL188, kA188, kS188, kL189, kL190, kL191, kA191, kS191, kL192, kA192, kS192, kL193, kA193, kS193, kL194, kA194, kS194, kL195, kA195, kS195, kL196, kA196, kS196, kL197, kA197, kS197, kL198, kA198, kS198, kL199, kA199, kS199, kL200, kA200, kS200, kL201, kL202, kA202, kS202, kL203, kA203, kS203, kL204, kA204, kS204, kL205, kL206, kA206, kS206, h9, es]
    · intro x h1
      rw [xup_at, if_neg (by omega), xup_at]
      by_cases z : x = r a
      · rw [if_pos ⟨rfl, z⟩, z, a7, if_pos rfl]
        show nI (r b) = nI (if r a = r a then r b else T (r a))
        rw [if_pos rfl]
      · rw [if_neg (by omega), hJ x h1]
        show _ = if w x = true then nI (if x = r a then r b else T x) else -1
        rw [if_neg z]
    · rw [xup_at, if_pos ⟨rfl, rfl⟩]
    · rw [xup_at, if_neg h2, xup_at, if_neg (by omega)]; exact fr c k h1
end FOREST
end
section
/-! the water rises -/
def Sw (w : Nat → Bool) (S : Nat → Nat → Prop) (a b : Nat) : Prop := w a = true ∧ w b = true ∧ S a b
def wA (w : Nat → Bool) (b : Nat) : Nat → Bool := fun x => w x || decide (b = x)
def wt (o : Nat → Nat) : Nat → Nat → Bool
  | 0 => fun _ => false
  | i + 1 => wA (wt o i) (o i)
theorem wA_b (w : Nat → Bool) (b : Nat) : wA w b b = true := by unfold wA; simp
theorem wA_o {w : Nat → Bool} {b x : Nat} (h : w x = true) : wA w b x = true := by unfold wA; simp [h]
theorem wA_iff {w : Nat → Bool} {b x : Nat} : wA w b x = true ↔ w x = true ∨ b = x := by unfold wA; simp
theorem wt_iff {o : Nat → Nat} {x : Nat} : ∀ {i : Nat}, wt o i x = true ↔ ∃ j, j < i ∧ o j = x := by
  intro i
  induction i with
  | zero =>
    constructor
    · intro h; cases h
    · rintro ⟨j, hj, -⟩; omega
  | succ i ih =>
    show wA (wt o i) (o i) x = true ↔ _
    rw [wA_iff, ih]
    constructor
    · rintro (⟨j, h1, h2⟩ | h)
      · exact ⟨j, by omega, h2⟩
      · exact ⟨i, by omega, h⟩
    · rintro ⟨j, h1, h2⟩
      by_cases z : j = i
      · right; rw [← z]; exact h2
      · left; exact ⟨j, by omega, h2⟩
section RISE
variable {w : Nat → Bool} {S : Nat → Nat → Prop} {r : Nat → Nat}
theorem Sw_y (hSy : ∀ a b, S a b → S b a) (a b : Nat) (h : Sw w S a b) : Sw w S b a := ⟨h.2.1, h.1, hSy a b h.2.2⟩
theorem snd_join (hSy : ∀ a b, S a b → S b a) {a b : Nat} (h : ∀ x, w x = true → cn (Sw w S) x (r x)) (ha : w a = true) (hb : w b = true) (hab : S a b) : ∀ x, w x = true → cn (Sw w S) x (if r x = r a then r b else r x) := by
  intro x hw
  by_cases z : r x = r a
  · rw [if_pos z]
    have h1 := h x hw
    rw [z] at h1
    exact cn_t h1 (cn_t (cn_y (Sw_y hSy) (h a ha)) (cn_t (cn_s (cn_r _ _) ⟨ha, hb, hab⟩) (h b hb)))
  · rw [if_neg z]; exact h x hw
theorem rc_addN {b n : Nat} (hwb : w b = false) (hn : b < n) : fb_ct (fun x => wA w b x && decide ((if x = b then b else r x) = x)) n = fb_ct (fun x => w x && decide (r x = x)) n + 1 := by
  have up : fb_ct (fun k => if k = b then true else (w k && decide (r k = k))) n + (if (w b && decide (r b = b)) = true then 1 else 0) = fb_ct (fun x => w x && decide (r x = x)) n + (if true = true then 1 else 0) := fb_ct_upd (fun x => w x && decide (r x = x)) true hn
  rw [hwb, Bool.false_and, if_neg (show ¬ (false = true) by decide), if_pos rfl, Nat.add_zero] at up
  rw [← up]
  refine fb_ct_cong (fun k hk => ?_)
  by_cases z : k = b
  · rw [if_pos z, z, wA_b, if_pos rfl]; simp
  · rw [if_neg z, if_neg z]
    have : wA w b k = w k := by
      unfold wA
      rw [decide_eq_false (fun y => z y.symm), Bool.or_false]
    rw [this]
theorem UFH_add {J : Nat → Nat → Int32} {N : Nat} (h : UFH J w r N) {b : Nat} (hb : b < 1024) (hwb : w b = false) : UFH (xup (xup J 177 b (nI b)) 174 9 (nI (rc w r + 1))) (wA w b) (fun x => if x = b then b else r x) (N + 1) := by
  obtain ⟨T, ρ, R, hJ, hU, hR, h9⟩ := h
  have hrc : rc (wA w b) (fun x => if x = b then b else r x) = rc w r + 1 := rc_addN hwb hb
  have nb : ∀ x, w x = true → x ≠ b := fun x hw z => by rw [z, hwb] at hw; cases hw
  refine ⟨fun x => if x = b then b else T x, fun x => if x = b then 0 else ρ x, R, fun x h1 => ?_, fun x hw => ?_, by rw [hrc]; omega, by rw [hrc, xup_at, if_pos ⟨rfl, rfl⟩]⟩
  · rw [xup_at, if_neg (by omega), xup_at]
    by_cases z : x = b
    · rw [if_pos ⟨rfl, z⟩, z, wA_b, if_pos rfl]
      show nI b = nI (if b = b then b else T b)
      rw [if_pos rfl]
    · rw [if_neg (by omega), hJ x h1]
      have : wA w b x = w x := by
        unfold wA
        rw [decide_eq_false (fun y => z y.symm), Bool.or_false]
      rw [this]
      show _ = if w x = true then nI (if x = b then b else T x) else -1
      rw [if_neg z]
  · show x < 1024 ∧ wA w b (if x = b then b else T x) = true ∧ (if (if x = b then b else T x) = b then b else r (if x = b then b else T x)) = (if x = b then b else r x) ∧ ((if x = b then b else T x) = x ∨ (if x = b then 0 else ρ x) < (if (if x = b then b else T x) = b then 0 else ρ (if x = b then b else T x))) ∧ ((if x = b then b else T x) = x → (if x = b then b else r x) = x) ∧ (if x = b then 0 else ρ x) ≤ R ∧ wA w b (if x = b then b else r x) = true ∧ (if (if x = b then b else r x) = b then b else T (if x = b then b else r x)) = (if x = b then b else r x)
    by_cases z : x = b
    · rw [if_pos z, if_pos z, if_pos z, if_pos rfl, if_pos rfl]
      exact ⟨by omega, wA_b w b, rfl, .inl z.symm, fun _ => z.symm, Nat.zero_le _, wA_b w b, if_pos rfl⟩
    · have hw' : w x = true := by
        rcases wA_iff.mp hw with y | y
        · exact y
        · exact absurd y.symm z
      obtain ⟨x1, x2, x3, x4, x5, x6, x7, x8⟩ := hU x hw'
      have t1 := nb _ x2
      have t2 := nb _ x7
      rw [if_neg z, if_neg z, if_neg z, if_neg t1, if_neg t1, if_neg t2]
      exact ⟨x1, wA_o x2, x3, x4, x5, x6, wA_o x7, x8⟩
variable {σ : XS} {J : Nat → Nat → Int32} {g : GD} {F : Nat → Int32} {c m M N : Nat} {o : Nat → Nat}
theorem dry_ok (hS : Shp σ) : ∃ J', f_X9_dry (xw σ J) 174 = some (xw σ J') ∧ UFH J' (fun _ => false) (fun x => x) 0 ∧ ∀ a k, ¬ (176 ≤ a ∧ a ≤ 182) → ¬ (a = 174 ∧ k = 9) → J' a k = J a k := by
  have K : σ.1 177 = (20, 1024) := xw_K hS (by decide) (by decide) (by decide)
  have fi := fillI_ok (σ := σ) (I := J) (v := -1) K (by decide)
  have z0 : rc (fun _ => false) (fun x => x) = 0 := fb_ct_zero.mpr (fun k _ => rfl)
  refine ⟨xup (xur J 177 (fun j => if j < 1024 then -1 else J 177 j)) 174 9 0, ?_, ⟨fun x => x, fun _ => 0, 0, fun x h1 => ?_, (fun x hw => absurd hw Bool.false_ne_true), by rw [z0], ?_⟩, fun a k h1 h2 => ?_⟩
  · unfold f_X9_dry
    simp (disch := first | assumption | omega) only [Option.bind_some, Option.map_some, xw_gR, xw_gN, xw_al, xw_ck, xw_uI, xw_ur, xup_at, xur_at, if_true, if_false, reduceIte, and_true, true_and, and_false, false_and, not_true_eq_false, not_false_eq_true, Nat.reduceEqDiff, eq_self, Nat.reduceAdd, Nat.reduceMul, kC1, kG1, kP1, kR1_0, kR1_1, kR1_2, kR1_3, kR1_4, kR1_5, kR1_6, kR1_7, kR1_8, kR1_9, kR1_10, kR1_11, kR1_12, kR1_13, kC2, kG2, kP2, kR2_0, kR2_1, kC3, kG3, kP3, kR3_0, kR3_1, kR3_2, kR3_3, kL4, kA4, kS4, kL5, kA5, kS5, kL6, kA6, kS6, kL7, kA7, kS7, kC8, kG8, kP8, kR8_0, kR8_1, kL9, kA9, kS9, kL10, kA10, kS10, kC11, kG11, kP11, kR11_0, kR11_1, kR11_2, kR11_3, kL12, kA12, kS12, kL13, kA13, kS13, kL14, kA14, kS14, kL15, kA15, kS15, kC16, kG16, kP16, kR16_0, kR16_1, kL17, kA17, kS17, kL18, kA18, kS18, kC19, kG19, kP19, kR19_0, kL20, kL141, kL146, kA146, kS146, kL151, kA151, kS151, kL156, kA156, kS156, kC157, kG157, kP157, kR157_0, kR157_1, kL158, kA158, kS158, kL159, kA159, kS159, kC161, kG161, kP161, kR161_0, kR161_1, kL162, kA162, kS162, kL163, kA163, kS163, kC165, kG165, kP165, kR165_0, kR165_1, kR165_2, kR165_3, kL166, kA166, kS166, kL167, kA167, kS167, kL168, kA168, kS168, kL169, kA169, kS169, kC170, kG170, kP170, kR170_0, kR170_1, kR170_2, kL171, kA171, kS171, kL172, kA172, kS172, kL173, kA173, kS173, kC174, kG174, kP174, kR174_0, kR174_1, kR174_2, kR174_3, kR174_4, kL175, kA175, kS175, kL176, kA176, kS176, kL177, kA177, kS177, kL178, kA178, kS178, kL179, kC180, kG180, kP180, kL181, kL182, kA182, kS182, kC183, kG183, kP183, kR183_1, kR183_3, kR183_5, kR183_6, kR183_7, kR183_8, kR183_9, kR183_21, kR183_26, kR183_27, kR183_30, kR183_31, kR183_33, kR183_34, kR183_36, kR183_37, kR183_38, kR183_39, kR183_40, kR183_41, kR183_42, kR183_43, kR183_44, kL184, kA184, kS184, kL185, kA185, kS185, kL186, kA186, kS186, kL187, kA187, kS187, kL188, kA188, kS188, kL189, kL190, kL191, kA191, kS191, kL192, kA192, kS192, kL193, kA193, kS193, kL194, kA194, kS194, kL195, kA195, kS195, kL196, kA196, kS196, kL197, kA197, kS197, kL198, kA198, kS198, kL199, kA199, kS199, kL200, kA200, kS200, kL201, kL202, kA202, kS202, kL203, kA203, kS203, kL204, kA204, kS204, kL205, kL206, kA206, kS206, fi]
  · rw [xup_at, if_neg (by omega), xur_at, if_pos rfl, if_pos h1]
    exact (if_neg Bool.false_ne_true).symm
  · rw [z0, xup_at, if_pos ⟨rfl, rfl⟩]; rfl
  · rw [xup_at, if_neg h2, xur_at, if_neg (by omega)]
theorem flood_ok (hT : TC σ J g F c m) (hSy : ∀ a b, S a b → S b a) (hSa : ∀ a b, aj g F a b → S a b) (hN : N < 1024) (h : UFH J w r N) {b : Nat} (hb : b < gSt g) (hwb : w b = false) (sd : ∀ x, w x = true → cn (Sw w S) x (r x)) :
    ∃ J' r', f_X9_flood (xw σ J) 174 (nI b) = some (xw σ J') ∧ UFH J' (wA w b) r' (N + 1) ∧ (∀ a k, ¬ (176 ≤ a ∧ a ≤ 182) → ¬ (a = 174 ∧ k = 9) → J' a k = J a k) ∧ (∀ x, wA w b x = true → cn (Sw (wA w b) S) x (r' x)) ∧ (∀ x y, w x = true → w y = true → r x = r y → r' x = r' y) ∧ ∀ i, i < gSz g → F (48 + i) = 0 → wA w b (b ^^^ 2 ^ i) = true → r' b = r' (b ^^^ 2 ^ i) := by
  have hst := hT.st
  have hS := hT.1
  have h9 : J 174 9 = nI (rc w r) := by
    obtain ⟨T, ρ, R, hJ, hU, hR, h9⟩ := h
    exact h9
  have nb : ∀ x, w x = true → x ≠ b := fun x hw z => by rw [z, hwb] at hw; cases hw
  have key := xforI (f := f_X9_flood_b27 174 (nI b)) (fun i x => ∃ (J' : Nat → Nat → Int32) (r' : Nat → Nat), x = (nI i, xw σ J') ∧ UFH J' (wA w b) r' (N + 1) ∧ (∀ a k, ¬ (176 ≤ a ∧ a ≤ 182) → ¬ (a = 174 ∧ k = 9) → J' a k = J a k) ∧ (∀ x, wA w b x = true → cn (Sw (wA w b) S) x (r' x)) ∧ (∀ x y, w x = true → w y = true → r x = r y → r' x = r' y) ∧ ∀ j, j < i → F (48 + j) = 0 → wA w b (b ^^^ 2 ^ j) = true → r' b = r' (b ^^^ 2 ^ j)) (gSz g) (Q := fun q => ∃ (J' : Nat → Nat → Int32) (r' : Nat → Nat), q = xw σ J' ∧ UFH J' (wA w b) r' (N + 1) ∧ (∀ a k, ¬ (176 ≤ a ∧ a ≤ 182) → ¬ (a = 174 ∧ k = 9) → J' a k = J a k) ∧ (∀ x, wA w b x = true → cn (Sw (wA w b) S) x (r' x)) ∧ (∀ x y, w x = true → w y = true → r x = r y → r' x = r' y) ∧ ∀ j, j < gSz g → F (48 + j) = 0 → wA w b (b ^^^ 2 ^ j) = true → r' b = r' (b ^^^ 2 ^ j)) (a0 := ((0 : Int32), xw σ (xup (xup J 177 b (nI b)) 174 9 (nI (rc w r + 1))))) ⟨_, _, rfl, UFH_add h (by omega) hwb, fun a k h1 h2 => by rw [xup_at, if_neg h2, xup_at, if_neg (by omega)], fun x hw => ?_, fun x y hwx hwy e => ?_, fun j hj => absurd hj (Nat.not_lt_zero _)⟩ ?_ ?_
  · obtain ⟨q, e, J', r', rfl, rest⟩ := key
    refine ⟨J', r', ?_, rest⟩
    unfold f_X9_flood
    rw [isSt_ok (by omega), Option.bind_some, if_neg (by decide)]
    have hb' : b < 1024 := by omega
    simp (disch := first | assumption | omega) only [Option.bind_some, Option.map_some, xw_gR, xw_gN, xw_al, xw_ck, xw_uI, xw_ur, xup_at, xur_at, if_true, if_false, reduceIte, and_true, true_and, and_false, false_and, not_true_eq_false, not_false_eq_true, Nat.reduceEqDiff, eq_self, Nat.reduceAdd, Nat.reduceMul, kC1, kG1, kP1, kR1_0, kR1_1, kR1_2, kR1_3, kR1_4, kR1_5, kR1_6, kR1_7, kR1_8, kR1_9, kR1_10, kR1_11, kR1_12, kR1_13, kC2, kG2, kP2, kR2_0, kR2_1, kC3, kG3, kP3, kR3_0, kR3_1, kR3_2, kR3_3, kL4, kA4, kS4, kL5, kA5, kS5, kL6, kA6, kS6, kL7, kA7, kS7, kC8, kG8, kP8, kR8_0, kR8_1, kL9, kA9, kS9, kL10, kA10, kS10, kC11, kG11, kP11, kR11_0, kR11_1, kR11_2, kR11_3, kL12, kA12, kS12, kL13, kA13, kS13, kL14, kA14, kS14, kL15, kA15, kS15, kC16, kG16, kP16, kR16_0, kR16_1, kL17, kA17, kS17, kL18, kA18, kS18, kC19, kG19, kP19, kR19_0, kL20, kL141, kL146, kA146, kS146, kL151, kA151, kS151, kL156, kA156, kS156, kC157, kG157, kP157, kR157_0, kR157_1, kL158, kA158, kS158, kL159, kA159, kS159, kC161, kG161, kP161, kR161_0, kR161_1, kL162, kA162, kS162, kL163, kA163, kS163, kC165, kG165, kP165, kR165_0, kR165_1, kR165_2, kR165_3, kL166, kA166, kS166, kL167, kA167, kS167, kL168, kA168, kS168, kL169, kA169, kS169, kC170, kG170, kP170, kR170_0, kR170_1, kR170_2, kL171, kA171, kS171, kL172, kA172, kS172, kL173, kA173, kS173, kC174, kG174, kP174, kR174_0, kR174_1, kR174_2, kR174_3, kR174_4, kL175, kA175, kS175, kL176, kA176, kS176, kL177, kA177, kS177, kL178, kA178, kS178, kL179, kC180, kG180, kP180, kL181, kL182, kA182, kS182, kC183, kG183, kP183, kR183_1, kR183_3, kR183_5, kR183_6, kR183_7, kR183_8, kR183_9, kR183_21, kR183_26, kR183_27, kR183_30, kR183_31, kR183_33, kR183_34, kR183_36, kR183_37, kR183_38, kR183_39, kR183_40, kR183_41, kR183_42, kR183_43, kR183_44, kL184, kA184, kS184, kL185, kA185, kS185, kL186, kA186, kS186, kL187, kA187, kS187, kL188, kA188, kS188, kL189, kL190, kL191, kA191, kS191, kL192, kA192, kS192, kL193, kA193, kS193, kL194, kA194, kS194, kL195, kA195, kS195, kL196, kA196, kS196, kL197, kA197, kS197, kL198, kA198, kS198, kL199, kA199, kS199, kL200, kA200, kS200, kL201, kL202, kA202, kS202, kL203, kA203, kS203, kL204, kA204, kS204, kL205, kL206, kA206, kS206, h9]
    rw [← nI_succ]
    exact e
  · show cn (Sw (wA w b) S) x (if x = b then b else r x)
    by_cases z : x = b
    · rw [if_pos z, z]; exact cn_r _ _
    · rw [if_neg z]
      rcases wA_iff.mp hw with y | y
      · exact cn_m (fun p q ⟨h1, h2, h3⟩ => ⟨wA_o h1, wA_o h2, h3⟩) (sd x y)
      · exact absurd y.symm z
  · show (if x = b then b else r x) = (if y = b then b else r y)
    rw [if_neg (nb x hwx), if_neg (nb y hwy)]; exact e
  · rintro i x hi ⟨J', r', rfl, hU, u, sd', mo, fl⟩
    have hT' : TC σ J' g F c m := TC_c u hT
    have ct := tCan_ok hT' hi
    have j7 : J' 174 7 = nI (gSz g) := hT'.2.2.2.2.2.2.2.2.2
    have hnb := gSt_flip hb hi
    have h10 := hT.2.2.2.1
    have we := hU.wet hS (show b ^^^ 2 ^ i < 1024 by omega)
    by_cases hp : F (48 + i) = 0
    · rw [if_pos hp] at ct
      cases hw : wA w b (b ^^^ 2 ^ i) with
      | false =>
        rw [hw, if_neg (by decide)] at we
        refine ⟨(nI (i + 1), xw σ J'), ?_, J', r', rfl, hU, u, sd', mo, fun j hj h0 hwj => ?_⟩
        · simp only [f_X9_flood_b27]
          simp (disch := first | assumption | omega) only [Option.bind_some, Option.map_some, xw_gR, xw_gN, xw_al, xw_ck, xw_uI, xw_ur, xup_at, xur_at, if_true, if_false, reduceIte, and_true, true_and, and_false, false_and, not_true_eq_false, not_false_eq_true, Nat.reduceEqDiff, eq_self, Nat.reduceAdd, Nat.reduceMul, kC1, kG1, kP1, kR1_0, kR1_1, kR1_2, kR1_3, kR1_4, kR1_5, kR1_6, kR1_7, kR1_8, kR1_9, kR1_10, kR1_11, kR1_12, kR1_13, kC2, kG2, kP2, kR2_0, kR2_1, kC3, kG3, kP3, kR3_0, kR3_1, kR3_2, kR3_3, kL4, kA4, kS4, kL5, kA5, kS5, kL6, kA6, kS6, kL7, kA7, kS7, kC8, kG8, kP8, kR8_0, kR8_1, kL9, kA9, kS9, kL10, kA10, kS10, kC11, kG11, kP11, kR11_0, kR11_1, kR11_2, kR11_3, kL12, kA12, kS12, kL13, kA13, kS13, kL14, kA14, kS14, kL15, kA15, kS15, kC16, kG16, kP16, kR16_0, kR16_1, kL17, kA17, kS17, kL18, kA18, kS18, kC19, kG19, kP19, kR19_0, kL20, kL141, kL146, kA146, kS146, kL151, kA151, kS151, kL156, kA156, kS156, kC157, kG157, kP157, kR157_0, kR157_1, kL158, kA158, kS158, kL159, kA159, kS159, kC161, kG161, kP161, kR161_0, kR161_1, kL162, kA162, kS162, kL163, kA163, kS163, kC165, kG165, kP165, kR165_0, kR165_1, kR165_2, kR165_3, kL166, kA166, kS166, kL167, kA167, kS167, kL168, kA168, kS168, kL169, kA169, kS169, kC170, kG170, kP170, kR170_0, kR170_1, kR170_2, kL171, kA171, kS171, kL172, kA172, kS172, kL173, kA173, kS173, kC174, kG174, kP174, kR174_0, kR174_1, kR174_2, kR174_3, kR174_4, kL175, kA175, kS175, kL176, kA176, kS176, kL177, kA177, kS177, kL178, kA178, kS178, kL179, kC180, kG180, kP180, kL181, kL182, kA182, kS182, kC183, kG183, kP183, kR183_1, kR183_3, kR183_5, kR183_6, kR183_7, kR183_8, kR183_9, kR183_21, kR183_26, kR183_27, kR183_30, kR183_31, kR183_33, kR183_34, kR183_36, kR183_37, kR183_38, kR183_39, kR183_40, kR183_41, kR183_42, kR183_43, kR183_44, kL184, kA184, kS184, kL185, kA185, kS185, kL186, kA186, kS186, kL187, kA187, kS187, kL188, kA188, kS188, kL189, kL190, kL191, kA191, kS191, kL192, kA192, kS192, kL193, kA193, kS193, kL194, kA194, kS194, kL195, kA195, kS195, kL196, kA196, kS196, kL197, kA197, kS197, kL198, kA198, kS198, kL199, kA199, kS199, kL200, kA200, kS200, kL201, kL202, kA202, kS202, kL203, kA203, kS203, kL204, kA204, kS204, kL205, kL206, kA206, kS206, j7, nn_le, show ¬ (gSz g ≤ i) by omega, ct, one0, nn_one, nn_xor, we]
          rw [nI_succ]
        · by_cases z : j = i
          · rw [z, hw] at hwj; cases hwj
          · exact fl j (by omega) h0 hwj
      | true =>
        rw [hw, if_pos rfl] at we
        obtain ⟨J2, e2, h2, u2⟩ := join_ok hS (show N + 1 ≤ 1024 by omega) hU (wA_b w b) hw
        refine ⟨(nI (i + 1), xw σ J2), ?_, J2, _, rfl, h2, fun a k h1 h3 => by rw [u2 a k (by omega) h3]; exact u a k h1 h3, snd_join hSy sd' (wA_b w b) hw (hSa _ _ ⟨i, hi, hp, rfl⟩), fun x y hwx hwy e => ?_, fun j hj h0 hwj => ?_⟩
        · simp only [f_X9_flood_b27]
          simp (disch := first | assumption | omega) only [Option.bind_some, Option.map_some, xw_gR, xw_gN, xw_al, xw_ck, xw_uI, xw_ur, xup_at, xur_at, if_true, if_false, reduceIte, and_true, true_and, and_false, false_and, not_true_eq_false, not_false_eq_true, Nat.reduceEqDiff, eq_self, Nat.reduceAdd, Nat.reduceMul, kC1, kG1, kP1, kR1_0, kR1_1, kR1_2, kR1_3, kR1_4, kR1_5, kR1_6, kR1_7, kR1_8, kR1_9, kR1_10, kR1_11, kR1_12, kR1_13, kC2, kG2, kP2, kR2_0, kR2_1, kC3, kG3, kP3, kR3_0, kR3_1, kR3_2, kR3_3, kL4, kA4, kS4, kL5, kA5, kS5, kL6, kA6, kS6, kL7, kA7, kS7, kC8, kG8, kP8, kR8_0, kR8_1, kL9, kA9, kS9, kL10, kA10, kS10, kC11, kG11, kP11, kR11_0, kR11_1, kR11_2, kR11_3, kL12, kA12, kS12, kL13, kA13, kS13, kL14, kA14, kS14, kL15, kA15, kS15, kC16, kG16, kP16, kR16_0, kR16_1, kL17, kA17, kS17, kL18, kA18, kS18, kC19, kG19, kP19, kR19_0, kL20, kL141, kL146, kA146, kS146, kL151, kA151, kS151, kL156, kA156, kS156, kC157, kG157, kP157, kR157_0, kR157_1, kL158, kA158, kS158, kL159, kA159, kS159, kC161, kG161, kP161, kR161_0, kR161_1, kL162, kA162, kS162, kL163, kA163, kS163, kC165, kG165, kP165, kR165_0, kR165_1, kR165_2, kR165_3, kL166, kA166, kS166, kL167, kA167, kS167, kL168, kA168, kS168, kL169, kA169, kS169, kC170, kG170, kP170, kR170_0, kR170_1, kR170_2, kL171, kA171, kS171, kL172, kA172, kS172, kL173, kA173, kS173, kC174, kG174, kP174, kR174_0, kR174_1, kR174_2, kR174_3, kR174_4, kL175, kA175, kS175, kL176, kA176, kS176, kL177, kA177, kS177, kL178, kA178, kS178, kL179, kC180, kG180, kP180, kL181, kL182, kA182, kS182, kC183, kG183, kP183, kR183_1, kR183_3, kR183_5, kR183_6, kR183_7, kR183_8, kR183_9, kR183_21, kR183_26, kR183_27, kR183_30, kR183_31, kR183_33, kR183_34, kR183_36, kR183_37, kR183_38, kR183_39, kR183_40, kR183_41, kR183_42, kR183_43, kR183_44, kL184, kA184, kS184, kL185, kA185, kS185, kL186, kA186, kS186, kL187, kA187, kS187, kL188, kA188, kS188, kL189, kL190, kL191, kA191, kS191, kL192, kA192, kS192, kL193, kA193, kS193, kL194, kA194, kS194, kL195, kA195, kS195, kL196, kA196, kS196, kL197, kA197, kS197, kL198, kA198, kS198, kL199, kA199, kS199, kL200, kA200, kS200, kL201, kL202, kA202, kS202, kL203, kA203, kS203, kL204, kA204, kS204, kL205, kL206, kA206, kS206, j7, nn_le, show ¬ (gSz g ≤ i) by omega, ct, one0, nn_one, nn_xor, we, e2]
          rw [nI_succ]
        · show (if r' x = r' b then _ else r' x) = (if r' y = r' b then _ else r' y)
          rw [mo x y hwx hwy e]
        · show (if r' b = r' b then r' (b ^^^ 2 ^ i) else r' b) = (if r' (b ^^^ 2 ^ j) = r' b then r' (b ^^^ 2 ^ i) else r' (b ^^^ 2 ^ j))
          rw [if_pos rfl]
          by_cases z : j = i
          · rw [z]
            split <;> rfl
          · rw [if_pos (fl j (by omega) h0 hwj).symm]
    · rw [if_neg hp] at ct
      refine ⟨(nI (i + 1), xw σ J'), ?_, J', r', rfl, hU, u, sd', mo, fun j hj h0 hwj => ?_⟩
      · simp only [f_X9_flood_b27]
        simp (disch := first | assumption | omega) only [Option.bind_some, Option.map_some, xw_gR, xw_gN, xw_al, xw_ck, xw_uI, xw_ur, xup_at, xur_at, if_true, if_false, reduceIte, and_true, true_and, and_false, false_and, not_true_eq_false, not_false_eq_true, Nat.reduceEqDiff, eq_self, Nat.reduceAdd, Nat.reduceMul, kC1, kG1, kP1, kR1_0, kR1_1, kR1_2, kR1_3, kR1_4, kR1_5, kR1_6, kR1_7, kR1_8, kR1_9, kR1_10, kR1_11, kR1_12, kR1_13, kC2, kG2, kP2, kR2_0, kR2_1, kC3, kG3, kP3, kR3_0, kR3_1, kR3_2, kR3_3, kL4, kA4, kS4, kL5, kA5, kS5, kL6, kA6, kS6, kL7, kA7, kS7, kC8, kG8, kP8, kR8_0, kR8_1, kL9, kA9, kS9, kL10, kA10, kS10, kC11, kG11, kP11, kR11_0, kR11_1, kR11_2, kR11_3, kL12, kA12, kS12, kL13, kA13, kS13, kL14, kA14, kS14, kL15, kA15, kS15, kC16, kG16, kP16, kR16_0, kR16_1, kL17, kA17, kS17, kL18, kA18, kS18, kC19, kG19, kP19, kR19_0, kL20, kL141, kL146, kA146, kS146, kL151, kA151, kS151, kL156, kA156, kS156, kC157, kG157, kP157, kR157_0, kR157_1, kL158, kA158, kS158, kL159, kA159, kS159, kC161, kG161, kP161, kR161_0, kR161_1, kL162, kA162, kS162, kL163, kA163, kS163, kC165, kG165, kP165, kR165_0, kR165_1, kR165_2, kR165_3, kL166, kA166, kS166, kL167, kA167, kS167, kL168, kA168, kS168, kL169, kA169, kS169, kC170, kG170, kP170, kR170_0, kR170_1, kR170_2, kL171, kA171, kS171, kL172, kA172, kS172, kL173, kA173, kS173, kC174, kG174, kP174, kR174_0, kR174_1, kR174_2, kR174_3, kR174_4, kL175, kA175, kS175, kL176, kA176, kS176, kL177, kA177, kS177, kL178, kA178, kS178, kL179, kC180, kG180, kP180, kL181, kL182, kA182, kS182, kC183, kG183, kP183, kR183_1, kR183_3, kR183_5, kR183_6, kR183_7, kR183_8, kR183_9, kR183_21, kR183_26, kR183_27, kR183_30, kR183_31, kR183_33, kR183_34, kR183_36, kR183_37, kR183_38, kR183_39, kR183_40, kR183_41, kR183_42, kR183_43, kR183_44, kL184, kA184, kS184, kL185, kA185, kS185, kL186, kA186, kS186, kL187, kA187, kS187, kL188, kA188, kS188, kL189, kL190, kL191, kA191, kS191, kL192, kA192, kS192, kL193, kA193, kS193, kL194, kA194, kS194, kL195, kA195, kS195, kL196, kA196, kS196, kL197, kA197, kS197, kL198, kA198, kS198, kL199, kA199, kS199, kL200, kA200, kS200, kL201, kL202, kA202, kS202, kL203, kA203, kS203, kL204, kA204, kS204, kL205, kL206, kA206, kS206, j7, nn_le, show ¬ (gSz g ≤ i) by omega, ct]
        rw [nI_succ]
      · by_cases z : j = i
        · rw [z] at h0; exact absurd h0 hp
        · exact fl j (by omega) h0 hwj
  · rintro x ⟨J', r', rfl, hU, u, rest⟩
    refine ⟨xw σ J', ?_, J', r', rfl, hU, u, rest⟩
    have hT' : TC σ J' g F c m := TC_c u hT
    have j7 : J' 174 7 = nI (gSz g) := hT'.2.2.2.2.2.2.2.2.2
    have h10 := hT.2.2.2.1
    simp only [f_X9_flood_b27]
    simp (disch := first | assumption | omega) only [Option.bind_some, Option.map_some, xw_gR, xw_gN, xw_al, xw_ck, xw_uI, xw_ur, xup_at, xur_at, if_true, if_false, reduceIte, and_true, true_and, and_false, false_and, not_true_eq_false, not_false_eq_true, Nat.reduceEqDiff, eq_self, Nat.reduceAdd, Nat.reduceMul, kC1, kG1, kP1, kR1_0, kR1_1, kR1_2, kR1_3, kR1_4, kR1_5, kR1_6, kR1_7, kR1_8, kR1_9, kR1_10, kR1_11, kR1_12, kR1_13, kC2, kG2, kP2, kR2_0, kR2_1, kC3, kG3, kP3, kR3_0, kR3_1, kR3_2, kR3_3, kL4, kA4, kS4, kL5, kA5, kS5, kL6, kA6, kS6, kL7, kA7, kS7, kC8, kG8, kP8, kR8_0, kR8_1, kL9, kA9, kS9, kL10, kA10, kS10, kC11, kG11, kP11, kR11_0, kR11_1, kR11_2, kR11_3, kL12, kA12, kS12, kL13, kA13, kS13, kL14, kA14, kS14, kL15, kA15, kS15, kC16, kG16, kP16, kR16_0, kR16_1, kL17, kA17, kS17, kL18, kA18, kS18, kC19, kG19, kP19, kR19_0, kL20, kL141, kL146, kA146, kS146, kL151, kA151, kS151, kL156, kA156, kS156, kC157, kG157, kP157, kR157_0, kR157_1, kL158, kA158, kS158, kL159, kA159, kS159, kC161, kG161, kP161, kR161_0, kR161_1, kL162, kA162, kS162, kL163, kA163, kS163, kC165, kG165, kP165, kR165_0, kR165_1, kR165_2, kR165_3, kL166, kA166, kS166, kL167, kA167, kS167, kL168, kA168, kS168, kL169, kA169, kS169, kC170, kG170, kP170, kR170_0, kR170_1, kR170_2, kL171, kA171, kS171, kL172, kA172, kS172, kL173, kA173, kS173, kC174, kG174, kP174, kR174_0, kR174_1, kR174_2, kR174_3, kR174_4, kL175, kA175, kS175, kL176, kA176, kS176, kL177, kA177, kS177, kL178, kA178, kS178, kL179, kC180, kG180, kP180, kL181, kL182, kA182, kS182, kC183, kG183, kP183, kR183_1, kR183_3, kR183_5, kR183_6, kR183_7, kR183_8, kR183_9, kR183_21, kR183_26, kR183_27, kR183_30, kR183_31, kR183_33, kR183_34, kR183_36, kR183_37, kR183_38, kR183_39, kR183_40, kR183_41, kR183_42, kR183_43, kR183_44, kL184, kA184, kS184, kL185, kA185, kS185, kL186, kA186, kS186, kL187, kA187, kS187, kL188, kA188, kS188, kL189, kL190, kL191, kA191, kS191, kL192, kA192, kS192, kL193, kA193, kS193, kL194, kA194, kS194, kL195, kA195, kS195, kL196, kA196, kS196, kL197, kA197, kS197, kL198, kA198, kS198, kL199, kA199, kS199, kL200, kA200, kS200, kL201, kL202, kA202, kS202, kL203, kA203, kS203, kL204, kA204, kS204, kL205, kL206, kA206, kS206, j7, nn_le, Nat.le_refl]
end RISE
end
section
/-! where two lakes meet; how many lakes there are -/
section MEET
variable {σ : XS} {J : Nat → Nat → Int32} {g : GD} {F : Nat → Int32} {c m M : Nat} {o : Nat → Nat} {Q : Nat → Prop}
def sQ (g : GD) (F : Nat → Int32) (Q : Nat → Prop) (a b : Nat) : Prop := aj g F a b ∨ (Q a ∧ Q b)
theorem sQ_y (a b : Nat) (h : sQ g F Q a b) : sQ g F Q b a := by
  rcases h with h | h
  · exact .inl (aj_y h)
  · exact .inr ⟨h.2, h.1⟩
theorem wt_new (hO : TO J g F M o) {i : Nat} (hi : i < M) : wt o i (o i) = false := by
  cases h : wt o i (o i) with
  | false => rfl
  | true =>
    obtain ⟨j, h1, h2⟩ := wt_iff.mp h
    exact absurd h2 (hO.2.2.2.1 j i h1 hi).2
/-- what is known once i states are under water -/
def RS (J0 J : Nat → Nat → Int32) (g : GD) (F : Nat → Int32) (o : Nat → Nat) (Q : Nat → Prop) (i : Nat) (r : Nat → Nat) : Prop := UFH J (wt o i) r i ∧ (∀ a k, ¬ (176 ≤ a ∧ a ≤ 182) → ¬ (a = 174 ∧ k = 9) → J a k = J0 a k) ∧ (∀ x, wt o i x = true → cn (Sw (wt o i) (sQ g F Q)) x (r x)) ∧ ∀ x y, wt o i x = true → wt o i y = true → sQ g F Q x y → r x = r y
theorem flood_s (hT : TC σ J g F c m) (hO : TO J g F M o) {J' : Nat → Nat → Int32} {r : Nat → Nat} {i : Nat} (hi : i < M) (h : RS J J' g F o Q i r) :
    ∃ J2 r', f_X9_flood (xw σ J') 174 (nI (o i)) = some (xw σ J2) ∧ UFH J2 (wt o (i + 1)) r' (i + 1) ∧ (∀ a k, ¬ (176 ≤ a ∧ a ≤ 182) → ¬ (a = 174 ∧ k = 9) → J2 a k = J a k) ∧ (∀ x, wt o (i + 1) x = true → cn (Sw (wt o (i + 1)) (sQ g F Q)) x (r' x)) ∧ (∀ x y, wt o i x = true → wt o i y = true → sQ g F Q x y → r' x = r' y) ∧ ∀ x y, wt o (i + 1) x = true → wt o (i + 1) y = true → aj g F x y → r' x = r' y := by
  obtain ⟨h1, h2, h3, h4⟩ := h
  have hM := hO.1
  obtain ⟨J2, r', e, a1, a2, a3, a4, a5⟩ := flood_ok (TC_c h2 hT) (S := sQ g F Q) sQ_y (fun a b z => .inl z) (show i < 1024 by omega) h1 (hO.2.2.1 i hi).2.1 (wt_new hO hi) h3
  refine ⟨J2, r', e, a1, fun a k z1 z2 => by rw [a2 a k z1 z2]; exact h2 a k z1 z2, a3, fun x y hx1 hy1 hs => a4 x y hx1 hy1 (h4 x y hx1 hy1 hs), fun x y hx1 hy1 hs => ?_⟩
  have nw : ∀ y, wt o (i + 1) y = true → aj g F (o i) y → r' (o i) = r' y := by
    rintro y hy ⟨j, j1, j2, rfl⟩
    exact a5 j j1 j2 hy
  rcases wA_iff.mp (show wA (wt o i) (o i) x = true from hx1) with z | z
  · rcases wA_iff.mp (show wA (wt o i) (o i) y = true from hy1) with v | v
    · exact a4 x y z v (h4 x y z v (.inl hs))
    · rw [← v] at hs ⊢
      exact (nw x hx1 (aj_y hs)).symm
  · rw [← z] at hs ⊢
    exact nw y hy1 hs
def met (g : GD) (F : Nat → Int32) (o : Nat → Nat) (Q : Nat → Prop) (i one other : Nat) : Prop := wt o i one = true ∧ wt o i other = true ∧ cn (Sw (wt o i) (sQ g F Q)) one other
theorem met_iff {J0 : Nat → Nat → Int32} {r : Nat → Nat} {i one other : Nat} (h : RS J0 J g F o Q i r) (h1 : wt o i one = true) (h2 : wt o i other = true) : r one = r other ↔ met g F o Q i one other := by
  obtain ⟨a1, a2, a3, a4⟩ := h
  constructor
  · intro e
    have q := a3 one h1
    rw [e] at q
    exact ⟨h1, h2, cn_t q (cn_y (Sw_y sQ_y) (a3 other h2))⟩
  · rintro ⟨-, -, q⟩
    exact q (fun x => r one = r x) rfl (fun a b p ⟨s1, s2, s3⟩ => p.trans (a4 a b s1 s2 s3))
theorem j70_ok (hT : TC σ J g F c m) (hO : TO J g F M o) {J' : Nat → Nat → Int32} {r : Nat → Nat} {i one other : Nat} (hi : i < M) (h : RS J J' g F o Q (i + 1) r) (x3 : Int32) (h1 : one < 1024) (h2 : other < 1024) :
    ∃ J2, RS J J2 g F o Q (i + 1) r ∧ ((met g F o Q (i + 1) one other ∧ f_X9_meetingEnergy_j70 (xw σ J') 174 (nI one) (nI other) x3 (nI i) (nI (o i)) = some (.inr (iI (eE g (zR F) (o i)), xw σ J2))) ∨ (¬ met g F o Q (i + 1) one other ∧ f_X9_meetingEnergy_j70 (xw σ J') 174 (nI one) (nI other) x3 (nI i) (nI (o i)) = some (.inl (nI (i + 1), xw σ J2)))) := by
  have hM := hO.1
  have hS := hT.1
  obtain ⟨b1, b2, b3, b4⟩ := id h
  have we1 := b1.wet hS h1
  have we2 := b1.wet hS h2
  have st : f_X9_meetingEnergy_j70 (xw σ J') 174 (nI one) (nI other) x3 (nI i) (nI (o i)) = if wt o (i + 1) one = true ∧ wt o (i + 1) other = true then (xck (xw σ J') 174 9).bind fun _ => (f_X9_rootOf (xw σ J') 174 (nI one)).bind fun (v10, σ9) => (xck σ9 174 9).bind fun _ => (f_X9_rootOf σ9 174 (nI other)).bind fun (v14, σ13) => if v10 = v14 then (((xck σ13 174 9).bind fun _ => (f_X9_energyOf σ13 174 (nI (o i))).bind fun v17 => some (v17, σ13)).map .inr) else some (.inl (nI i + (1 : Int32), σ13)) else some (.inl (nI (i + 1), xw σ J')) := by
    unfold f_X9_meetingEnergy_j70
    rw [xw_ck, kC174 hS, Option.bind_some, we1, Option.bind_some]
    cases hw1 : wt o (i + 1) one with
    | false => simp [nI_succ]
    | true =>
      rw [if_pos rfl, if_neg (by decide), Option.bind_some, we2, Option.bind_some]
      cases hw2 : wt o (i + 1) other with
      | false => simp [nI_succ]
      | true => simp
  rw [st]
  by_cases hw : wt o (i + 1) one = true ∧ wt o (i + 1) other = true
  · rw [if_pos hw]
    obtain ⟨J1, e1, c1, u1⟩ := rootOf_ok hS (show i + 1 ≤ 1024 by omega) b1 hw.1
    obtain ⟨J2, e2, c2, u2⟩ := rootOf_ok hS (show i + 1 ≤ 1024 by omega) c1 hw.2
    have u : ∀ a k, ¬ (176 ≤ a ∧ a ≤ 182) → ¬ (a = 174 ∧ k = 9) → J2 a k = J a k := fun a k z1 z2 => by rw [u2 a k (by omega), u1 a k (by omega)]; exact b2 a k z1 z2
    have hR : RS J J2 g F o Q (i + 1) r := ⟨c2, u, b3, b4⟩
    refine ⟨J2, hR, ?_⟩
    obtain ⟨T, ρ, R, hJ, hU, -⟩ := c2
    have l1 := (hU _ (hU _ hw.1).2.2.2.2.2.2.1).1
    have l2 := (hU _ (hU _ hw.2).2.2.2.2.2.2.1).1
    have qe : (nI (r one) = nI (r other)) = (r one = r other) := nn_eq (by omega) (by omega)
    have en := tEn_ok (TC_c u hT) (gSt_pos (hO.2.2.1 i hi).2.1).2
    rw [xw_ck, kC174 hS, Option.bind_some, e1, Option.bind_some]
    dsimp only
    rw [xw_ck, kC174 hS, Option.bind_some, e2, Option.bind_some]
    dsimp only
    by_cases e : r one = r other
    · left
      refine ⟨(met_iff hR hw.1 hw.2).mp e, ?_⟩
      rw [if_pos (by rw [e]), xw_ck, kC174 hS, Option.bind_some, en, Option.bind_some]
      rfl
    · right
      refine ⟨fun z => e ((met_iff hR hw.1 hw.2).mpr z), ?_⟩
      rw [if_neg (by rw [qe]; exact e), nI_succ]
  · rw [if_neg hw]
    exact ⟨J', h, .inr ⟨fun z => hw ⟨z.1, z.2.1⟩, rfl⟩⟩
theorem met_M (hO : TO J g F M o) {one other : Nat} (h1 : lwS g F one) (h2 : lwS g F other) : met g F o Q M one other := by
  have hw : ∀ x, lwS g F x → wt o M x = true := fun x hl => wt_iff.mpr (hO.2.2.2.2 x hl.1 hl.2)
  exact ⟨hw _ h1, hw _ h2, cn_m (fun a b ⟨z1, z2, z3⟩ => ⟨hw a z1, hw b z2, .inl z3⟩) (cn_all h1 h2)⟩
/-- the loop, whatever the body does between the flood and the look -/
theorem meet_l (hT : TC σ J g F c m) (hO : TO J g F M o) {one other : Nat} {x3 : Int32} (h1 : lwS g F one) (h2 : lwS g F other)
    (hb : ∀ i J' r, i < M → RS J J' g F o Q i r → ∃ J2 r', f_X9_meetingEnergy_b7 174 (nI one) (nI other) x3 (nI i, xw σ J') = f_X9_meetingEnergy_j70 (xw σ J2) 174 (nI one) (nI other) x3 (nI i) (nI (o i)) ∧ RS J J2 g F o Q (i + 1) r') :
    ∃ i J', i < M ∧ f_X9_meetingEnergy (xw σ J) 174 (nI one) (nI other) x3 = some (iI (eE g (zR F) (o i)), xw σ J') ∧ met g F o Q (i + 1) one other ∧ ¬ met g F o Q i one other ∧ ∀ a k, ¬ (176 ≤ a ∧ a ≤ 182) → ¬ (a = 174 ∧ k = 9) → J' a k = J a k := by
  have hst := hT.st
  have hS := hT.1
  have hM := hO.1
  obtain ⟨J0, e0, d0, u0⟩ := dry_ok (σ := σ) (J := J) hS
  have key := xloop_run (f := f_X9_meetingEnergy_b7 174 (nI one) (nI other) x3) (fun k a => ∃ (i : Nat) (J' : Nat → Nat → Int32) (r : Nat → Nat), a = (nI i, xw σ J') ∧ k = M - i ∧ i ≤ M ∧ RS J J' g F o Q i r ∧ ¬ met g F o Q i one other) (fun b => ∃ (i : Nat) (J' : Nat → Nat → Int32), i < M ∧ b = (iI (eE g (zR F) (o i)), xw σ J') ∧ met g F o Q (i + 1) one other ∧ ¬ met g F o Q i one other ∧ ∀ a k, ¬ (176 ≤ a ∧ a ≤ 182) → ¬ (a = 174 ∧ k = 9) → J' a k = J a k) ?_ (M - 0) ((0 : Int32), xw σ J0) ⟨0, J0, fun x => x, rfl, rfl, Nat.zero_le _, ⟨d0, u0, fun x hw => absurd hw Bool.false_ne_true, fun x y hw => absurd hw Bool.false_ne_true⟩, fun z => absurd z.1 Bool.false_ne_true⟩
  · obtain ⟨b, e, i, J', i1, rfl, rest⟩ := key
    refine ⟨i, J', i1, ?_, rest⟩
    unfold f_X9_meetingEnergy
    rw [xw_ck, kC174 hS, Option.bind_some, e0, Option.bind_some]
    exact e
  · rintro k a ⟨i, J', r, rfl, rfl, hi, hR, hn⟩
    by_cases him : i = M
    · rw [him] at hn
      exact absurd (met_M hO h1 h2) hn
    · have hi' : i < M := by omega
      obtain ⟨J2, r', e2, R2⟩ := hb i J' r hi' hR
      obtain ⟨J3, R3, h3⟩ := j70_ok hT hO hi' R2 x3 (show one < 1024 by have := h1.1; omega) (show other < 1024 by have := h2.1; omega)
      rcases h3 with ⟨q1, q2⟩ | ⟨q1, q2⟩
      · left
        exact ⟨_, e2.trans q2, i, J3, hi', rfl, q1, hn, R3.2.1⟩
      · right
        exact ⟨M - (i + 1), _, by omega, e2.trans q2, i + 1, J3, r', rfl, rfl, by omega, R3, q1⟩
theorem meetP_ok (hT : TC σ J g F c m) (hO : TO J g F M o) {one other : Nat} (h1 : lwS g F one) (h2 : lwS g F other) :
    ∃ i J', i < M ∧ f_X9_meetingEnergy (xw σ J) 174 (nI one) (nI other) 0 = some (iI (eE g (zR F) (o i)), xw σ J') ∧ met g F o (fun x => x = other) (i + 1) one other ∧ ¬ met g F o (fun x => x = other) i one other ∧ ∀ a k, ¬ (176 ≤ a ∧ a ≤ 182) → ¬ (a = 174 ∧ k = 9) → J' a k = J a k := by
  refine meet_l hT hO h1 h2 (fun i J' r hi hR => ?_)
  have hM := hO.1
  have hS := hT.1
  obtain ⟨J2, r', e, a1, a2, a3, a4, a5⟩ := flood_s hT hO hi hR
  have v8 : J' 174 8 = nI M := by rw [hR.2.1 _ _ (by omega) (by omega)]; exact hO.2.1
  have v5 : J' 175 i = nI (o i) := by rw [hR.2.1 _ _ (by omega) (by omega)]; exact (hO.2.2.1 i hi).1
  refine ⟨J2, r', ?_, a1, a2, a3, fun x y hx1 hy1 hs => ?_⟩
  · have q1 : (nI M ≤ nI i) = False := by rw [nn_le (by omega) (by omega)]; exact eq_false (by omega)
    have q2 : ((1024 : Int32) ≤ nI i) = False := by rw [show (1024 : Int32) = nI 1024 from rfl, nn_le (by omega) (by omega)]; exact eq_false (by omega)
    have hi' : i < 1024 := by omega
    simp only [f_X9_meetingEnergy_b7]
    simp (disch := first | assumption | omega) only [Option.bind_some, Option.map_some, xw_gR, xw_gN, xw_al, xw_ck, xw_uI, xw_ur, xup_at, xur_at, if_true, if_false, reduceIte, and_true, true_and, and_false, false_and, not_true_eq_false, not_false_eq_true, Nat.reduceEqDiff, eq_self, Nat.reduceAdd, Nat.reduceMul, kC1, kG1, kP1, kR1_0, kR1_1, kR1_2, kR1_3, kR1_4, kR1_5, kR1_6, kR1_7, kR1_8, kR1_9, kR1_10, kR1_11, kR1_12, kR1_13, kC2, kG2, kP2, kR2_0, kR2_1, kC3, kG3, kP3, kR3_0, kR3_1, kR3_2, kR3_3, kL4, kA4, kS4, kL5, kA5, kS5, kL6, kA6, kS6, kL7, kA7, kS7, kC8, kG8, kP8, kR8_0, kR8_1, kL9, kA9, kS9, kL10, kA10, kS10, kC11, kG11, kP11, kR11_0, kR11_1, kR11_2, kR11_3, kL12, kA12, kS12, kL13, kA13, kS13, kL14, kA14, kS14, kL15, kA15, kS15, kC16, kG16, kP16, kR16_0, kR16_1, kL17, kA17, kS17, kL18, kA18, kS18, kC19, kG19, kP19, kR19_0, kL20, kL141, kL146, kA146, kS146, kL151, kA151, kS151, kL156, kA156, kS156, kC157, kG157, kP157, kR157_0, kR157_1, kL158, kA158, kS158, kL159, kA159, kS159, kC161, kG161, kP161, kR161_0, kR161_1, kL162, kA162, kS162, kL163, kA163, kS163, kC165, kG165, kP165, kR165_0, kR165_1, kR165_2, kR165_3, kL166, kA166, kS166, kL167, kA167, kS167, kL168, kA168, kS168, kL169, kA169, kS169, kC170, kG170, kP170, kR170_0, kR170_1, kR170_2, kL171, kA171, kS171, kL172, kA172, kS172, kL173, kA173, kS173, kC174, kG174, kP174, kR174_0, kR174_1, kR174_2, kR174_3, kR174_4, kL175, kA175, kS175, kL176, kA176, kS176, kL177, kA177, kS177, kL178, kA178, kS178, kL179, kC180, kG180, kP180, kL181, kL182, kA182, kS182, kC183, kG183, kP183, kR183_1, kR183_3, kR183_5, kR183_6, kR183_7, kR183_8, kR183_9, kR183_21, kR183_26, kR183_27, kR183_30, kR183_31, kR183_33, kR183_34, kR183_36, kR183_37, kR183_38, kR183_39, kR183_40, kR183_41, kR183_42, kR183_43, kR183_44, kL184, kA184, kS184, kL185, kA185, kS185, kL186, kA186, kS186, kL187, kA187, kS187, kL188, kA188, kS188, kL189, kL190, kL191, kA191, kS191, kL192, kA192, kS192, kL193, kA193, kS193, kL194, kA194, kS194, kL195, kA195, kS195, kL196, kA196, kS196, kL197, kA197, kS197, kL198, kA198, kS198, kL199, kA199, kS199, kL200, kA200, kS200, kL201, kL202, kA202, kS202, kL203, kA203, kS203, kL204, kA204, kS204, kL205, kL206, kA206, kS206, v8, q1, q2, v5, e]
  · rcases hs with z | ⟨z1, z2⟩
    · exact a5 x y hx1 hy1 z
    · rw [show x = other from z1, show y = other from z2]
theorem meetH_ok (hT : TC σ J g F c m) (hO : TO J g F M o) {one : Nat} (h1 : lwS g F one) (hM0 : 0 < M) :
    ∃ i J', i < M ∧ f_X9_meetingEnergy (xw σ J) 174 (nI one) (nI (o 0)) 1 = some (iI (eE g (zR F) (o i)), xw σ J') ∧ met g F o (fun x => eE g (zR F) x = eE g (zR F) (o 0)) (i + 1) one (o 0) ∧ ¬ met g F o (fun x => eE g (zR F) x = eE g (zR F) (o 0)) i one (o 0) ∧ ∀ a k, ¬ (176 ≤ a ∧ a ≤ 182) → ¬ (a = 174 ∧ k = 9) → J' a k = J a k := by
  refine meet_l hT hO h1 (hO.2.2.1 0 hM0).2 (fun i J' r hi hR => ?_)
  have hM := hO.1
  have hS := hT.1
  have hg := hT.2.1
  have ho := hT.2.2.1
  obtain ⟨J2, r', e, a1, a2, a3, a4, a5⟩ := flood_s hT hO hi hR
  have v8 : J' 174 8 = nI M := by rw [hR.2.1 _ _ (by omega) (by omega)]; exact hO.2.1
  have v5 : J' 175 i = nI (o i) := by rw [hR.2.1 _ _ (by omega) (by omega)]; exact (hO.2.2.1 i hi).1
  have v0 : J2 175 0 = nI (o 0) := by rw [a2 _ _ (by omega) (by omega)]; exact (hO.2.2.1 0 hM0).1
  have low : f_X9_lowest (xw σ J2) 174 = some (nI (o 0)) := by
    unfold f_X9_lowest
    have z0 : xaI (xw σ J2) 20 175 (0 : Int32) = some (J2 175 0) := kA175 hS (i := 0) (by decide)
    simp (disch := first | assumption | omega) only [Option.bind_some, Option.map_some, xw_gR, xw_gN, xw_al, xw_ck, xw_uI, xw_ur, xup_at, xur_at, if_true, if_false, reduceIte, and_true, true_and, and_false, false_and, not_true_eq_false, not_false_eq_true, Nat.reduceEqDiff, eq_self, Nat.reduceAdd, Nat.reduceMul, kC1, kG1, kP1, kR1_0, kR1_1, kR1_2, kR1_3, kR1_4, kR1_5, kR1_6, kR1_7, kR1_8, kR1_9, kR1_10, kR1_11, kR1_12, kR1_13, kC2, kG2, kP2, kR2_0, kR2_1, kC3, kG3, kP3, kR3_0, kR3_1, kR3_2, kR3_3, kL4, kA4, kS4, kL5, kA5, kS5, kL6, kA6, kS6, kL7, kA7, kS7, kC8, kG8, kP8, kR8_0, kR8_1, kL9, kA9, kS9, kL10, kA10, kS10, kC11, kG11, kP11, kR11_0, kR11_1, kR11_2, kR11_3, kL12, kA12, kS12, kL13, kA13, kS13, kL14, kA14, kS14, kL15, kA15, kS15, kC16, kG16, kP16, kR16_0, kR16_1, kL17, kA17, kS17, kL18, kA18, kS18, kC19, kG19, kP19, kR19_0, kL20, kL141, kL146, kA146, kS146, kL151, kA151, kS151, kL156, kA156, kS156, kC157, kG157, kP157, kR157_0, kR157_1, kL158, kA158, kS158, kL159, kA159, kS159, kC161, kG161, kP161, kR161_0, kR161_1, kL162, kA162, kS162, kL163, kA163, kS163, kC165, kG165, kP165, kR165_0, kR165_1, kR165_2, kR165_3, kL166, kA166, kS166, kL167, kA167, kS167, kL168, kA168, kS168, kL169, kA169, kS169, kC170, kG170, kP170, kR170_0, kR170_1, kR170_2, kL171, kA171, kS171, kL172, kA172, kS172, kL173, kA173, kS173, kC174, kG174, kP174, kR174_0, kR174_1, kR174_2, kR174_3, kR174_4, kL175, kA175, kS175, kL176, kA176, kS176, kL177, kA177, kS177, kL178, kA178, kS178, kL179, kC180, kG180, kP180, kL181, kL182, kA182, kS182, kC183, kG183, kP183, kR183_1, kR183_3, kR183_5, kR183_6, kR183_7, kR183_8, kR183_9, kR183_21, kR183_26, kR183_27, kR183_30, kR183_31, kR183_33, kR183_34, kR183_36, kR183_37, kR183_38, kR183_39, kR183_40, kR183_41, kR183_42, kR183_43, kR183_44, kL184, kA184, kS184, kL185, kA185, kS185, kL186, kA186, kS186, kL187, kA187, kS187, kL188, kA188, kS188, kL189, kL190, kL191, kA191, kS191, kL192, kA192, kS192, kL193, kA193, kS193, kL194, kA194, kS194, kL195, kA195, kS195, kL196, kA196, kS196, kL197, kA197, kS197, kL198, kA198, kS198, kL199, kA199, kS199, kL200, kA200, kS200, kL201, kL202, kA202, kS202, kL203, kA203, kS203, kL204, kA204, kS204, kL205, kL206, kA206, kS206, z0, v0]
  have en1 := tEn_ok (TC_c a2 hT) (gSt_pos (hO.2.2.1 i hi).2.1).2
  have en0 := tEn_ok (TC_c a2 hT) (gSt_pos (hO.2.2.1 0 hM0).2.1).2
  have b1 := eE_b hg ho (o i)
  have b0 := eE_b hg ho (o 0)
  have qe : (iI (eE g (zR F) (o i)) = iI (eE g (zR F) (o 0))) = (eE g (zR F) (o i) = eE g (zR F) (o 0)) := iI_eq (by omega) (by omega) (by omega) (by omega)
  have w0 : wt o (i + 1) (o 0) = true := wt_iff.mpr ⟨0, by omega, rfl⟩
  have wi : wt o (i + 1) (o i) = true := wt_iff.mpr ⟨i, by omega, rfl⟩
  have q1 : (nI M ≤ nI i) = False := by rw [nn_le (by omega) (by omega)]; exact eq_false (by omega)
  have q2 : ((1024 : Int32) ≤ nI i) = False := by rw [show (1024 : Int32) = nI 1024 from rfl, nn_le (by omega) (by omega)]; exact eq_false (by omega)
  have hi' : i < 1024 := by omega
  by_cases hq : eE g (zR F) (o i) = eE g (zR F) (o 0)
  · obtain ⟨J3, e3, c3, u3⟩ := join_ok hS (show i + 1 ≤ 1024 by omega) a1 wi w0
    refine ⟨J3, _, ?_, c3, fun a k z1 z2 => by rw [u3 a k (by omega) z2]; exact a2 a k z1 z2, snd_join sQ_y a3 wi w0 (.inr ⟨hq, rfl⟩), fun x y hx1 hy1 hs => ?_⟩
    · simp only [f_X9_meetingEnergy_b7]
      simp (disch := first | assumption | omega) only [Option.bind_some, Option.map_some, xw_gR, xw_gN, xw_al, xw_ck, xw_uI, xw_ur, xup_at, xur_at, if_true, if_false, reduceIte, and_true, true_and, and_false, false_and, not_true_eq_false, not_false_eq_true, Nat.reduceEqDiff, eq_self, Nat.reduceAdd, Nat.reduceMul, kC1, kG1, kP1, kR1_0, kR1_1, kR1_2, kR1_3, kR1_4, kR1_5, kR1_6, kR1_7, kR1_8, kR1_9, kR1_10, kR1_11, kR1_12, kR1_13, kC2, kG2, kP2, kR2_0, kR2_1, kC3, kG3, kP3, kR3_0, kR3_1, kR3_2, kR3_3, kL4, kA4, kS4, kL5, kA5, kS5, kL6, kA6, kS6, kL7, kA7, kS7, kC8, kG8, kP8, kR8_0, kR8_1, kL9, kA9, kS9, kL10, kA10, kS10, kC11, kG11, kP11, kR11_0, kR11_1, kR11_2, kR11_3, kL12, kA12, kS12, kL13, kA13, kS13, kL14, kA14, kS14, kL15, kA15, kS15, kC16, kG16, kP16, kR16_0, kR16_1, kL17, kA17, kS17, kL18, kA18, kS18, kC19, kG19, kP19, kR19_0, kL20, kL141, kL146, kA146, kS146, kL151, kA151, kS151, kL156, kA156, kS156, kC157, kG157, kP157, kR157_0, kR157_1, kL158, kA158, kS158, kL159, kA159, kS159, kC161, kG161, kP161, kR161_0, kR161_1, kL162, kA162, kS162, kL163, kA163, kS163, kC165, kG165, kP165, kR165_0, kR165_1, kR165_2, kR165_3, kL166, kA166, kS166, kL167, kA167, kS167, kL168, kA168, kS168, kL169, kA169, kS169, kC170, kG170, kP170, kR170_0, kR170_1, kR170_2, kL171, kA171, kS171, kL172, kA172, kS172, kL173, kA173, kS173, kC174, kG174, kP174, kR174_0, kR174_1, kR174_2, kR174_3, kR174_4, kL175, kA175, kS175, kL176, kA176, kS176, kL177, kA177, kS177, kL178, kA178, kS178, kL179, kC180, kG180, kP180, kL181, kL182, kA182, kS182, kC183, kG183, kP183, kR183_1, kR183_3, kR183_5, kR183_6, kR183_7, kR183_8, kR183_9, kR183_21, kR183_26, kR183_27, kR183_30, kR183_31, kR183_33, kR183_34, kR183_36, kR183_37, kR183_38, kR183_39, kR183_40, kR183_41, kR183_42, kR183_43, kR183_44, kL184, kA184, kS184, kL185, kA185, kS185, kL186, kA186, kS186, kL187, kA187, kS187, kL188, kA188, kS188, kL189, kL190, kL191, kA191, kS191, kL192, kA192, kS192, kL193, kA193, kS193, kL194, kA194, kS194, kL195, kA195, kS195, kL196, kA196, kS196, kL197, kA197, kS197, kL198, kA198, kS198, kL199, kA199, kS199, kL200, kA200, kS200, kL201, kL202, kA202, kS202, kL203, kA203, kS203, kL204, kA204, kS204, kL205, kL206, kA206, kS206, v8, q1, q2, v5, e, one0, en1, low, en0, qe, hq, e3]
    · show (if r' x = r' (o i) then r' (o 0) else r' x) = (if r' y = r' (o i) then r' (o 0) else r' y)
      have gr : ∀ x, wt o (i + 1) x = true → eE g (zR F) x = eE g (zR F) (o 0) → (if r' x = r' (o i) then r' (o 0) else r' x) = r' (o 0) := by
        intro x hx1 hxe
        rcases wA_iff.mp (show wA (wt o i) (o i) x = true from hx1) with z | z
        · have w00 : wt o i (o 0) = true := by
            obtain ⟨j, j1, j2⟩ := wt_iff.mp z
            exact wt_iff.mpr ⟨0, by omega, rfl⟩
          rw [a4 x (o 0) z w00 (.inr ⟨hxe, rfl⟩)]
          split <;> rfl
        · rw [← z, if_pos rfl]
      rcases hs with z | ⟨z1, z2⟩
      · rw [a5 x y hx1 hy1 z]
      · rw [gr x hx1 z1, gr y hy1 z2]
  · refine ⟨J2, r', ?_, a1, a2, a3, fun x y hx1 hy1 hs => ?_⟩
    · simp only [f_X9_meetingEnergy_b7]
      simp (disch := first | assumption | omega) only [Option.bind_some, Option.map_some, xw_gR, xw_gN, xw_al, xw_ck, xw_uI, xw_ur, xup_at, xur_at, if_true, if_false, reduceIte, and_true, true_and, and_false, false_and, not_true_eq_false, not_false_eq_true, Nat.reduceEqDiff, eq_self, Nat.reduceAdd, Nat.reduceMul, kC1, kG1, kP1, kR1_0, kR1_1, kR1_2, kR1_3, kR1_4, kR1_5, kR1_6, kR1_7, kR1_8, kR1_9, kR1_10, kR1_11, kR1_12, kR1_13, kC2, kG2, kP2, kR2_0, kR2_1, kC3, kG3, kP3, kR3_0, kR3_1, kR3_2, kR3_3, kL4, kA4, kS4, kL5, kA5, kS5, kL6, kA6, kS6, kL7, kA7, kS7, kC8, kG8, kP8, kR8_0, kR8_1, kL9, kA9, kS9, kL10, kA10, kS10, kC11, kG11, kP11, kR11_0, kR11_1, kR11_2, kR11_3, kL12, kA12, kS12, kL13, kA13, kS13, kL14, kA14, kS14, kL15, kA15, kS15, kC16, kG16, kP16, kR16_0, kR16_1, kL17, kA17, kS17, kL18, kA18, kS18, kC19, kG19, kP19, kR19_0, kL20, kL141, kL146, kA146, kS146, kL151, kA151, kS151, kL156, kA156, kS156, kC157, kG157, kP157, kR157_0, kR157_1, kL158, kA158, kS158, kL159, kA159, kS159, kC161, kG161, kP161, kR161_0, kR161_1, kL162, kA162, kS162, kL163, kA163, kS163, kC165, kG165, kP165, kR165_0, kR165_1, kR165_2, kR165_3, kL166, kA166, kS166, kL167, kA167, kS167, kL168, kA168, kS168, kL169, kA169, kS169, kC170, kG170, kP170, kR170_0, kR170_1, kR170_2, kL171, kA171, kS171, kL172, kA172, kS172, kL173, kA173, kS173, kC174, kG174, kP174, kR174_0, kR174_1, kR174_2, kR174_3, kR174_4, kL175, kA175, kS175, kL176, kA176, kS176, kL177, kA177, kS177, kL178, kA178, kS178, kL179, kC180, kG180, kP180, kL181, kL182, kA182, kS182, kC183, kG183, kP183, kR183_1, kR183_3, kR183_5, kR183_6, kR183_7, kR183_8, kR183_9, kR183_21, kR183_26, kR183_27, kR183_30, kR183_31, kR183_33, kR183_34, kR183_36, kR183_37, kR183_38, kR183_39, kR183_40, kR183_41, kR183_42, kR183_43, kR183_44, kL184, kA184, kS184, kL185, kA185, kS185, kL186, kA186, kS186, kL187, kA187, kS187, kL188, kA188, kS188, kL189, kL190, kL191, kA191, kS191, kL192, kA192, kS192, kL193, kA193, kS193, kL194, kA194, kS194, kL195, kA195, kS195, kL196, kA196, kS196, kL197, kA197, kS197, kL198, kA198, kS198, kL199, kA199, kS199, kL200, kA200, kS200, kL201, kL202, kA202, kS202, kL203, kA203, kS203, kL204, kA204, kS204, kL205, kL206, kA206, kS206, v8, q1, q2, v5, e, one0, en1, low, en0, qe, hq]
    · rcases hs with z | ⟨z1, z2⟩
      · exact a5 x y hx1 hy1 z
      · have old : ∀ x, wt o (i + 1) x = true → eE g (zR F) x = eE g (zR F) (o 0) → wt o i x = true := fun x hx1 hxe => by
          rcases wA_iff.mp (show wA (wt o i) (o i) x = true from hx1) with z | z
          · exact z
          · rw [← z] at hxe; exact absurd hxe hq
        exact a4 x y (old x hx1 z1) (old y hy1 z2) (.inr ⟨z1, z2⟩)
/-- the lakes below an energy -/
theorem lakesBelow_ok (hT : TC σ J g F c m) (hO : TO J g F M o) (x : Int32) : ∃ J' r w, f_X9_lakesBelow (xw σ J) 174 x = some (nI (rc w r), xw σ J') ∧ (∀ a k, ¬ (176 ≤ a ∧ a ≤ 182) → ¬ (a = 174 ∧ k = 9) → J' a k = J a k) ∧ (∀ s, w s = true ↔ lwS g F s ∧ eE g (zR F) s ≤ x.toInt) ∧ (∀ s, w s = true → s < 1024 ∧ w (r s) = true) ∧ (∀ a b, w a = true → w b = true → (r a = r b ↔ cn (Sw w (aj g F)) a b)) ∧ ∀ s, w s = true → r (r s) = r s := by
  have hst := hT.st
  have hS := hT.1
  have hM := hO.1
  have hg := hT.2.1
  have ho := hT.2.2.1
  obtain ⟨J0, e0, d0, u0⟩ := dry_ok (σ := σ) (J := J) hS
  have fin : ∀ i J' r, i ≤ M → RS J J' g F o (fun _ => False) i r → (∀ j, j < i → eE g (zR F) (o j) ≤ x.toInt) → (∀ j, i ≤ j → j < M → ¬ eE g (zR F) (o j) ≤ x.toInt) → ∃ r w, J' 174 9 = nI (rc w r) ∧ (∀ a k, ¬ (176 ≤ a ∧ a ≤ 182) → ¬ (a = 174 ∧ k = 9) → J' a k = J a k) ∧ (∀ s, w s = true ↔ lwS g F s ∧ eE g (zR F) s ≤ x.toInt) ∧ (∀ s, w s = true → s < 1024 ∧ w (r s) = true) ∧ (∀ a b, w a = true → w b = true → (r a = r b ↔ cn (Sw w (aj g F)) a b)) ∧ ∀ s, w s = true → r (r s) = r s := by
    intro i J' r hi hR hlo hhi
    have hR' := hR
    obtain ⟨⟨T, ρ, R, hJ, hU, -, h9⟩, u, sd, cp⟩ := hR'
    refine ⟨r, wt o i, h9, u, fun s => ?_, fun s hw => ⟨(hU s hw).1, (hU s hw).2.2.2.2.2.2.1⟩, fun a b ha hb => ?_, fun s hw => ?_⟩
    · rw [wt_iff]
      constructor
      · rintro ⟨j, j1, rfl⟩
        exact ⟨(hO.2.2.1 j (by omega)).2, hlo j j1⟩
      · rintro ⟨l1, l2⟩
        obtain ⟨j, j1, rfl⟩ := hO.2.2.2.2 s l1.1 l1.2
        refine ⟨j, ?_, rfl⟩
        apply Classical.byContradiction
        intro z
        exact hhi j (by omega) j1 l2
    · rw [met_iff hR ha hb]
      constructor
      · rintro ⟨-, -, q⟩
        exact cn_m (fun p q ⟨s1, s2, s3⟩ => ⟨s1, s2, s3.elim id (fun z => z.1.elim)⟩) q
      · intro q
        exact ⟨ha, hb, cn_m (fun p q ⟨s1, s2, s3⟩ => ⟨s1, s2, .inl s3⟩) q⟩
    · obtain ⟨x1, x2, x3, x4, x5, x6, x7, x8⟩ := hU s hw
      exact (hU _ x7).2.2.2.2.1 x8
  have key := xloop_run (f := f_X9_lakesBelow_b6 174 x) (fun k a => ∃ (i : Nat) (J' : Nat → Nat → Int32) (r : Nat → Nat), a = (nI i, xw σ J') ∧ k = M - i ∧ i ≤ M ∧ RS J J' g F o (fun _ => False) i r ∧ ∀ j, j < i → eE g (zR F) (o j) ≤ x.toInt) (fun b => ∃ (J' : Nat → Nat → Int32) (r : Nat → Nat) (w : Nat → Bool), b = (nI (rc w r), xw σ J') ∧ (∀ a k, ¬ (176 ≤ a ∧ a ≤ 182) → ¬ (a = 174 ∧ k = 9) → J' a k = J a k) ∧ (∀ s, w s = true ↔ lwS g F s ∧ eE g (zR F) s ≤ x.toInt) ∧ (∀ s, w s = true → s < 1024 ∧ w (r s) = true) ∧ (∀ a b, w a = true → w b = true → (r a = r b ↔ cn (Sw w (aj g F)) a b)) ∧ ∀ s, w s = true → r (r s) = r s) ?_ (M - 0) ((0 : Int32), xw σ J0) ⟨0, J0, fun x => x, rfl, rfl, Nat.zero_le _, ⟨d0, u0, fun x hw => absurd hw Bool.false_ne_true, fun x y hw => absurd hw Bool.false_ne_true⟩, fun j hj => absurd hj (Nat.not_lt_zero _)⟩
  · obtain ⟨b, e, J', r, w, rfl, rest⟩ := key
    refine ⟨J', r, w, ?_, rest⟩
    unfold f_X9_lakesBelow
    rw [xw_ck, kC174 hS, Option.bind_some, e0, Option.bind_some]
    exact e
  · rintro k a ⟨i, J', r, rfl, rfl, hi, hR, hlo⟩
    have v8 : J' 174 8 = nI M := by rw [hR.2.1 _ _ (by omega) (by omega)]; exact hO.2.1
    by_cases him : i = M
    · left
      obtain ⟨r2, w2, h9, rest⟩ := fin i J' r hi hR hlo (fun j z1 z2 => by omega)
      refine ⟨_, ?_, J', r2, w2, rfl, rest⟩
      simp only [f_X9_lakesBelow_b6]
      have q1 : (nI M ≤ nI i) = True := by rw [nn_le (by omega) (by omega)]; exact eq_true (by omega)
      simp (disch := first | assumption | omega) only [Option.bind_some, Option.map_some, xw_gR, xw_gN, xw_al, xw_ck, xw_uI, xw_ur, xup_at, xur_at, if_true, if_false, reduceIte, and_true, true_and, and_false, false_and, not_true_eq_false, not_false_eq_true, Nat.reduceEqDiff, eq_self, Nat.reduceAdd, Nat.reduceMul, kC1, kG1, kP1, kR1_0, kR1_1, kR1_2, kR1_3, kR1_4, kR1_5, kR1_6, kR1_7, kR1_8, kR1_9, kR1_10, kR1_11, kR1_12, kR1_13, kC2, kG2, kP2, kR2_0, kR2_1, kC3, kG3, kP3, kR3_0, kR3_1, kR3_2, kR3_3, kL4, kA4, kS4, kL5, kA5, kS5, kL6, kA6, kS6, kL7, kA7, kS7, kC8, kG8, kP8, kR8_0, kR8_1, kL9, kA9, kS9, kL10, kA10, kS10, kC11, kG11, kP11, kR11_0, kR11_1, kR11_2, kR11_3, kL12, kA12, kS12, kL13, kA13, kS13, kL14, kA14, kS14, kL15, kA15, kS15, kC16, kG16, kP16, kR16_0, kR16_1, kL17, kA17, kS17, kL18, kA18, kS18, kC19, kG19, kP19, kR19_0, kL20, kL141, kL146, kA146, kS146, kL151, kA151, kS151, kL156, kA156, kS156, kC157, kG157, kP157, kR157_0, kR157_1, kL158, kA158, kS158, kL159, kA159, kS159, kC161, kG161, kP161, kR161_0, kR161_1, kL162, kA162, kS162, kL163, kA163, kS163, kC165, kG165, kP165, kR165_0, kR165_1, kR165_2, kR165_3, kL166, kA166, kS166, kL167, kA167, kS167, kL168, kA168, kS168, kL169, kA169, kS169, kC170, kG170, kP170, kR170_0, kR170_1, kR170_2, kL171, kA171, kS171, kL172, kA172, kS172, kL173, kA173, kS173, kC174, kG174, kP174, kR174_0, kR174_1, kR174_2, kR174_3, kR174_4, kL175, kA175, kS175, kL176, kA176, kS176, kL177, kA177, kS177, kL178, kA178, kS178, kL179, kC180, kG180, kP180, kL181, kL182, kA182, kS182, kC183, kG183, kP183, kR183_1, kR183_3, kR183_5, kR183_6, kR183_7, kR183_8, kR183_9, kR183_21, kR183_26, kR183_27, kR183_30, kR183_31, kR183_33, kR183_34, kR183_36, kR183_37, kR183_38, kR183_39, kR183_40, kR183_41, kR183_42, kR183_43, kR183_44, kL184, kA184, kS184, kL185, kA185, kS185, kL186, kA186, kS186, kL187, kA187, kS187, kL188, kA188, kS188, kL189, kL190, kL191, kA191, kS191, kL192, kA192, kS192, kL193, kA193, kS193, kL194, kA194, kS194, kL195, kA195, kS195, kL196, kA196, kS196, kL197, kA197, kS197, kL198, kA198, kS198, kL199, kA199, kS199, kL200, kA200, kS200, kL201, kL202, kA202, kS202, kL203, kA203, kS203, kL204, kA204, kS204, kL205, kL206, kA206, kS206, v8, q1, h9]
    · have hi' : i < M := by omega
      have hi2 : i < 1024 := by omega
      have v5 : J' 175 i = nI (o i) := by rw [hR.2.1 _ _ (by omega) (by omega)]; exact (hO.2.2.1 i hi').1
      have en := tEn_ok (TC_c hR.2.1 hT) (gSt_pos (hO.2.2.1 i hi').2.1).2
      have bb := eE_b hg ho (o i)
      have q1 : (nI M ≤ nI i) = False := by rw [nn_le (by omega) (by omega)]; exact eq_false (by omega)
      have q2 : ((1024 : Int32) ≤ nI i) = False := by rw [show (1024 : Int32) = nI 1024 from rfl, nn_le (by omega) (by omega)]; exact eq_false (by omega)
      have q3 : (x < iI (eE g (zR F) (o i))) = (x.toInt < eE g (zR F) (o i)) := by rw [fa_lt, iI_ti (by omega) (by omega)]
      by_cases hlt : x.toInt < eE g (zR F) (o i)
      · left
        obtain ⟨r2, w2, h9, rest⟩ := fin i J' r hi hR hlo (fun j z1 z2 z3 => by
          by_cases z : j = i
          · rw [z] at z3; omega
          · have := (hO.2.2.2.1 i j (by omega) z2).1
            omega)
        refine ⟨_, ?_, J', r2, w2, rfl, rest⟩
        simp only [f_X9_lakesBelow_b6]
        simp (disch := first | assumption | omega) only [Option.bind_some, Option.map_some, xw_gR, xw_gN, xw_al, xw_ck, xw_uI, xw_ur, xup_at, xur_at, if_true, if_false, reduceIte, and_true, true_and, and_false, false_and, not_true_eq_false, not_false_eq_true, Nat.reduceEqDiff, eq_self, Nat.reduceAdd, Nat.reduceMul, kC1, kG1, kP1, kR1_0, kR1_1, kR1_2, kR1_3, kR1_4, kR1_5, kR1_6, kR1_7, kR1_8, kR1_9, kR1_10, kR1_11, kR1_12, kR1_13, kC2, kG2, kP2, kR2_0, kR2_1, kC3, kG3, kP3, kR3_0, kR3_1, kR3_2, kR3_3, kL4, kA4, kS4, kL5, kA5, kS5, kL6, kA6, kS6, kL7, kA7, kS7, kC8, kG8, kP8, kR8_0, kR8_1, kL9, kA9, kS9, kL10, kA10, kS10, kC11, kG11, kP11, kR11_0, kR11_1, kR11_2, kR11_3, kL12, kA12, kS12, kL13, kA13, kS13, kL14, kA14, kS14, kL15, kA15, kS15, kC16, kG16, kP16, kR16_0, kR16_1, kL17, kA17, kS17, kL18, kA18, kS18, kC19, kG19, kP19, kR19_0, kL20, kL141, kL146, kA146, kS146, kL151, kA151, kS151, kL156, kA156, kS156, kC157, kG157, kP157, kR157_0, kR157_1, kL158, kA158, kS158, kL159, kA159, kS159, kC161, kG161, kP161, kR161_0, kR161_1, kL162, kA162, kS162, kL163, kA163, kS163, kC165, kG165, kP165, kR165_0, kR165_1, kR165_2, kR165_3, kL166, kA166, kS166, kL167, kA167, kS167, kL168, kA168, kS168, kL169, kA169, kS169, kC170, kG170, kP170, kR170_0, kR170_1, kR170_2, kL171, kA171, kS171, kL172, kA172, kS172, kL173, kA173, kS173, kC174, kG174, kP174, kR174_0, kR174_1, kR174_2, kR174_3, kR174_4, kL175, kA175, kS175, kL176, kA176, kS176, kL177, kA177, kS177, kL178, kA178, kS178, kL179, kC180, kG180, kP180, kL181, kL182, kA182, kS182, kC183, kG183, kP183, kR183_1, kR183_3, kR183_5, kR183_6, kR183_7, kR183_8, kR183_9, kR183_21, kR183_26, kR183_27, kR183_30, kR183_31, kR183_33, kR183_34, kR183_36, kR183_37, kR183_38, kR183_39, kR183_40, kR183_41, kR183_42, kR183_43, kR183_44, kL184, kA184, kS184, kL185, kA185, kS185, kL186, kA186, kS186, kL187, kA187, kS187, kL188, kA188, kS188, kL189, kL190, kL191, kA191, kS191, kL192, kA192, kS192, kL193, kA193, kS193, kL194, kA194, kS194, kL195, kA195, kS195, kL196, kA196, kS196, kL197, kA197, kS197, kL198, kA198, kS198, kL199, kA199, kS199, kL200, kA200, kS200, kL201, kL202, kA202, kS202, kL203, kA203, kS203, kL204, kA204, kS204, kL205, kL206, kA206, kS206, v8, q1, q2, v5, en, q3, hlt, h9]
      · right
        obtain ⟨J2, r', e, a1, a2, a3, a4, a5⟩ := flood_s hT hO hi' hR
        refine ⟨M - (i + 1), (nI (i + 1), xw σ J2), by omega, ?_, i + 1, J2, r', rfl, rfl, by omega, ⟨a1, a2, a3, fun p q z1 z2 z3 => a5 p q z1 z2 (z3.elim id (fun z => z.1.elim))⟩, fun j hj => ?_⟩
        · simp only [f_X9_lakesBelow_b6]
          simp (disch := first | assumption | omega) only [Option.bind_some, Option.map_some, xw_gR, xw_gN, xw_al, xw_ck, xw_uI, xw_ur, xup_at, xur_at, if_true, if_false, reduceIte, and_true, true_and, and_false, false_and, not_true_eq_false, not_false_eq_true, Nat.reduceEqDiff, eq_self, Nat.reduceAdd, Nat.reduceMul, kC1, kG1, kP1, kR1_0, kR1_1, kR1_2, kR1_3, kR1_4, kR1_5, kR1_6, kR1_7, kR1_8, kR1_9, kR1_10, kR1_11, kR1_12, kR1_13, kC2, kG2, kP2, kR2_0, kR2_1, kC3, kG3, kP3, kR3_0, kR3_1, kR3_2, kR3_3, kL4, kA4, kS4, kL5, kA5, kS5, kL6, kA6, kS6, kL7, kA7, kS7, kC8, kG8, kP8, kR8_0, kR8_1, kL9, kA9, kS9, kL10, kA10, kS10, kC11, kG11, kP11, kR11_0, kR11_1, kR11_2, kR11_3, kL12, kA12, kS12, kL13, kA13, kS13, kL14, kA14, kS14, kL15, kA15, kS15, kC16, kG16, kP16, kR16_0, kR16_1, kL17, kA17, kS17, kL18, kA18, kS18, kC19, kG19, kP19, kR19_0, kL20, kL141, kL146, kA146, kS146, kL151, kA151, kS151, kL156, kA156, kS156, kC157, kG157, kP157, kR157_0, kR157_1, kL158, kA158, kS158, kL159, kA159, kS159, kC161, kG161, kP161, kR161_0, kR161_1, kL162, kA162, kS162, kL163, kA163, kS163, kC165, kG165, kP165, kR165_0, kR165_1, kR165_2, kR165_3, kL166, kA166, kS166, kL167, kA167, kS167, kL168, kA168, kS168, kL169, kA169, kS169, kC170, kG170, kP170, kR170_0, kR170_1, kR170_2, kL171, kA171, kS171, kL172, kA172, kS172, kL173, kA173, kS173, kC174, kG174, kP174, kR174_0, kR174_1, kR174_2, kR174_3, kR174_4, kL175, kA175, kS175, kL176, kA176, kS176, kL177, kA177, kS177, kL178, kA178, kS178, kL179, kC180, kG180, kP180, kL181, kL182, kA182, kS182, kC183, kG183, kP183, kR183_1, kR183_3, kR183_5, kR183_6, kR183_7, kR183_8, kR183_9, kR183_21, kR183_26, kR183_27, kR183_30, kR183_31, kR183_33, kR183_34, kR183_36, kR183_37, kR183_38, kR183_39, kR183_40, kR183_41, kR183_42, kR183_43, kR183_44, kL184, kA184, kS184, kL185, kA185, kS185, kL186, kA186, kS186, kL187, kA187, kS187, kL188, kA188, kS188, kL189, kL190, kL191, kA191, kS191, kL192, kA192, kS192, kL193, kA193, kS193, kL194, kA194, kS194, kL195, kA195, kS195, kL196, kA196, kS196, kL197, kA197, kS197, kL198, kA198, kS198, kL199, kA199, kS199, kL200, kA200, kS200, kL201, kL202, kA202, kS202, kL203, kA203, kS203, kL204, kA204, kS204, kL205, kL206, kA206, kS206, v8, q1, q2, v5, en, q3, hlt, e]
          rw [nI_succ]
        · by_cases z : j = i
          · rw [z]; omega
          · exact hlo j (by omega)
end MEET
end
section
/-! the model's hills -/
def mnH (h : Nat → Int) (x : Nat) : Nat → Int
  | 0 => 100000
  | i + 1 => if mnH h x i ≤ h (x ^^^ 2 ^ i) then mnH h x i else h (x ^^^ 2 ^ i)
theorem mnH_le (h : Nat → Int) (x : Nat) : ∀ k, mnH h x k ≤ 100000 ∧ ∀ i, i < k → mnH h x k ≤ h (x ^^^ 2 ^ i)
  | 0 => ⟨Int.le_refl _, fun i hi => absurd hi (Nat.not_lt_zero _)⟩
  | k + 1 => by
    have ih := mnH_le h x k
    rw [mnH]
    split
    · next q =>
      refine ⟨ih.1, fun i hi => ?_⟩
      by_cases z : i = k
      · rw [z]; exact q
      · exact ih.2 i (by omega)
    · next q =>
      refine ⟨by omega, fun i hi => ?_⟩
      by_cases z : i = k
      · rw [z]; exact Int.le_refl _
      · have := ih.2 i (by omega)
        omega
theorem mnH_at (h : Nat → Int) (x : Nat) : ∀ k, mnH h x k = 100000 ∨ ∃ i, i < k ∧ mnH h x k = h (x ^^^ 2 ^ i)
  | 0 => .inl rfl
  | k + 1 => by
    rw [mnH]
    split
    · rcases mnH_at h x k with z | ⟨i, h1, h2⟩
      · exact .inl z
      · exact .inr ⟨i, by omega, h2⟩
    · exact .inr ⟨k, by omega, rfl⟩
/-- within an energy -/
def Se (g : GD) (F : Nat → Int32) (e : Int) (a b : Nat) : Prop := (lwS g F a ∧ eE g (zR F) a ≤ e) ∧ (lwS g F b ∧ eE g (zR F) b ≤ e) ∧ aj g F a b
def HI (g : GD) (F : Nat → Int32) (Q : Nat → Prop) (h : Nat → Int) : Prop := (∀ x, x < gSt g → lW g F x = false → h x = 100000) ∧ (∀ x, x < gSt g → h x = 100000 ∨ (h x ≤ 144 ∧ eE g (zR F) x ≤ h x ∧ ∃ q, Q q ∧ cn (Se g F (h x)) q x)) ∧ ∀ q, Q q → lwS g F q ∧ h q ≤ eE g (zR F) q
def mxH (g : GD) (F : Nat → Int32) (h : Nat → Int) (x : Nat) : Int := max (eE g (zR F) x) (mnH h x (gSz g))
section HILLS
variable {σ : XS} {J : Nat → Nat → Int32} {g : GD} {F : Nat → Int32} {Q : Nat → Prop} {h : Nat → Int}
theorem HI_b (hg : g ∈ gAll) (ho : RO g F) (hI : HI g F Q h) {x : Nat} (hx1 : x < gSt g) : -144 ≤ h x ∧ h x ≤ 100000 := by
  have := eE_b hg ho x
  rcases hI.2.1 x hx1 with z | ⟨z1, z2, -⟩ <;> omega
theorem HI_up (hg : g ∈ gAll) (ho : RO g F) (hI : HI g F Q h) {x : Nat} (hl : lwS g F x) (hlt : mxH g F h x < h x) : HI g F Q (fun y => if y = x then mxH g F h x else h y) := by
  obtain ⟨h1, h2, h3⟩ := hI
  have hb := eE_b hg ho x
  have hub := (HI_b hg ho ⟨h1, h2, h3⟩ hl.1).2
  refine ⟨fun y hy hn => ?_, fun y hy => ?_, fun q hq => ⟨(h3 q hq).1, ?_⟩⟩
  · show (if y = x then mxH g F h x else h y) = 100000
    by_cases z : y = x
    · rw [z, hl.2] at hn; cases hn
    · rw [if_neg z]; exact h1 y hy hn
  · show (if y = x then mxH g F h x else h y) = 100000 ∨ ((if y = x then mxH g F h x else h y) ≤ 144 ∧ eE g (zR F) y ≤ (if y = x then mxH g F h x else h y) ∧ ∃ q, Q q ∧ cn (Se g F (if y = x then mxH g F h x else h y)) q y)
    by_cases z : y = x
    · rw [if_pos z, z]
      right
      rcases mnH_at h x (gSz g) with w | ⟨i, i1, i2⟩
      · unfold mxH at hlt
        omega
      · have hf := gSt_flip hl.1 i1
        rcases h2 _ hf with v | ⟨v1, v2, q, q1, q2⟩
        · unfold mxH at hlt
          omega
        · have hly : lW g F (x ^^^ 2 ^ i) = true := by
            cases e : lW g F (x ^^^ 2 ^ i) with
            | true => rfl
            | false =>
              have := h1 _ hf e
              omega
          have hp : F (48 + i) = 0 := by
            rw [lW_flip i1 hl.2] at hly
            exact of_decide_eq_true hly
          have m1 : h (x ^^^ 2 ^ i) ≤ mxH g F h x := by unfold mxH; omega
          have m2 : eE g (zR F) x ≤ mxH g F h x := by unfold mxH; omega
          have m3 : mxH g F h x ≤ 144 := by unfold mxH; omega
          refine ⟨m3, m2, q, q1, cn_s (cn_m (fun a b ⟨⟨a1, a2⟩, ⟨b1, b2⟩, c⟩ => ⟨⟨a1, by omega⟩, ⟨b1, by omega⟩, c⟩) q2) ⟨⟨⟨hf, hly⟩, by omega⟩, ⟨hl, m2⟩, i, i1, hp, (xor2 x i).symm⟩⟩
    · rw [if_neg z]; exact h2 y hy
  · show (if q = x then mxH g F h x else h q) ≤ _
    by_cases z : q = x
    · rw [if_pos z, z]
      have := (h3 q hq).2
      rw [z] at this
      omega
    · rw [if_neg z]; exact (h3 q hq).2
def HX (J : Nat → Nat → Int32) (g : GD) (F : Nat → Int32) (Q : Nat → Prop) (h : Nat → Int) : Prop := GRD J g ∧ KNK J g F ∧ (∀ x, x < gSt g → J 202 x = iI (h x)) ∧ HI g F Q h
theorem hills_x (hS : Shp σ) (ho : RO g F) (h10 : gSt g ≤ 1024) (hX : HX J g F Q h) {x : Nat} (hl : lwS g F x) (mo : Int32) :
    xloop (f_X12_laysHills_b40 (xw σ J) 183 mo (nI x)) ((100000 : Int32), (0 : Int32)) = some (if mxH g F h x < h x then .inl ((1 : Int32), nI (x + 1), xw σ (xup J 202 x (iI (mxH g F h x)))) else .inl (mo, nI (x + 1), xw σ J)) := by
  obtain ⟨hG, hK, hv, hI⟩ := hX
  have hg := hG.1
  have h16 := (gAll_b g hg).2.2.1
  have hb := eE_b hg ho x
  have hk := hK.1 x hl.1
  rw [hl.2, if_pos rfl] at hk
  have mb : ∀ k, k ≤ gSz g → -144 ≤ mnH h x k ∧ mnH h x k ≤ 100000 := fun k hk => by
    refine ⟨?_, (mnH_le h x k).1⟩
    rcases mnH_at h x k with z | ⟨i, i1, i2⟩
    · omega
    · have := (HI_b hg ho hI (gSt_flip hl.1 (show i < gSz g by omega))).1
      omega
  have hxb := HI_b hg ho hI hl.1
  have x24 : x < 1024 := by have := hl.1; omega
  refine xforE (fun i : Nat => (iI (mnH h x i), nI i)) (gSz g) rfl (fun i hi => ?_) ?_
  · have hf := gSt_flip hl.1 hi
    have f24 : x ^^^ 2 ^ i < 1024 := by omega
    have hfb := HI_b hg ho hI hf
    have hmb := mb i (by omega)
    have q : (iI (mnH h x i) ≤ iI (h (x ^^^ 2 ^ i))) = (mnH h x i ≤ h (x ^^^ 2 ^ i)) := iI_le (by omega) (by omega) (by omega) (by omega)
    simp only [f_X12_laysHills_b40]
    simp (disch := first | assumption | omega) only [Option.bind_some, Option.map_some, xw_gR, xw_gN, xw_al, xw_ck, xw_uI, xw_ur, xup_at, xur_at, if_true, if_false, reduceIte, and_true, true_and, and_false, false_and, not_true_eq_false, not_false_eq_true, Nat.reduceEqDiff, eq_self, Nat.reduceAdd, Nat.reduceMul, kC1, kG1, kP1, kR1_0, kR1_1, kR1_2, kR1_3, kR1_4, kR1_5, kR1_6, kR1_7, kR1_8, kR1_9, kR1_10, kR1_11, kR1_12, kR1_13, kC2, kG2, kP2, kR2_0, kR2_1, kC3, kG3, kP3, kR3_0, kR3_1, kR3_2, kR3_3, kL4, kA4, kS4, kL5, kA5, kS5, kL6, kA6, kS6, kL7, kA7, kS7, kC8, kG8, kP8, kR8_0, kR8_1, kL9, kA9, kS9, kL10, kA10, kS10, kC11, kG11, kP11, kR11_0, kR11_1, kR11_2, kR11_3, kL12, kA12, kS12, kL13, kA13, kS13, kL14, kA14, kS14, kL15, kA15, kS15, kC16, kG16, kP16, kR16_0, kR16_1, kL17, kA17, kS17, kL18, kA18, kS18, kC19, kG19, kP19, kR19_0, kL20, kL141, kL146, kA146, kS146, kL151, kA151, kS151, kL156, kA156, kS156, kC157, kG157, kP157, kR157_0, kR157_1, kL158, kA158, kS158, kL159, kA159, kS159, kC161, kG161, kP161, kR161_0, kR161_1, kL162, kA162, kS162, kL163, kA163, kS163, kC165, kG165, kP165, kR165_0, kR165_1, kR165_2, kR165_3, kL166, kA166, kS166, kL167, kA167, kS167, kL168, kA168, kS168, kL169, kA169, kS169, kC170, kG170, kP170, kR170_0, kR170_1, kR170_2, kL171, kA171, kS171, kL172, kA172, kS172, kL173, kA173, kS173, kC174, kG174, kP174, kR174_0, kR174_1, kR174_2, kR174_3, kR174_4, kL175, kA175, kS175, kL176, kA176, kS176, kL177, kA177, kS177, kL178, kA178, kS178, kL179, kC180, kG180, kP180, kL181, kL182, kA182, kS182, kC183, kG183, kP183, kR183_1, kR183_3, kR183_5, kR183_6, kR183_7, kR183_8, kR183_9, kR183_21, kR183_26, kR183_27, kR183_30, kR183_31, kR183_33, kR183_34, kR183_36, kR183_37, kR183_38, kR183_39, kR183_40, kR183_41, kR183_42, kR183_43, kR183_44, kL184, kA184, kS184, kL185, kA185, kS185, kL186, kA186, kS186, kL187, kA187, kS187, kL188, kA188, kS188, kL189, kL190, kL191, kA191, kS191, kL192, kA192, kS192, kL193, kA193, kS193, kL194, kA194, kS194, kL195, kA195, kS195, kL196, kA196, kS196, kL197, kA197, kS197, kL198, kA198, kS198, kL199, kA199, kS199, kL200, kA200, kS200, kL201, kL202, kA202, kS202, kL203, kA203, kS203, kL204, kA204, kS204, kL205, kL206, kA206, kS206, sites_ok hS hG, nn_le, show ¬ (gSz g ≤ i) by omega, nn_one, nn_xor, hv _ hf, q]
    rw [← nI_succ]
    show _ = some (Sum.inl (iI (mnH h x (i + 1)), nI (i + 1)))
    rw [mnH]
    by_cases z : mnH h x i ≤ h (x ^^^ 2 ^ i)
    · rw [if_pos z, if_pos z]
    · rw [if_neg z, if_neg z]
  · have hmb := mb (gSz g) (Nat.le_refl _)
    have q1 : (iI (eE g (zR F) x) ≤ iI (mnH h x (gSz g))) = (eE g (zR F) x ≤ mnH h x (gSz g)) := iI_le (by omega) (by omega) (by omega) (by omega)
    have q2 : (iI (mxH g F h x) < iI (h x)) = (mxH g F h x < h x) := iI_lt (by unfold mxH; omega) (by unfold mxH; omega) (by omega) (by omega)
    have jo : ∀ v, v = iI (mxH g F h x) → f_X12_laysHills_j99 (xw σ J) 183 mo (nI x) v = some (if mxH g F h x < h x then .inl ((1 : Int32), nI (x + 1), xw σ (xup J 202 x (iI (mxH g F h x)))) else .inl (mo, nI (x + 1), xw σ J)) := by
      rintro v rfl
      unfold f_X12_laysHills_j99
      simp (disch := first | assumption | omega) only [Option.bind_some, Option.map_some, xw_gR, xw_gN, xw_al, xw_ck, xw_uI, xw_ur, xup_at, xur_at, if_true, if_false, reduceIte, and_true, true_and, and_false, false_and, not_true_eq_false, not_false_eq_true, Nat.reduceEqDiff, eq_self, Nat.reduceAdd, Nat.reduceMul, kC1, kG1, kP1, kR1_0, kR1_1, kR1_2, kR1_3, kR1_4, kR1_5, kR1_6, kR1_7, kR1_8, kR1_9, kR1_10, kR1_11, kR1_12, kR1_13, kC2, kG2, kP2, kR2_0, kR2_1, kC3, kG3, kP3, kR3_0, kR3_1, kR3_2, kR3_3, kL4, kA4, kS4, kL5, kA5, kS5, kL6, kA6, kS6, kL7, kA7, kS7, kC8, kG8, kP8, kR8_0, kR8_1, kL9, kA9, kS9, kL10, kA10, kS10, kC11, kG11, kP11, kR11_0, kR11_1, kR11_2, kR11_3, kL12, kA12, kS12, kL13, kA13, kS13, kL14, kA14, kS14, kL15, kA15, kS15, kC16, kG16, kP16, kR16_0, kR16_1, kL17, kA17, kS17, kL18, kA18, kS18, kC19, kG19, kP19, kR19_0, kL20, kL141, kL146, kA146, kS146, kL151, kA151, kS151, kL156, kA156, kS156, kC157, kG157, kP157, kR157_0, kR157_1, kL158, kA158, kS158, kL159, kA159, kS159, kC161, kG161, kP161, kR161_0, kR161_1, kL162, kA162, kS162, kL163, kA163, kS163, kC165, kG165, kP165, kR165_0, kR165_1, kR165_2, kR165_3, kL166, kA166, kS166, kL167, kA167, kS167, kL168, kA168, kS168, kL169, kA169, kS169, kC170, kG170, kP170, kR170_0, kR170_1, kR170_2, kL171, kA171, kS171, kL172, kA172, kS172, kL173, kA173, kS173, kC174, kG174, kP174, kR174_0, kR174_1, kR174_2, kR174_3, kR174_4, kL175, kA175, kS175, kL176, kA176, kS176, kL177, kA177, kS177, kL178, kA178, kS178, kL179, kC180, kG180, kP180, kL181, kL182, kA182, kS182, kC183, kG183, kP183, kR183_1, kR183_3, kR183_5, kR183_6, kR183_7, kR183_8, kR183_9, kR183_21, kR183_26, kR183_27, kR183_30, kR183_31, kR183_33, kR183_34, kR183_36, kR183_37, kR183_38, kR183_39, kR183_40, kR183_41, kR183_42, kR183_43, kR183_44, kL184, kA184, kS184, kL185, kA185, kS185, kL186, kA186, kS186, kL187, kA187, kS187, kL188, kA188, kS188, kL189, kL190, kL191, kA191, kS191, kL192, kA192, kS192, kL193, kA193, kS193, kL194, kA194, kS194, kL195, kA195, kS195, kL196, kA196, kS196, kL197, kA197, kS197, kL198, kA198, kS198, kL199, kA199, kS199, kL200, kA200, kS200, kL201, kL202, kA202, kS202, kL203, kA203, kS203, kL204, kA204, kS204, kL205, kL206, kA206, kS206, hv x hl.1, q2]
      rw [← nI_succ]
      by_cases z : mxH g F h x < h x
      · rw [if_pos z, if_pos z]
      · rw [if_neg z, if_neg z]
    simp only [f_X12_laysHills_b40]
    simp (disch := first | assumption | omega) only [Option.bind_some, Option.map_some, xw_gR, xw_gN, xw_al, xw_ck, xw_uI, xw_ur, xup_at, xur_at, if_true, if_false, reduceIte, and_true, true_and, and_false, false_and, not_true_eq_false, not_false_eq_true, Nat.reduceEqDiff, eq_self, Nat.reduceAdd, Nat.reduceMul, kC1, kG1, kP1, kR1_0, kR1_1, kR1_2, kR1_3, kR1_4, kR1_5, kR1_6, kR1_7, kR1_8, kR1_9, kR1_10, kR1_11, kR1_12, kR1_13, kC2, kG2, kP2, kR2_0, kR2_1, kC3, kG3, kP3, kR3_0, kR3_1, kR3_2, kR3_3, kL4, kA4, kS4, kL5, kA5, kS5, kL6, kA6, kS6, kL7, kA7, kS7, kC8, kG8, kP8, kR8_0, kR8_1, kL9, kA9, kS9, kL10, kA10, kS10, kC11, kG11, kP11, kR11_0, kR11_1, kR11_2, kR11_3, kL12, kA12, kS12, kL13, kA13, kS13, kL14, kA14, kS14, kL15, kA15, kS15, kC16, kG16, kP16, kR16_0, kR16_1, kL17, kA17, kS17, kL18, kA18, kS18, kC19, kG19, kP19, kR19_0, kL20, kL141, kL146, kA146, kS146, kL151, kA151, kS151, kL156, kA156, kS156, kC157, kG157, kP157, kR157_0, kR157_1, kL158, kA158, kS158, kL159, kA159, kS159, kC161, kG161, kP161, kR161_0, kR161_1, kL162, kA162, kS162, kL163, kA163, kS163, kC165, kG165, kP165, kR165_0, kR165_1, kR165_2, kR165_3, kL166, kA166, kS166, kL167, kA167, kS167, kL168, kA168, kS168, kL169, kA169, kS169, kC170, kG170, kP170, kR170_0, kR170_1, kR170_2, kL171, kA171, kS171, kL172, kA172, kS172, kL173, kA173, kS173, kC174, kG174, kP174, kR174_0, kR174_1, kR174_2, kR174_3, kR174_4, kL175, kA175, kS175, kL176, kA176, kS176, kL177, kA177, kS177, kL178, kA178, kS178, kL179, kC180, kG180, kP180, kL181, kL182, kA182, kS182, kC183, kG183, kP183, kR183_1, kR183_3, kR183_5, kR183_6, kR183_7, kR183_8, kR183_9, kR183_21, kR183_26, kR183_27, kR183_30, kR183_31, kR183_33, kR183_34, kR183_36, kR183_37, kR183_38, kR183_39, kR183_40, kR183_41, kR183_42, kR183_43, kR183_44, kL184, kA184, kS184, kL185, kA185, kS185, kL186, kA186, kS186, kL187, kA187, kS187, kL188, kA188, kS188, kL189, kL190, kL191, kA191, kS191, kL192, kA192, kS192, kL193, kA193, kS193, kL194, kA194, kS194, kL195, kA195, kS195, kL196, kA196, kS196, kL197, kA197, kS197, kL198, kA198, kS198, kL199, kA199, kS199, kL200, kA200, kS200, kL201, kL202, kA202, kS202, kL203, kA203, kS203, kL204, kA204, kS204, kL205, kL206, kA206, kS206, sites_ok hS hG, nn_le, Nat.le_refl, hk, q1]
    by_cases z : eE g (zR F) x ≤ mnH h x (gSz g)
    · rw [if_pos z, jo _ (by congr 1; unfold mxH; omega)]
      rfl
    · rw [if_neg z, jo _ (by congr 1; unfold mxH; omega)]
      rfl
def phH (g : GD) (h : Nat → Int) : Nat := fb_sm (fun x => (h x + 144).toNat) (gSt g)
theorem phH_up {x : Nat} {v : Int} (hx1 : x < gSt g) (h1 : v < h x) (h2 : -144 ≤ v) : phH g (fun y => if y = x then v else h y) < phH g h := by
  have up := fb_sm_upd (fun x => (h x + 144).toNat) (v + 144).toNat hx1
  have cg : phH g (fun y => if y = x then v else h y) = fb_sm (fun k => if k = x then (v + 144).toNat else (h k + 144).toNat) (gSt g) := fb_sm_cong (fun k _ => by
    show ((if k = x then v else h k) + 144).toNat = _
    by_cases z : k = x
    · rw [if_pos z, if_pos z]
    · rw [if_neg z, if_neg z])
  rw [cg]
  unfold phH
  have : (v + 144).toNat < (h x + 144).toNat := by omega
  have up' : fb_sm (fun k => if k = x then (v + 144).toNat else (h k + 144).toNat) (gSt g) + (h x + 144).toNat = fb_sm (fun x => (h x + 144).toNat) (gSt g) + (v + 144).toNat := up
  omega
theorem hills_p (hS : Shp σ) (ho : RO g F) (h10 : gSt g ≤ 1024) (hX : HX J g F Q h) :
    ∃ r, xloop (f_X12_laysHills_b10 183) ((0 : Int32), (0 : Int32), xw σ J) = some r ∧ ∃ (J' : Nat → Nat → Int32) (h' : Nat → Int), HX J' g F Q h' ∧ (∀ a k, a ≠ 202 → J' a k = J a k) ∧ ((r = .inl ((0 : Int32), xw σ J') ∧ ∀ x, lwS g F x → h' x ≤ mxH g F h' x) ∨ (r = .inl ((1 : Int32), xw σ J') ∧ phH g h' < phH g h)) := by
  have hg := hX.1.1
  refine xforI (fun x a => ∃ (mo : Int32) (J' : Nat → Nat → Int32) (h' : Nat → Int), a = (mo, nI x, xw σ J') ∧ HX J' g F Q h' ∧ (∀ a k, a ≠ 202 → J' a k = J a k) ∧ ((mo = 0 ∧ h' = h ∧ ∀ y, y < x → lwS g F y → h' y ≤ mxH g F h' y) ∨ (mo = 1 ∧ phH g h' < phH g h))) (gSt g) ⟨0, J, h, rfl, hX, fun _ _ _ => rfl, .inl ⟨rfl, rfl, fun y hy => absurd hy (Nat.not_lt_zero _)⟩⟩ ?_ ?_
  · rintro x a hx1 ⟨mo, J', h', rfl, hX', u, hd⟩
    have hG := hX'.1
    have hk := hX'.2.1.1 x hx1
    have x24 : x < 1024 := by omega
    cases hl : lW g F x with
    | false =>
      rw [hl, if_neg (by decide)] at hk
      refine ⟨(mo, nI (x + 1), xw σ J'), ?_, mo, J', h', rfl, hX', u, ?_⟩
      · simp only [f_X12_laysHills_b10]
        simp (disch := first | assumption | omega) only [Option.bind_some, Option.map_some, xw_gR, xw_gN, xw_al, xw_ck, xw_uI, xw_ur, xup_at, xur_at, if_true, if_false, reduceIte, and_true, true_and, and_false, false_and, not_true_eq_false, not_false_eq_true, Nat.reduceEqDiff, eq_self, Nat.reduceAdd, Nat.reduceMul, kC1, kG1, kP1, kR1_0, kR1_1, kR1_2, kR1_3, kR1_4, kR1_5, kR1_6, kR1_7, kR1_8, kR1_9, kR1_10, kR1_11, kR1_12, kR1_13, kC2, kG2, kP2, kR2_0, kR2_1, kC3, kG3, kP3, kR3_0, kR3_1, kR3_2, kR3_3, kL4, kA4, kS4, kL5, kA5, kS5, kL6, kA6, kS6, kL7, kA7, kS7, kC8, kG8, kP8, kR8_0, kR8_1, kL9, kA9, kS9, kL10, kA10, kS10, kC11, kG11, kP11, kR11_0, kR11_1, kR11_2, kR11_3, kL12, kA12, kS12, kL13, kA13, kS13, kL14, kA14, kS14, kL15, kA15, kS15, kC16, kG16, kP16, kR16_0, kR16_1, kL17, kA17, kS17, kL18, kA18, kS18, kC19, kG19, kP19, kR19_0, kL20, kL141, kL146, kA146, kS146, kL151, kA151, kS151, kL156, kA156, kS156, kC157, kG157, kP157, kR157_0, kR157_1, kL158, kA158, kS158, kL159, kA159, kS159, kC161, kG161, kP161, kR161_0, kR161_1, kL162, kA162, kS162, kL163, kA163, kS163, kC165, kG165, kP165, kR165_0, kR165_1, kR165_2, kR165_3, kL166, kA166, kS166, kL167, kA167, kS167, kL168, kA168, kS168, kL169, kA169, kS169, kC170, kG170, kP170, kR170_0, kR170_1, kR170_2, kL171, kA171, kS171, kL172, kA172, kS172, kL173, kA173, kS173, kC174, kG174, kP174, kR174_0, kR174_1, kR174_2, kR174_3, kR174_4, kL175, kA175, kS175, kL176, kA176, kS176, kL177, kA177, kS177, kL178, kA178, kS178, kL179, kC180, kG180, kP180, kL181, kL182, kA182, kS182, kC183, kG183, kP183, kR183_1, kR183_3, kR183_5, kR183_6, kR183_7, kR183_8, kR183_9, kR183_21, kR183_26, kR183_27, kR183_30, kR183_31, kR183_33, kR183_34, kR183_36, kR183_37, kR183_38, kR183_39, kR183_40, kR183_41, kR183_42, kR183_43, kR183_44, kL184, kA184, kS184, kL185, kA185, kS185, kL186, kA186, kS186, kL187, kA187, kS187, kL188, kA188, kS188, kL189, kL190, kL191, kA191, kS191, kL192, kA192, kS192, kL193, kA193, kS193, kL194, kA194, kS194, kL195, kA195, kS195, kL196, kA196, kS196, kL197, kA197, kS197, kL198, kA198, kS198, kL199, kA199, kS199, kL200, kA200, kS200, kL201, kL202, kA202, kS202, kL203, kA203, kS203, kL204, kA204, kS204, kL205, kL206, kA206, kS206, states12_ok hS hG, nn_le, show ¬ (gSt g ≤ x) by omega, hk, show (nI 100000 = (100000 : Int32)) = True from eq_true rfl]
        rw [nI_succ]
      · rcases hd with ⟨d1, d2, d3⟩ | d
        · left
          refine ⟨d1, d2, fun y hy hly => ?_⟩
          by_cases z : y = x
          · rw [z] at hly
            rw [hly.2] at hl; cases hl
          · exact d3 y (by omega) hly
        · exact .inr d
    | true =>
      rw [hl, if_pos rfl] at hk
      have hb := eE_b hg ho x
      have q : (iI (eE g (zR F) x) = (100000 : Int32)) = False := by
        rw [show (100000 : Int32) = iI 100000 from rfl, iI_eq (by omega) (by omega) (by omega) (by omega)]; exact eq_false (by omega)
      have hxx := hills_x (σ := σ) hS ho h10 hX' (x := x) ⟨hx1, hl⟩ mo
      have stp : f_X12_laysHills_b10 183 (mo, nI x, xw σ J') = xloop (f_X12_laysHills_b40 (xw σ J') 183 mo (nI x)) ((100000 : Int32), (0 : Int32)) := by
        simp only [f_X12_laysHills_b10]
        simp (disch := first | assumption | omega) only [Option.bind_some, Option.map_some, xw_gR, xw_gN, xw_al, xw_ck, xw_uI, xw_ur, xup_at, xur_at, if_true, if_false, reduceIte, and_true, true_and, and_false, false_and, not_true_eq_false, not_false_eq_true, Nat.reduceEqDiff, eq_self, Nat.reduceAdd, Nat.reduceMul, kC1, kG1, kP1, kR1_0, kR1_1, kR1_2, kR1_3, kR1_4, kR1_5, kR1_6, kR1_7, kR1_8, kR1_9, kR1_10, kR1_11, kR1_12, kR1_13, kC2, kG2, kP2, kR2_0, kR2_1, kC3, kG3, kP3, kR3_0, kR3_1, kR3_2, kR3_3, kL4, kA4, kS4, kL5, kA5, kS5, kL6, kA6, kS6, kL7, kA7, kS7, kC8, kG8, kP8, kR8_0, kR8_1, kL9, kA9, kS9, kL10, kA10, kS10, kC11, kG11, kP11, kR11_0, kR11_1, kR11_2, kR11_3, kL12, kA12, kS12, kL13, kA13, kS13, kL14, kA14, kS14, kL15, kA15, kS15, kC16, kG16, kP16, kR16_0, kR16_1, kL17, kA17, kS17, kL18, kA18, kS18, kC19, kG19, kP19, kR19_0, kL20, kL141, kL146, kA146, kS146, kL151, kA151, kS151, kL156, kA156, kS156, kC157, kG157, kP157, kR157_0, kR157_1, kL158, kA158, kS158, kL159, kA159, kS159, kC161, kG161, kP161, kR161_0, kR161_1, kL162, kA162, kS162, kL163, kA163, kS163, kC165, kG165, kP165, kR165_0, kR165_1, kR165_2, kR165_3, kL166, kA166, kS166, kL167, kA167, kS167, kL168, kA168, kS168, kL169, kA169, kS169, kC170, kG170, kP170, kR170_0, kR170_1, kR170_2, kL171, kA171, kS171, kL172, kA172, kS172, kL173, kA173, kS173, kC174, kG174, kP174, kR174_0, kR174_1, kR174_2, kR174_3, kR174_4, kL175, kA175, kS175, kL176, kA176, kS176, kL177, kA177, kS177, kL178, kA178, kS178, kL179, kC180, kG180, kP180, kL181, kL182, kA182, kS182, kC183, kG183, kP183, kR183_1, kR183_3, kR183_5, kR183_6, kR183_7, kR183_8, kR183_9, kR183_21, kR183_26, kR183_27, kR183_30, kR183_31, kR183_33, kR183_34, kR183_36, kR183_37, kR183_38, kR183_39, kR183_40, kR183_41, kR183_42, kR183_43, kR183_44, kL184, kA184, kS184, kL185, kA185, kS185, kL186, kA186, kS186, kL187, kA187, kS187, kL188, kA188, kS188, kL189, kL190, kL191, kA191, kS191, kL192, kA192, kS192, kL193, kA193, kS193, kL194, kA194, kS194, kL195, kA195, kS195, kL196, kA196, kS196, kL197, kA197, kS197, kL198, kA198, kS198, kL199, kA199, kS199, kL200, kA200, kS200, kL201, kL202, kA202, kS202, kL203, kA203, kS203, kL204, kA204, kS204, kL205, kL206, kA206, kS206, states12_ok hS hG, nn_le, show ¬ (gSt g ≤ x) by omega, hk, q]
      rw [stp, hxx]
      by_cases z : mxH g F h' x < h' x
      · rw [if_pos z]
        have mlo : -144 ≤ mxH g F h' x := by unfold mxH; omega
        have ph := phH_up (g := g) (h := h') hx1 z mlo
        refine ⟨_, rfl, 1, xup J' 202 x (iI (mxH g F h' x)), fun y => if y = x then mxH g F h' x else h' y, rfl, ⟨GRD_c (fun a k w => by rw [xup_at, if_neg (by unfold sGRD at w; omega)]) hG, KNK_c (I := J') hg (fun a k w => by rw [xup_at, if_neg (by omega)]) (fun _ _ => rfl) hX'.2.1, fun y hy => ?_, HI_up hg ho hX'.2.2.2 ⟨hx1, hl⟩ z⟩, fun a k ha => by rw [xup_at, if_neg (by omega)]; exact u a k ha, .inr ⟨rfl, ?_⟩⟩
        · rw [xup_at]
          show _ = iI (if y = x then mxH g F h' x else h' y)
          by_cases w : y = x
          · rw [if_pos ⟨rfl, w⟩, if_pos w]
          · rw [if_neg (by omega), if_neg w]; exact hX'.2.2.1 y hy
        · rcases hd with ⟨d1, d2, d3⟩ | ⟨d1, d2⟩
          · rw [d2] at ph ⊢; exact ph
          · omega
      · rw [if_neg z]
        refine ⟨_, rfl, mo, J', h', rfl, hX', u, ?_⟩
        rcases hd with ⟨d1, d2, d3⟩ | d
        · left
          refine ⟨d1, d2, fun y hy hly => ?_⟩
          by_cases w : y = x
          · rw [w]; omega
          · exact d3 y (by omega) hly
        · exact .inr d
  · rintro a ⟨mo, J', h', rfl, hX', u, hd⟩
    have hG := hX'.1
    refine ⟨.inl (mo, xw σ J'), ?_, J', h', hX', u, ?_⟩
    · simp only [f_X12_laysHills_b10]
      simp (disch := first | assumption | omega) only [Option.bind_some, Option.map_some, xw_gR, xw_gN, xw_al, xw_ck, xw_uI, xw_ur, xup_at, xur_at, if_true, if_false, reduceIte, and_true, true_and, and_false, false_and, not_true_eq_false, not_false_eq_true, Nat.reduceEqDiff, eq_self, Nat.reduceAdd, Nat.reduceMul, kC1, kG1, kP1, kR1_0, kR1_1, kR1_2, kR1_3, kR1_4, kR1_5, kR1_6, kR1_7, kR1_8, kR1_9, kR1_10, kR1_11, kR1_12, kR1_13, kC2, kG2, kP2, kR2_0, kR2_1, kC3, kG3, kP3, kR3_0, kR3_1, kR3_2, kR3_3, kL4, kA4, kS4, kL5, kA5, kS5, kL6, kA6, kS6, kL7, kA7, kS7, kC8, kG8, kP8, kR8_0, kR8_1, kL9, kA9, kS9, kL10, kA10, kS10, kC11, kG11, kP11, kR11_0, kR11_1, kR11_2, kR11_3, kL12, kA12, kS12, kL13, kA13, kS13, kL14, kA14, kS14, kL15, kA15, kS15, kC16, kG16, kP16, kR16_0, kR16_1, kL17, kA17, kS17, kL18, kA18, kS18, kC19, kG19, kP19, kR19_0, kL20, kL141, kL146, kA146, kS146, kL151, kA151, kS151, kL156, kA156, kS156, kC157, kG157, kP157, kR157_0, kR157_1, kL158, kA158, kS158, kL159, kA159, kS159, kC161, kG161, kP161, kR161_0, kR161_1, kL162, kA162, kS162, kL163, kA163, kS163, kC165, kG165, kP165, kR165_0, kR165_1, kR165_2, kR165_3, kL166, kA166, kS166, kL167, kA167, kS167, kL168, kA168, kS168, kL169, kA169, kS169, kC170, kG170, kP170, kR170_0, kR170_1, kR170_2, kL171, kA171, kS171, kL172, kA172, kS172, kL173, kA173, kS173, kC174, kG174, kP174, kR174_0, kR174_1, kR174_2, kR174_3, kR174_4, kL175, kA175, kS175, kL176, kA176, kS176, kL177, kA177, kS177, kL178, kA178, kS178, kL179, kC180, kG180, kP180, kL181, kL182, kA182, kS182, kC183, kG183, kP183, kR183_1, kR183_3, kR183_5, kR183_6, kR183_7, kR183_8, kR183_9, kR183_21, kR183_26, kR183_27, kR183_30, kR183_31, kR183_33, kR183_34, kR183_36, kR183_37, kR183_38, kR183_39, kR183_40, kR183_41, kR183_42, kR183_43, kR183_44, kL184, kA184, kS184, kL185, kA185, kS185, kL186, kA186, kS186, kL187, kA187, kS187, kL188, kA188, kS188, kL189, kL190, kL191, kA191, kS191, kL192, kA192, kS192, kL193, kA193, kS193, kL194, kA194, kS194, kL195, kA195, kS195, kL196, kA196, kS196, kL197, kA197, kS197, kL198, kA198, kS198, kL199, kA199, kS199, kL200, kA200, kS200, kL201, kL202, kA202, kS202, kL203, kA203, kS203, kL204, kA204, kS204, kL205, kL206, kA206, kS206, states12_ok hS hG, nn_le, Nat.le_refl]
    · rcases hd with ⟨d1, d2, d3⟩ | ⟨d1, d2⟩
      · exact .inl ⟨by rw [d1], fun x hl => d3 x hl.1 hl⟩
      · exact .inr ⟨by rw [d1], d2⟩
theorem hills_ok (hS : Shp σ) (ho : RO g F) (h10 : gSt g ≤ 1024) (hX : HX J g F Q h) :
    ∃ (J' : Nat → Nat → Int32) (h' : Nat → Int), f_X12_laysHills (xw σ J) 183 = some (xw σ J') ∧ (∀ a k, a ≠ 202 → J' a k = J a k) ∧ (∀ x, x < gSt g → J' 202 x = iI (h' x)) ∧ HI g F Q h' ∧ ∀ x y, lwS g F x → aj g F x y → h' x ≤ max (eE g (zR F) x) (h' y) := by
  unfold f_X12_laysHills
  have key := xloop_run (f := f_X12_laysHills_b2 183) (fun k a => ∃ (J' : Nat → Nat → Int32) (h' : Nat → Int), HX J' g F Q h' ∧ (∀ a k, a ≠ 202 → J' a k = J a k) ∧ ((a = ((1 : Int32), xw σ J') ∧ k = phH g h' + 1) ∨ (a = ((0 : Int32), xw σ J') ∧ k = 0 ∧ ∀ x, lwS g F x → h' x ≤ mxH g F h' x))) (fun b => ∃ (J' : Nat → Nat → Int32) (h' : Nat → Int), b = xw σ J' ∧ HX J' g F Q h' ∧ (∀ a k, a ≠ 202 → J' a k = J a k) ∧ ∀ x, lwS g F x → h' x ≤ mxH g F h' x) ?_ (phH g h + 1) ((1 : Int32), xw σ J) ⟨J, h, hX, fun _ _ _ => rfl, .inl ⟨rfl, rfl⟩⟩
  · obtain ⟨b, e, J', h', rfl, hX', u, fx⟩ := key
    refine ⟨J', h', e, u, hX'.2.2.1, hX'.2.2.2, fun x y hl hxy => ?_⟩
    obtain ⟨i, i1, i2, rfl⟩ := hxy
    have h1 := fx x hl
    have h2 := (mnH_le h' x (gSz g)).2 i i1
    unfold mxH at h1
    omega
  · rintro k a ⟨J', h', hX', u, ⟨rfl, rfl⟩ | ⟨rfl, rfl, fx⟩⟩
    · right
      obtain ⟨r, e, J2, h2, hX2, u2, hd⟩ := hills_p (σ := σ) hS ho h10 hX'
      have stp : f_X12_laysHills_b2 183 ((1 : Int32), xw σ J') = xloop (f_X12_laysHills_b10 183) ((0 : Int32), (0 : Int32), xw σ J') := by
        simp only [f_X12_laysHills_b2]
        rw [if_neg (by decide)]
      rcases hd with ⟨d1, d2⟩ | ⟨d1, d2⟩
      · exact ⟨0, ((0 : Int32), xw σ J2), by omega, by rw [stp, e, d1], J2, h2, hX2, fun a k ha => by rw [u2 a k ha]; exact u a k ha, .inr ⟨rfl, rfl, d2⟩⟩
      · exact ⟨phH g h2 + 1, ((1 : Int32), xw σ J2), by omega, by rw [stp, e, d1], J2, h2, hX2, fun a k ha => by rw [u2 a k ha]; exact u a k ha, .inl ⟨rfl, rfl⟩⟩
    · left
      refine ⟨xw σ J', ?_, J', h', rfl, hX', u, fx⟩
      simp only [f_X12_laysHills_b2]
      rw [if_pos trivial]
      rfl
/-- the class's answer and the model's -/
theorem meet_eq {M : Nat} {o : Nat → Nat} {Jc : Nat → Nat → Int32} {Qc : Nat → Prop} {one q0 i : Nat} (hg : g ∈ gAll) (ho : RO g F) (hO : TO Jc g F M o) (hi : i < M) (hI : HI g F Q h) (fx : ∀ x y, lwS g F x → aj g F x y → h x ≤ max (eE g (zR F) x) (h y)) (hl1 : lwS g F one) (hq0 : lwS g F q0) (hQ : ∀ q, lwS g F q → (Q q ↔ Qc q)) (hQ0 : Qc q0) (hE : ∀ q, Q q → eE g (zR F) q0 ≤ eE g (zR F) q) (h1 : met g F o Qc (i + 1) one q0) (h2 : ¬ met g F o Qc i one q0) : h one = eE g (zR F) (o i) := by
  obtain ⟨hM, j8, o1, o2, o3⟩ := hO
  have wl : ∀ k, k ≤ M → ∀ x, wt o k x = true → lwS g F x := fun k hk x hw => by
    obtain ⟨j, j1, rfl⟩ := wt_iff.mp hw
    exact (o1 j (by omega)).2
  have we : ∀ x, wt o (i + 1) x = true → eE g (zR F) x ≤ eE g (zR F) (o i) := fun x hw => by
    obtain ⟨j, j1, rfl⟩ := wt_iff.mp hw
    by_cases z : j = i
    · rw [z]; exact Int.le_refl _
    · exact (o2 j i (by omega) hi).1
  have lt : ∀ x, lwS g F x → eE g (zR F) x < eE g (zR F) (o i) → wt o i x = true := fun x hl hlt => by
    obtain ⟨j, j1, rfl⟩ := o3 x hl.1 hl.2
    refine wt_iff.mpr ⟨j, ?_, rfl⟩
    rcases Nat.lt_trichotomy j i with z | z | z
    · exact z
    · rw [z] at hlt; omega
    · have := (o2 i j z j1).1
      omega
  have A : h one ≤ eE g (zR F) (o i) := by
    obtain ⟨m1, m2, m3⟩ := h1
    have c := cn_y (Sw_y sQ_y) m3
    refine c (fun x => h x ≤ eE g (zR F) (o i)) ?_ (fun a b pa ⟨s1, s2, s3⟩ => ?_)
    · have := (hI.2.2 q0 ((hQ q0 hq0).mpr hQ0)).2
      have := we q0 m2
      show h q0 ≤ _
      omega
    · have lb := wl (i + 1) (by omega) b s2
      have eb := we b s2
      show h b ≤ _
      rcases s3 with z | ⟨z1, z2⟩
      · have := fx b a lb (aj_y z)
        have pa' : h a ≤ eE g (zR F) (o i) := pa
        omega
      · have := (hI.2.2 b ((hQ b lb).mpr z2)).2
        omega
  apply Classical.byContradiction
  intro hne
  have hlt : h one < eE g (zR F) (o i) := by omega
  have hbi := eE_b hg ho (o i)
  rcases hI.2.1 one hl1.1 with z | ⟨z1, z2, q, q1, q2⟩
  · omega
  · have lq := (hI.2.2 q q1).1
    have eq : eE g (zR F) q ≤ h one := by
      have := q2 (fun x => x = q ∨ eE g (zR F) q ≤ h one) (.inl rfl) (fun a b pa ⟨s1, s2, s3⟩ => by
        rcases pa with w | w
        · rw [w] at s1; exact .inr s1.2
        · exact .inr w)
      rcases this with w | w
      · rw [← w]; exact z2
      · exact w
    have e0 := hE q q1
    refine h2 ⟨lt one hl1 (by omega), lt q0 hq0 (by omega), ?_⟩
    have c1 : cn (Sw (wt o i) (sQ g F Qc)) q one := cn_m (fun a b ⟨⟨a1, a2⟩, ⟨b1, b2⟩, c⟩ => ⟨lt a a1 (by omega), lt b b1 (by omega), .inl c⟩) q2
    exact cn_s (cn_y (Sw_y sQ_y) c1) ⟨lt q lq (by omega), lt q0 hq0 (by omega), .inr ⟨(hQ q lq).mp q1, hQ0⟩⟩
end HILLS
end
