/-! the states of a small strip, sorted by energy -/
def tP (g : GD) (F : Nat → Int32) (k : Nat) : Nat := fb_sm (fun j : Nat => lC g F ((j : Int) - 144)) k
def tK (g : GD) (F : Nat → Int32) (s : Nat) : Nat := (eE g (zR F) s + 144).toNat
def tQ (g : GD) (F : Nat → Int32) (s : Nat) : Nat := tP g F (tK g F s) + fb_ct (lE g F ((tK g F s : Int) - 144)) s
section TORD
variable {g : GD} {F : Nat → Int32}
theorem tK_ok (hg : g ∈ gAll) (ho : RO g F) (s : Nat) : tK g F s < 289 ∧ (tK g F s : Int) - 144 = eE g (zR F) s := by
  have := eE_b hg ho s
  unfold tK
  omega
theorem tP_s {k : Nat} : tP g F (k + 1) = tP g F k + lC g F ((k : Int) - 144) := rfl
theorem tP_m {i j : Nat} (h : i ≤ j) : tP g F i ≤ tP g F j := by
  have := fb_sm_mono (fun j : Nat => lC g F ((j : Int) - 144)) i (j - i)
  rw [show i + (j - i) = j by omega] at this
  exact this
theorem tE_ok (hg : g ∈ gAll) (ho : RO g F) {s : Nat} (hl : lW g F s = true) : lE g F ((tK g F s : Int) - 144) s = true := by
  unfold lE
  rw [hl, (tK_ok hg ho s).2]
  simp
theorem ct_in {p : Nat → Bool} {s n : Nat} (h : s < n) (hp : p s = true) : fb_ct p s < fb_ct p n := by
  have h1 := fb_ct_mono p (show s + 1 ≤ n by omega)
  rw [fb_ct_succ, hp] at h1
  simp at h1
  omega
theorem tQ_lt (hg : g ∈ gAll) (ho : RO g F) {s : Nat} (hs : s < gSt g) (hl : lW g F s = true) : tQ g F s < tP g F (tK g F s + 1) := by
  rw [tP_s]
  have := ct_in hs (tE_ok hg ho hl)
  unfold tQ lC
  omega
theorem tQ_ge {s : Nat} : tP g F (tK g F s) ≤ tQ g F s := Nat.le_add_right _ _
theorem tQ_K (hg : g ∈ gAll) (ho : RO g F) {a b : Nat} (ha : a < gSt g) (hla : lW g F a = true) (h : tQ g F b ≤ tQ g F a) : tK g F b ≤ tK g F a := by
  by_cases z : tK g F b ≤ tK g F a
  · exact z
  · have h1 := tQ_lt hg ho ha hla
    have h2 := tP_m (g := g) (F := F) (show tK g F a + 1 ≤ tK g F b by omega)
    have h3 := tQ_ge (g := g) (F := F) (s := b)
    omega
theorem tQ_inj (hg : g ∈ gAll) (ho : RO g F) {a b : Nat} (ha : a < gSt g) (hb : b < gSt g) (hla : lW g F a = true) (hlb : lW g F b = true) (h : tQ g F a = tQ g F b) : a = b := by
  have h1 := tQ_K hg ho ha hla (b := b) (by omega)
  have h2 := tQ_K hg ho hb hlb (b := a) (by omega)
  have h3 : tK g F a = tK g F b := by omega
  unfold tQ at h
  rw [h3] at h
  have e1 := tE_ok hg ho hla
  have e2 := tE_ok hg ho hlb
  rw [h3] at e1
  exact fb_ct_kth_one e1 e2 (by omega)
theorem tQ_top (hg : g ∈ gAll) (ho : RO g F) {s : Nat} (hs : s < gSt g) (hl : lW g F s = true) : tQ g F s < tP g F 289 := by
  have h1 := tQ_lt hg ho hs hl
  have h2 := (tK_ok hg ho s).1
  have h3 := tP_m (g := g) (F := F) (show tK g F s + 1 ≤ 289 by omega)
  omega
theorem tQ_on (hg : g ∈ gAll) (ho : RO g F) : ∀ k, k ≤ 289 → ∀ i, i < tP g F k → ∃ s, s < gSt g ∧ lW g F s = true ∧ tQ g F s = i := by
  intro k
  induction k with
  | zero => intro _ i hi; exact absurd hi (Nat.not_lt_zero _)
  | succ k ih =>
    intro hk i hi
    by_cases h : i < tP g F k
    · exact ih (by omega) i h
    · rw [tP_s] at hi
      have h1 : i - tP g F k < fb_ct (lE g F ((k : Int) - 144)) (gSt g) := by unfold lC at hi; omega
      obtain ⟨s, s1, s2, s3⟩ := fb_ct_kth h1
      have s2' := s2
      unfold lE at s2
      simp only [Bool.and_eq_true, decide_eq_true_eq] at s2
      have e : tK g F s = k := by
        have := (tK_ok hg ho s).2
        omega
      refine ⟨s, s1, s2.1, ?_⟩
      unfold tQ
      rw [e, s3]
      omega
theorem t_ord (hg : g ∈ gAll) (ho : RO g F) : ∃ o : Nat → Nat, (∀ i, i < tP g F 289 → o i < gSt g ∧ lW g F (o i) = true ∧ tQ g F (o i) = i) ∧ (∀ i j, i < j → j < tP g F 289 → eE g (zR F) (o i) ≤ eE g (zR F) (o j) ∧ o i ≠ o j) ∧ (∀ s, s < gSt g → lW g F s = true → ∃ i, i < tP g F 289 ∧ o i = s) ∧ tP g F 289 ≤ gSt g := by
  have h : ∀ i, ∃ s, i < tP g F 289 → s < gSt g ∧ lW g F s = true ∧ tQ g F s = i := by
    intro i
    by_cases z : i < tP g F 289
    · obtain ⟨s, h⟩ := tQ_on hg ho 289 (Nat.le_refl _) i z
      exact ⟨s, fun _ => h⟩
    · exact ⟨0, fun q => absurd q z⟩
  obtain ⟨o, h⟩ := Classical.axiomOfChoice h
  have h2 : ∀ i j, i < j → j < tP g F 289 → eE g (zR F) (o i) ≤ eE g (zR F) (o j) ∧ o i ≠ o j := by
    intro i j hij hj
    obtain ⟨i1, i2, i3⟩ := h i (by omega)
    obtain ⟨j1, j2, j3⟩ := h j hj
    have hk := tQ_K hg ho j1 j2 (b := o i) (by omega)
    have a1 := (tK_ok hg ho (o i)).2
    have a2 := (tK_ok hg ho (o j)).2
    refine ⟨by omega, fun z => ?_⟩
    rw [z] at i3
    omega
  refine ⟨o, h, h2, fun s hs hl => ?_, fb_holes _ _ o (fun i hi => (h i hi).1) (fun i j hij hj => (h2 i j hij hj).2)⟩
  have ht := tQ_top hg ho hs hl
  obtain ⟨b1, b2, b3⟩ := h _ ht
  exact ⟨_, ht, tQ_inj hg ho b1 hs b2 hl b3⟩
end TORD
section SORT
variable {σ : XS} {I : Nat → Nat → Int32} {g : GD} {F : Nat → Int32} {c m : Nat}
def tS (σ : XS) : XS := xuR (xuR σ 174 5 157) 174 6 16
theorem tS_R {a j : Nat} (h : ¬ (a = 174 ∧ (j = 5 ∨ j = 6))) : xR (tS σ) a j = xR σ a j := by
  show xup (xup (xR σ) 174 5 157) 174 6 16 a j = _
  unfold xup
  rw [if_neg (by omega), if_neg (by omega)]
theorem tS_Shp (hS : Shp σ) : Shp (tS σ) := by
  refine ⟨hS.1, hS.2.1, fun a ha j hj => ?_⟩
  have hz : ∀ j, (j = 5 ∨ j = 6) → (shR.getD 174 []).getD j 0 = 0 := fun j h => by rcases h with rfl | rfl <;> decide +kernel
  rw [tS_R (fun z => hj (by rw [z.1]; exact hz j z.2))]
  exact hS.2.2 a ha j hj
theorem tS_E (hE : EnO σ 157 c m) : EnO (tS σ) 157 c m := ⟨hE.1, by rw [tS_R (by omega)]; exact hE.2.1, hE.2.2⟩
theorem tS_K (hK : ENK I (xR σ) (xlen σ) 157 g F) : ENK I (xR (tS σ)) (xlen (tS σ)) 157 g F := by
  unfold ENK at *
  rw [tS_R (by omega)]
  exact hK
theorem sort1_ok {Q : XS → Prop} (hS : Shp σ) (hW : WAY I 166 g F) (h8 : I 174 8 = nI 0) (he : ∀ J : Nat → Nat → Int32, J 174 8 = nI (tP g F 289) → (∀ j, j < 289 → J 176 j = nI (tP g F j)) → (∀ a k, a ≠ 176 → ¬ (a = 174 ∧ k = 8) → J a k = I a k) → ∃ r, f_X9_sort_b24 174 157 165 16 (nI 289, xw σ J) = some (.inr r) ∧ Q r) : ∃ r, xloop (f_X9_sort_b24 174 157 165 16) ((0 : Int32), xw σ I) = some r ∧ Q r := by
  refine xforI (fun k x => ∃ J : Nat → Nat → Int32, x = (nI k, xw σ J) ∧ J 174 8 = nI (tP g F k) ∧ (∀ j, j < k → J 176 j = nI (tP g F j)) ∧ ∀ a k, a ≠ 176 → ¬ (a = 174 ∧ k = 8) → J a k = I a k) 289 ⟨I, rfl, h8, fun j hj => absurd hj (Nat.not_lt_zero _), fun _ _ _ _ => rfl⟩ ?_ ?_
  · rintro k x hk ⟨J, rfl, j1, j2, j3⟩
    refine ⟨_, ?_, xup (xup J 176 k (nI (tP g F k))) 174 8 (nI (tP g F (k + 1))), rfl, ?_, ?_, ?_⟩
    · simp only [f_X9_sort_b24]
      rw [if_neg (by rw [show (289 : Int32) = nI 289 from rfl, nn_le (by omega) (by omega)]; omega)]
      simp (disch := first | assumption | omega) only [Option.bind_some, Option.map_some, xw_gR, xw_gN, xw_al, xw_ck, xw_uI, xw_ur, xup_at, xur_at, if_true, if_false, reduceIte, and_true, true_and, and_false, false_and, not_true_eq_false, not_false_eq_true, Nat.reduceEqDiff, eq_self, Nat.reduceAdd, Nat.reduceMul, kC1, kG1, kP1, kR1_0, kR1_1, kR1_2, kR1_3, kR1_4, kR1_5, kR1_6, kR1_7, kR1_8, kR1_9, kR1_10, kR1_11, kR1_12, kR1_13, kC2, kG2, kP2, kR2_0, kR2_1, kC3, kG3, kP3, kR3_0, kR3_1, kR3_2, kR3_3, kL4, kA4, kS4, kL5, kA5, kS5, kL6, kA6, kS6, kL7, kA7, kS7, kC8, kG8, kP8, kR8_0, kR8_1, kL9, kA9, kS9, kL10, kA10, kS10, kC11, kG11, kP11, kR11_0, kR11_1, kR11_2, kR11_3, kL12, kA12, kS12, kL13, kA13, kS13, kL14, kA14, kS14, kL15, kA15, kS15, kC16, kG16, kP16, kR16_0, kR16_1, kL17, kA17, kS17, kL18, kA18, kS18, kC19, kG19, kP19, kR19_0, kL20, kL141, kL146, kA146, kS146, kL151, kA151, kS151, kL156, kA156, kS156, kC157, kG157, kP157, kR157_0, kR157_1, kL158, kA158, kS158, kL159, kA159, kS159, kC161, kG161, kP161, kR161_0, kR161_1, kL162, kA162, kS162, kL163, kA163, kS163, kC165, kG165, kP165, kR165_0, kR165_1, kR165_2, kR165_3, kL166, kA166, kS166, kL167, kA167, kS167, kL168, kA168, kS168, kL169, kA169, kS169, kC170, kG170, kP170, kR170_0, kR170_1, kR170_2, kL171, kA171, kS171, kL172, kA172, kS172, kL173, kA173, kS173, kC174, kG174, kP174, kR174_0, kR174_1, kR174_2, kR174_3, kR174_4, kL175, kA175, kS175, kL176, kA176, kS176, kL177, kA177, kS177, kL178, kA178, kS178, kL179, kC180, kG180, kP180, kL181, kL182, kA182, kS182, kC183, kG183, kP183, kR183_1, kR183_3, kR183_5, kR183_6, kR183_7, kR183_8, kR183_9, kR183_21, kR183_26, kR183_27, kR183_30, kR183_31, kR183_33, kR183_34, kR183_36, kR183_37, kR183_38, kR183_39, kR183_40, kR183_41, kR183_42, kR183_43, kR183_44, kL184, kA184, kS184, kL185, kA185, kS185, kL186, kA186, kS186, kL187, kA187, kS187, kL188, kA188, kS188, kL189, kL190, kL191, kA191, kS191, kL192, kA192, kS192, kL193, kA193, kS193, kL194, kA194, kS194, kL195, kA195, kS195, kL196, kA196, kS196, kL197, kA197, kS197, kL198, kA198, kS198, kL199, kA199, kS199, kL200, kA200, kS200, kL201, kL202, kA202, kS202, kL203, kA203, kS203, kL204, kA204, kS204, kL205, kL206, kA206, kS206, j1, j3 166 k (by omega) (by omega), hW k hk, nn_add]
      rw [nI_succ]
      rfl
    · rw [xup_at, if_pos ⟨rfl, rfl⟩]
    · intro j hj
      rw [xup_at, if_neg (by omega), xup_at]
      by_cases z : j = k
      · rw [if_pos ⟨rfl, z⟩, z]
      · rw [if_neg (by omega)]; exact j2 j (by omega)
    · intro a k h1 h2
      rw [xup_at, if_neg h2, xup_at, if_neg (by omega)]; exact j3 a k h1 h2
  · rintro x ⟨J, rfl, j1, j2, j3⟩
    exact he J j1 j2 j3
theorem put_ok (hS : Shp σ) {k p s : Nat} (hk : k < 289) (hp : p < 1024) (hv : I 176 k = nI p) : f_X9_putInOrder (xw σ I) 174 (nI s) (nI k) = some (xw σ (xup (xup I 175 p (nI s)) 176 k (nI (p + 1)))) := by
  unfold f_X9_putInOrder
  rw [if_neg (nI_pos (by omega)), if_neg (by rw [show (289 : Int32) = nI 289 from rfl, nn_le (by omega) (by omega)]; omega)]
  have e : ((1024 : Int32) ≤ nI p) = False := by rw [show (1024 : Int32) = nI 1024 from rfl, nn_le (by omega) (by omega)]; exact eq_false (by omega)
  simp (disch := first | assumption | omega) only [Option.bind_some, Option.map_some, xw_gR, xw_gN, xw_al, xw_ck, xw_uI, xw_ur, xup_at, xur_at, if_true, if_false, reduceIte, and_true, true_and, and_false, false_and, not_true_eq_false, not_false_eq_true, Nat.reduceEqDiff, eq_self, Nat.reduceAdd, Nat.reduceMul, kC1, kG1, kP1, kR1_0, kR1_1, kR1_2, kR1_3, kR1_4, kR1_5, kR1_6, kR1_7, kR1_8, kR1_9, kR1_10, kR1_11, kR1_12, kR1_13, kC2, kG2, kP2, kR2_0, kR2_1, kC3, kG3, kP3, kR3_0, kR3_1, kR3_2, kR3_3, kL4, kA4, kS4, kL5, kA5, kS5, kL6, kA6, kS6, kL7, kA7, kS7, kC8, kG8, kP8, kR8_0, kR8_1, kL9, kA9, kS9, kL10, kA10, kS10, kC11, kG11, kP11, kR11_0, kR11_1, kR11_2, kR11_3, kL12, kA12, kS12, kL13, kA13, kS13, kL14, kA14, kS14, kL15, kA15, kS15, kC16, kG16, kP16, kR16_0, kR16_1, kL17, kA17, kS17, kL18, kA18, kS18, kC19, kG19, kP19, kR19_0, kL20, kL141, kL146, kA146, kS146, kL151, kA151, kS151, kL156, kA156, kS156, kC157, kG157, kP157, kR157_0, kR157_1, kL158, kA158, kS158, kL159, kA159, kS159, kC161, kG161, kP161, kR161_0, kR161_1, kL162, kA162, kS162, kL163, kA163, kS163, kC165, kG165, kP165, kR165_0, kR165_1, kR165_2, kR165_3, kL166, kA166, kS166, kL167, kA167, kS167, kL168, kA168, kS168, kL169, kA169, kS169, kC170, kG170, kP170, kR170_0, kR170_1, kR170_2, kL171, kA171, kS171, kL172, kA172, kS172, kL173, kA173, kS173, kC174, kG174, kP174, kR174_0, kR174_1, kR174_2, kR174_3, kR174_4, kL175, kA175, kS175, kL176, kA176, kS176, kL177, kA177, kS177, kL178, kA178, kS178, kL179, kC180, kG180, kP180, kL181, kL182, kA182, kS182, kC183, kG183, kP183, kR183_1, kR183_3, kR183_5, kR183_6, kR183_7, kR183_8, kR183_9, kR183_21, kR183_26, kR183_27, kR183_30, kR183_31, kR183_33, kR183_34, kR183_36, kR183_37, kR183_38, kR183_39, kR183_40, kR183_41, kR183_42, kR183_43, kR183_44, kL184, kA184, kS184, kL185, kA185, kS185, kL186, kA186, kS186, kL187, kA187, kS187, kL188, kA188, kS188, kL189, kL190, kL191, kA191, kS191, kL192, kA192, kS192, kL193, kA193, kS193, kL194, kA194, kS194, kL195, kA195, kS195, kL196, kA196, kS196, kL197, kA197, kS197, kL198, kA198, kS198, kL199, kA199, kS199, kL200, kA200, kS200, kL201, kL202, kA202, kS202, kL203, kA203, kS203, kL204, kA204, kS204, kL205, kL206, kA206, kS206, hv, nn_nneg, e, nI_succ]
theorem sort2_ok (hS : Shp σ) (hg : g ∈ gAll) (ho : RO g F) (h10 : gSz g ≤ 10) (hE : EnO σ 157 c m) (hK : ENK I (xR σ) (xlen σ) 157 g F) (hSR : SR g I 16 F) (h6 : ∀ j, j < 289 → I 176 j = nI (tP g F j)) :
    ∃ r, xloop (f_X9_sort_b96 174 157 16 (nI (gSt g))) ((0 : Int32), xw σ I) = some r ∧ ∃ J, r = xw σ J ∧ (∀ s, s < gSt g → lW g F s = true → J 175 (tQ g F s) = nI s) ∧ ∀ a k, a ≠ 175 → a ≠ 176 → J a k = I a k := by
  have hEb := hE.b
  have hSt := gSt_b hg
  have h1024 : gSt g ≤ 1024 := Nat.le_trans hSt.2 (Nat.pow_le_pow_right (by decide) h10)
  obtain ⟨o, -, -, -, hM⟩ := t_ord hg ho
  refine xforI (fun s x => ∃ J : Nat → Nat → Int32, x = (nI s, xw σ J) ∧ (∀ j, j < 289 → J 176 j = nI (tP g F j + fb_ct (lE g F ((j : Int) - 144)) s)) ∧ (∀ s', s' < s → lW g F s' = true → J 175 (tQ g F s') = nI s') ∧ ∀ a k, a ≠ 175 → a ≠ 176 → J a k = I a k) (gSt g) ⟨I, rfl, fun j hj => h6 j hj, fun j hj => absurd hj (Nat.not_lt_zero _), fun _ _ _ _ => rfl⟩ ?_ ?_
  · rintro s x hs ⟨J, rfl, j1, j2, j3⟩
    have hSRJ : SR g J 16 F := SR_m hg (fun k _ _ => j3 _ k (by omega) (by omega)) (fun k _ => j3 _ k (by omega) (by omega)) (fun k _ => j3 _ k (by omega) (by omega)) (fun k _ => rfl) hSR
    have hKJ : ENK J (xR σ) (xlen σ) 157 g F := ENK_c (fun k => by rw [hE.2.1]; exact j3 _ k (by omega) (by omega)) hK
    have hal := allows_ok (σ := σ) (I := J) hS hg suA_16 hSRJ s
    have hof := of_ok (σ := σ) (I := J) hS hE hKJ (show s < 2 ^ gSz g by omega)
    cases hl : lW g F s with
    | false =>
      rw [hl] at hal
      refine ⟨_, ?_, J, rfl, fun j hj => ?_, fun s' h1 h2 => ?_, j3⟩
      · simp only [f_X9_sort_b96]
        rw [if_neg (by rw [nn_le (by omega) (by omega)]; omega)]
        simp (disch := first | assumption | omega) only [Option.bind_some, Option.map_some, xw_gR, xw_gN, xw_al, xw_ck, xw_uI, xw_ur, xup_at, xur_at, if_true, if_false, reduceIte, and_true, true_and, and_false, false_and, not_true_eq_false, not_false_eq_true, Nat.reduceEqDiff, eq_self, Nat.reduceAdd, Nat.reduceMul, kC1, kG1, kP1, kR1_0, kR1_1, kR1_2, kR1_3, kR1_4, kR1_5, kR1_6, kR1_7, kR1_8, kR1_9, kR1_10, kR1_11, kR1_12, kR1_13, kC2, kG2, kP2, kR2_0, kR2_1, kC3, kG3, kP3, kR3_0, kR3_1, kR3_2, kR3_3, kL4, kA4, kS4, kL5, kA5, kS5, kL6, kA6, kS6, kL7, kA7, kS7, kC8, kG8, kP8, kR8_0, kR8_1, kL9, kA9, kS9, kL10, kA10, kS10, kC11, kG11, kP11, kR11_0, kR11_1, kR11_2, kR11_3, kL12, kA12, kS12, kL13, kA13, kS13, kL14, kA14, kS14, kL15, kA15, kS15, kC16, kG16, kP16, kR16_0, kR16_1, kL17, kA17, kS17, kL18, kA18, kS18, kC19, kG19, kP19, kR19_0, kL20, kL141, kL146, kA146, kS146, kL151, kA151, kS151, kL156, kA156, kS156, kC157, kG157, kP157, kR157_0, kR157_1, kL158, kA158, kS158, kL159, kA159, kS159, kC161, kG161, kP161, kR161_0, kR161_1, kL162, kA162, kS162, kL163, kA163, kS163, kC165, kG165, kP165, kR165_0, kR165_1, kR165_2, kR165_3, kL166, kA166, kS166, kL167, kA167, kS167, kL168, kA168, kS168, kL169, kA169, kS169, kC170, kG170, kP170, kR170_0, kR170_1, kR170_2, kL171, kA171, kS171, kL172, kA172, kS172, kL173, kA173, kS173, kC174, kG174, kP174, kR174_0, kR174_1, kR174_2, kR174_3, kR174_4, kL175, kA175, kS175, kL176, kA176, kS176, kL177, kA177, kS177, kL178, kA178, kS178, kL179, kC180, kG180, kP180, kL181, kL182, kA182, kS182, kC183, kG183, kP183, kR183_1, kR183_3, kR183_5, kR183_6, kR183_7, kR183_8, kR183_9, kR183_21, kR183_26, kR183_27, kR183_30, kR183_31, kR183_33, kR183_34, kR183_36, kR183_37, kR183_38, kR183_39, kR183_40, kR183_41, kR183_42, kR183_43, kR183_44, kL184, kA184, kS184, kL185, kA185, kS185, kL186, kA186, kS186, kL187, kA187, kS187, kL188, kA188, kS188, kL189, kL190, kL191, kA191, kS191, kL192, kA192, kS192, kL193, kA193, kS193, kL194, kA194, kS194, kL195, kA195, kS195, kL196, kA196, kS196, kL197, kA197, kS197, kL198, kA198, kS198, kL199, kA199, kS199, kL200, kA200, kS200, kL201, kL202, kA202, kS202, kL203, kA203, kS203, kL204, kA204, kS204, kL205, kL206, kA206, kS206, hal]
        rw [nI_succ]
        rfl
      · have : lE g F ((j : Int) - 144) s = false := by unfold lE; rw [hl]; rfl
        rw [fb_ct_succ, this]; exact j1 j hj
      · by_cases z : s' = s
        · rw [z, hl] at h2; cases h2
        · exact j2 s' (by omega) h2
    | true =>
      rw [hl] at hal
      have hk := tK_ok hg ho s
      have hq : tQ g F s < 1024 := by
        have := tQ_top hg ho hs hl
        omega
      have hv := j1 _ hk.1
      have e1 : iI (eE g (zR F) s) + (144 : Int32) = nI (tK g F s) := by rw [← hk.2]; exact e144 _
      have hput := put_ok (σ := σ) (I := J) (s := s) hS hk.1 hq hv
      refine ⟨_, ?_, xup (xup J 175 (tQ g F s) (nI s)) 176 (tK g F s) (nI (tQ g F s + 1)), rfl, fun j hj => ?_, fun s' h1 h2 => ?_, fun a k h1 h2 => ?_⟩
      · simp only [f_X9_sort_b96]
        rw [if_neg (by rw [nn_le (by omega) (by omega)]; omega)]
        have hc2 : xck (xw σ J) 157 2 = some () := by rw [xw_ck]; exact xck_ok (hE.T hS)
        simp (disch := first | assumption | omega) only [Option.bind_some, Option.map_some, xw_gR, xw_gN, xw_al, xw_ck, xw_uI, xw_ur, xup_at, xur_at, if_true, if_false, reduceIte, and_true, true_and, and_false, false_and, not_true_eq_false, not_false_eq_true, Nat.reduceEqDiff, eq_self, Nat.reduceAdd, Nat.reduceMul, kC1, kG1, kP1, kR1_0, kR1_1, kR1_2, kR1_3, kR1_4, kR1_5, kR1_6, kR1_7, kR1_8, kR1_9, kR1_10, kR1_11, kR1_12, kR1_13, kC2, kG2, kP2, kR2_0, kR2_1, kC3, kG3, kP3, kR3_0, kR3_1, kR3_2, kR3_3, kL4, kA4, kS4, kL5, kA5, kS5, kL6, kA6, kS6, kL7, kA7, kS7, kC8, kG8, kP8, kR8_0, kR8_1, kL9, kA9, kS9, kL10, kA10, kS10, kC11, kG11, kP11, kR11_0, kR11_1, kR11_2, kR11_3, kL12, kA12, kS12, kL13, kA13, kS13, kL14, kA14, kS14, kL15, kA15, kS15, kC16, kG16, kP16, kR16_0, kR16_1, kL17, kA17, kS17, kL18, kA18, kS18, kC19, kG19, kP19, kR19_0, kL20, kL141, kL146, kA146, kS146, kL151, kA151, kS151, kL156, kA156, kS156, kC157, kG157, kP157, kR157_0, kR157_1, kL158, kA158, kS158, kL159, kA159, kS159, kC161, kG161, kP161, kR161_0, kR161_1, kL162, kA162, kS162, kL163, kA163, kS163, kC165, kG165, kP165, kR165_0, kR165_1, kR165_2, kR165_3, kL166, kA166, kS166, kL167, kA167, kS167, kL168, kA168, kS168, kL169, kA169, kS169, kC170, kG170, kP170, kR170_0, kR170_1, kR170_2, kL171, kA171, kS171, kL172, kA172, kS172, kL173, kA173, kS173, kC174, kG174, kP174, kR174_0, kR174_1, kR174_2, kR174_3, kR174_4, kL175, kA175, kS175, kL176, kA176, kS176, kL177, kA177, kS177, kL178, kA178, kS178, kL179, kC180, kG180, kP180, kL181, kL182, kA182, kS182, kC183, kG183, kP183, kR183_1, kR183_3, kR183_5, kR183_6, kR183_7, kR183_8, kR183_9, kR183_21, kR183_26, kR183_27, kR183_30, kR183_31, kR183_33, kR183_34, kR183_36, kR183_37, kR183_38, kR183_39, kR183_40, kR183_41, kR183_42, kR183_43, kR183_44, kL184, kA184, kS184, kL185, kA185, kS185, kL186, kA186, kS186, kL187, kA187, kS187, kL188, kA188, kS188, kL189, kL190, kL191, kA191, kS191, kL192, kA192, kS192, kL193, kA193, kS193, kL194, kA194, kS194, kL195, kA195, kS195, kL196, kA196, kS196, kL197, kA197, kS197, kL198, kA198, kS198, kL199, kA199, kS199, kL200, kA200, kS200, kL201, kL202, kA202, kS202, kL203, kA203, kS203, kL204, kA204, kS204, kL205, kL206, kA206, kS206, hal, one0, hof, hc2, e1, hput]
        rw [nI_succ, nI_succ]
      · rw [xup_at]
        by_cases z : j = tK g F s
        · rw [if_pos ⟨rfl, z⟩, z, fb_ct_succ, tE_ok hg ho hl]
          rfl
        · rw [if_neg (by omega), xup_at, if_neg (by omega), j1 j hj, fb_ct_succ]
          have : lE g F ((j : Int) - 144) s = false := by
            unfold lE
            have : ¬ (eE g (zR F) s = (j : Int) - 144) := by omega
            simp [this]
          rw [this]; rfl
      · rw [xup_at, if_neg (by omega), xup_at]
        by_cases z : s' = s
        · rw [if_pos ⟨rfl, by rw [z]⟩, z]
        · rw [if_neg (fun q => z (tQ_inj hg ho (by omega) hs h2 hl q.2))]; exact j2 s' (by omega) h2
      · rw [xup_at, if_neg (by omega), xup_at, if_neg (by omega)]; exact j3 a k h1 h2
  · rintro x ⟨J, rfl, j1, j2, j3⟩
    refine ⟨_, ?_, J, rfl, j2, j3⟩
    simp only [f_X9_sort_b96]
    rw [if_pos (by rw [nn_le (by omega) (by omega)]; exact Nat.le_refl _)]
    rfl
theorem sort_ok (hS : Shp σ) (hg : g ∈ gAll) (ho : RO g F) (h10 : gSz g ≤ 10) (hE : EnO σ 157 c m) (hK : ENK I (xR σ) (xlen σ) 157 g F) (hSR : SR g I 16 F) (hW : WAY I 166 g F) :
    ∃ J, f_X9_sort (xw σ I) 174 157 165 16 (nI (gSz g)) = some (xw (tS σ) J) ∧ TRK J (xR (tS σ)) g F ∧ ∀ a k, a ≠ 175 → a ≠ 176 → ¬ (a = 174 ∧ (k = 7 ∨ k = 8)) → J a k = I a k := by
  have hEb := hE.b
  have hSt := gSt_b hg
  have hS2 := tS_Shp hS
  have h1024 : gSt g ≤ 1024 := Nat.le_trans hSt.2 (Nat.pow_le_pow_right (by decide) h10)
  obtain ⟨I1, hI1⟩ : ∃ I1, I1 = xup (xup I 174 7 (nI (gSz g))) 174 8 0 := ⟨_, rfl⟩
  have u1 : ∀ a k, ¬ (a = 174 ∧ (k = 7 ∨ k = 8)) → I1 a k = I a k := fun a k h => by rw [hI1, xup_at, if_neg (by omega), xup_at, if_neg (by omega)]
  obtain ⟨r, e1, J, rfl, a1, a2, a3, a4⟩ := sort1_ok (σ := tS σ) (I := I1) (g := g) (F := F) (Q := fun r => ∃ J, r = xw (tS σ) J ∧ J 174 8 = nI (tP g F 289) ∧ J 174 7 = nI (gSz g) ∧ (∀ s, s < gSt g → lW g F s = true → J 175 (tQ g F s) = nI s) ∧ ∀ a k, a ≠ 175 → a ≠ 176 → ¬ (a = 174 ∧ (k = 7 ∨ k = 8)) → J a k = I a k) hS2 (fun k hk => by rw [u1 _ _ (by omega)]; exact hW k hk) (by rw [hI1, xup_at, if_pos ⟨rfl, rfl⟩]; rfl) (by
    intro J j1 j2 j3
    have hSRJ : SR g J 16 F := SR_m hg (fun k _ _ => by rw [j3 _ k (by omega) (by omega)]; exact u1 _ _ (by omega)) (fun k _ => by rw [j3 _ k (by omega) (by omega)]; exact u1 _ _ (by omega)) (fun k _ => by rw [j3 _ k (by omega) (by omega)]; exact u1 _ _ (by omega)) (fun k _ => rfl) hSR
    have hKJ : ENK J (xR (tS σ)) (xlen (tS σ)) 157 g F := tS_K (ENK_c (fun k => by rw [hE.2.1, j3 _ k (by omega) (by omega)]; exact u1 _ _ (by omega)) hK)
    obtain ⟨r, e2, J2, rfl, b1, b2⟩ := sort2_ok (σ := tS σ) (I := J) hS2 hg ho h10 (tS_E hE) hKJ hSRJ j2
    have j7 : J 174 7 = nI (gSz g) := by rw [j3 174 7 (by omega) (by omega), hI1, xup_at, if_neg (by omega), xup_at, if_pos ⟨rfl, rfl⟩]
    refine ⟨xw (tS σ) J2, ?_, J2, rfl, by rw [b2 _ _ (by omega) (by omega)]; exact j1, by rw [b2 _ _ (by omega) (by omega)]; exact j7, b1, fun a k h1 h2 h3 => by rw [b2 a k h1 h2, j3 a k h2 (by omega)]; exact u1 a k h3⟩
    simp only [f_X9_sort_b24]
    rw [if_pos (by decide)]
    have q0 : (nI (gSz g) ≤ 0) = (gSz g ≤ 0) := nn_le (b := 0) (by omega) (by decide)
    have q1 : ((10 : Int32) < nI (gSz g)) = (10 < gSz g) := nn_lt (a := 10) (by omega) (by omega)
    simp (disch := first | assumption | omega) only [Option.bind_some, Option.map_some, xw_gR, xw_gN, xw_al, xw_ck, xw_uI, xw_ur, xup_at, xur_at, if_true, if_false, reduceIte, and_true, true_and, and_false, false_and, not_true_eq_false, not_false_eq_true, Nat.reduceEqDiff, eq_self, Nat.reduceAdd, Nat.reduceMul, kC1, kG1, kP1, kR1_0, kR1_1, kR1_2, kR1_3, kR1_4, kR1_5, kR1_6, kR1_7, kR1_8, kR1_9, kR1_10, kR1_11, kR1_12, kR1_13, kC2, kG2, kP2, kR2_0, kR2_1, kC3, kG3, kP3, kR3_0, kR3_1, kR3_2, kR3_3, kL4, kA4, kS4, kL5, kA5, kS5, kL6, kA6, kS6, kL7, kA7, kS7, kC8, kG8, kP8, kR8_0, kR8_1, kL9, kA9, kS9, kL10, kA10, kS10, kC11, kG11, kP11, kR11_0, kR11_1, kR11_2, kR11_3, kL12, kA12, kS12, kL13, kA13, kS13, kL14, kA14, kS14, kL15, kA15, kS15, kC16, kG16, kP16, kR16_0, kR16_1, kL17, kA17, kS17, kL18, kA18, kS18, kC19, kG19, kP19, kR19_0, kL20, kL141, kL146, kA146, kS146, kL151, kA151, kS151, kL156, kA156, kS156, kC157, kG157, kP157, kR157_0, kR157_1, kL158, kA158, kS158, kL159, kA159, kS159, kC161, kG161, kP161, kR161_0, kR161_1, kL162, kA162, kS162, kL163, kA163, kS163, kC165, kG165, kP165, kR165_0, kR165_1, kR165_2, kR165_3, kL166, kA166, kS166, kL167, kA167, kS167, kL168, kA168, kS168, kL169, kA169, kS169, kC170, kG170, kP170, kR170_0, kR170_1, kR170_2, kL171, kA171, kS171, kL172, kA172, kS172, kL173, kA173, kS173, kC174, kG174, kP174, kR174_0, kR174_1, kR174_2, kR174_3, kR174_4, kL175, kA175, kS175, kL176, kA176, kS176, kL177, kA177, kS177, kL178, kA178, kS178, kL179, kC180, kG180, kP180, kL181, kL182, kA182, kS182, kC183, kG183, kP183, kR183_1, kR183_3, kR183_5, kR183_6, kR183_7, kR183_8, kR183_9, kR183_21, kR183_26, kR183_27, kR183_30, kR183_31, kR183_33, kR183_34, kR183_36, kR183_37, kR183_38, kR183_39, kR183_40, kR183_41, kR183_42, kR183_43, kR183_44, kL184, kA184, kS184, kL185, kA185, kS185, kL186, kA186, kS186, kL187, kA187, kS187, kL188, kA188, kS188, kL189, kL190, kL191, kA191, kS191, kL192, kA192, kS192, kL193, kA193, kS193, kL194, kA194, kS194, kL195, kA195, kS195, kL196, kA196, kS196, kL197, kA197, kS197, kL198, kA198, kS198, kL199, kA199, kS199, kL200, kA200, kS200, kL201, kL202, kA202, kS202, kL203, kA203, kS203, kL204, kA204, kS204, kL205, kL206, kA206, kS206, j7, q0, q1, show ¬ (10 < gSz g) by omega, nn_one]
    by_cases z : gSz g = 0
    · rw [if_pos (by omega)]
      have : gSt g = 0 := by unfold gSt; rw [if_pos z]
      rw [this] at e2
      rw [show (0 : Int32) = nI 0 from rfl, show nI 0 = (0 : Int32) from rfl] at *
      rw [e2]; rfl
    · rw [if_neg (by omega)]
      have : gSt g = 2 ^ gSz g := by unfold gSt; rw [if_neg z]
      rw [this] at e2
      rw [e2]; rfl)
  refine ⟨J, ?_, ?_, a4⟩
  · unfold f_X9_sort
    rw [xnz_ok (by decide), Option.bind_some, xpR_ok (show xT (xw σ I) 174 = 9 from sT174 hS), Option.bind_some, xnz_ok (by decide), Option.bind_some, xpR_ok (show xT (xuR (xw σ I) 174 5 157) 174 = 9 from (show xT σ 174 = 9 from sT174 hS)), Option.bind_some]
    show ((xpI (xw (tS σ) I) 174 9 7 (nI (gSz g))).bind fun σ8 => _) = _
    simp (disch := first | assumption | omega) only [Option.bind_some, Option.map_some, xw_gR, xw_gN, xw_al, xw_ck, xw_uI, xw_ur, xup_at, xur_at, if_true, if_false, reduceIte, and_true, true_and, and_false, false_and, not_true_eq_false, not_false_eq_true, Nat.reduceEqDiff, eq_self, Nat.reduceAdd, Nat.reduceMul, kC1, kG1, kP1, kR1_0, kR1_1, kR1_2, kR1_3, kR1_4, kR1_5, kR1_6, kR1_7, kR1_8, kR1_9, kR1_10, kR1_11, kR1_12, kR1_13, kC2, kG2, kP2, kR2_0, kR2_1, kC3, kG3, kP3, kR3_0, kR3_1, kR3_2, kR3_3, kL4, kA4, kS4, kL5, kA5, kS5, kL6, kA6, kS6, kL7, kA7, kS7, kC8, kG8, kP8, kR8_0, kR8_1, kL9, kA9, kS9, kL10, kA10, kS10, kC11, kG11, kP11, kR11_0, kR11_1, kR11_2, kR11_3, kL12, kA12, kS12, kL13, kA13, kS13, kL14, kA14, kS14, kL15, kA15, kS15, kC16, kG16, kP16, kR16_0, kR16_1, kL17, kA17, kS17, kL18, kA18, kS18, kC19, kG19, kP19, kR19_0, kL20, kL141, kL146, kA146, kS146, kL151, kA151, kS151, kL156, kA156, kS156, kC157, kG157, kP157, kR157_0, kR157_1, kL158, kA158, kS158, kL159, kA159, kS159, kC161, kG161, kP161, kR161_0, kR161_1, kL162, kA162, kS162, kL163, kA163, kS163, kC165, kG165, kP165, kR165_0, kR165_1, kR165_2, kR165_3, kL166, kA166, kS166, kL167, kA167, kS167, kL168, kA168, kS168, kL169, kA169, kS169, kC170, kG170, kP170, kR170_0, kR170_1, kR170_2, kL171, kA171, kS171, kL172, kA172, kS172, kL173, kA173, kS173, kC174, kG174, kP174, kR174_0, kR174_1, kR174_2, kR174_3, kR174_4, kL175, kA175, kS175, kL176, kA176, kS176, kL177, kA177, kS177, kL178, kA178, kS178, kL179, kC180, kG180, kP180, kL181, kL182, kA182, kS182, kC183, kG183, kP183, kR183_1, kR183_3, kR183_5, kR183_6, kR183_7, kR183_8, kR183_9, kR183_21, kR183_26, kR183_27, kR183_30, kR183_31, kR183_33, kR183_34, kR183_36, kR183_37, kR183_38, kR183_39, kR183_40, kR183_41, kR183_42, kR183_43, kR183_44, kL184, kA184, kS184, kL185, kA185, kS185, kL186, kA186, kS186, kL187, kA187, kS187, kL188, kA188, kS188, kL189, kL190, kL191, kA191, kS191, kL192, kA192, kS192, kL193, kA193, kS193, kL194, kA194, kS194, kL195, kA195, kS195, kL196, kA196, kS196, kL197, kA197, kS197, kL198, kA198, kS198, kL199, kA199, kS199, kL200, kA200, kS200, kL201, kL202, kA202, kS202, kL203, kA203, kS203, kL204, kA204, kS204, kL205, kL206, kA206, kS206, ← hI1]
    exact e1
  · intro _
    obtain ⟨o, o1, o2, o3, o4⟩ := t_ord hg ho
    refine ⟨a2, rfl, rfl, tP g F 289, o, by omega, a1, fun i hi => ?_, o2, o3⟩
    obtain ⟨z1, z2, z3⟩ := o1 i hi
    refine ⟨?_, z1, z2⟩
    rw [← a3 _ z1 z2, z3]
end SORT
