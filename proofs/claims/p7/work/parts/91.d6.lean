/-! the terrain's own rows; basin -/
theorem TRK_c2 {I I' : Nat → Nat → Int32} {R : Nat → Nat → Nat} {g : GD} {F : Nat → Int32} (h7 : I' 174 7 = I 174 7) (h8 : I' 174 8 = I 174 8) (h : ∀ k, I' 175 k = I 175 k) (H : TRK I R g F) : TRK I' R g F := by
  intro hn
  obtain ⟨h1, h2, h3, M, o, h4, h5, h6, h9⟩ := H hn
  exact ⟨by rw [h7]; exact h1, h2, h3, M, o, h4, by rw [h8]; exact h5, fun i hi => by rw [h]; exact h6 i hi, h9⟩
theorem IV.terr {n : Nat} {σ : XS} {g : GD} {gT gP : GH} {st : Nat} (H : IV n σ g gT gP st) {I' : Nat → Nat → Int32} (u : ∀ a k, ¬ (176 ≤ a ∧ a ≤ 182) → ¬ (a = 174 ∧ k = 9) → I' a k = xI σ a k) : IV n (xw σ I') g gT gP st := by
  have hc := H.cells
  refine H.cache (τ := xw σ I') H.shp (fun a k h => u a k (by omega) (by omega)) ?_ H.cel
  obtain ⟨c1, c2, c3, c4⟩ := H.cch
  refine ⟨?_, ?_, ?_, ?_⟩
  · rw [xw_I, u 157 5 (by omega) (by omega)]
    rcases c1 with z | ⟨q, z1, z2, z3⟩
    · exact .inl z
    · exact .inr ⟨q, z1, z2, ENK_c (fun k => u _ k (by rw [xw_R]; omega) (by rw [xw_R]; omega)) z3⟩
  · rw [xw_I, u 165 5 (by omega) (by omega)]
    rcases c2 with z | ⟨q, z1, z2, z3⟩
    · exact .inl z
    · exact .inr ⟨q, z1, z2, LVK_c (fun b k hb => u _ k (by omega) (by omega)) z3⟩
  · rw [xw_I, u 170 3 (by omega) (by omega)]
    rcases c3 with z | ⟨q, z1, z2, z3⟩
    · exact .inl z
    · exact .inr ⟨q, z1, z2, BRK_c (fun k => u _ k (by omega) (by omega)) z3⟩
  · rw [xw_I, u 174 10 (by omega) (by omega)]
    rcases c4 with z | ⟨q, z1, z2, z3⟩
    · exact .inl z
    · exact .inr ⟨q, z1, z2, TRK_c2 (u _ _ (by omega) (by omega)) (u _ _ (by omega) (by omega)) (fun k => u _ _ (by omega) (by omega)) z3⟩
/-- what the terrain's rows rest on -/
def TC (σ : XS) (J : Nat → Nat → Int32) (g : GD) (F : Nat → Int32) (c m : Nat) : Prop :=
  Shp σ ∧ g ∈ gAll ∧ RO g F ∧ gSz g ≤ 10 ∧ EnO σ 157 c m ∧ ENK J (xR σ) (xlen σ) 157 g F ∧ SR g J 16 F ∧ xR σ 174 5 = 157 ∧ xR σ 174 6 = 16 ∧ J 174 7 = nI (gSz g)
/-- the states in their order -/
def TO (J : Nat → Nat → Int32) (g : GD) (F : Nat → Int32) (M : Nat) (o : Nat → Nat) : Prop :=
  M ≤ 1024 ∧ J 174 8 = nI M ∧ (∀ i, i < M → J 175 i = nI (o i) ∧ o i < gSt g ∧ lW g F (o i) = true) ∧ (∀ i j, i < j → j < M → eE g (zR F) (o i) ≤ eE g (zR F) (o j) ∧ o i ≠ o j) ∧ ∀ s, s < gSt g → lW g F s = true → ∃ i, i < M ∧ o i = s
def nxS (s : Nat) (o : Option Nat) : Nat := match o with
  | none => s
  | some i => s ^^^ 2 ^ i
def fE (g : GD) (F : Nat → Int32) (s : Nat) : Nat := fs g F s 288
section TERR
variable {σ : XS} {J J' : Nat → Nat → Int32} {g : GD} {F : Nat → Int32} {c m M : Nat} {o : Nat → Nat}
theorem TC_c (u : ∀ a k, ¬ (176 ≤ a ∧ a ≤ 182) → ¬ (a = 174 ∧ k = 9) → J' a k = J a k) (h : TC σ J g F c m) : TC σ J' g F c m := by
  obtain ⟨hS, hg, ho, h10, hE, hK, hSR, r5, r6, j7⟩ := h
  have hEb := hE.b
  exact ⟨hS, hg, ho, h10, hE, ENK_c (fun k => by rw [hE.2.1]; exact u _ k (by omega) (by omega)) hK, SR_m hg (fun k _ _ => u _ k (by omega) (by omega)) (fun k _ => u _ k (by omega) (by omega)) (fun k _ => u _ k (by omega) (by omega)) (fun k _ => rfl) hSR, r5, r6, by rw [u _ _ (by omega) (by omega)]; exact j7⟩
theorem TO_c (u : ∀ a k, ¬ (176 ≤ a ∧ a ≤ 182) → ¬ (a = 174 ∧ k = 9) → J' a k = J a k) (h : TO J g F M o) : TO J' g F M o := by
  obtain ⟨h1, h2, h3, h4⟩ := h
  exact ⟨h1, by rw [u _ _ (by omega) (by omega)]; exact h2, fun i hi => by rw [u _ _ (by omega) (by omega)]; exact h3 i hi, h4⟩
theorem TC.st (h : TC σ J g F c m) : gSt g ≤ 1024 := Nat.le_trans (gSt_b h.2.1).2 (Nat.pow_le_pow_right (by decide) h.2.2.2.1)
theorem tEn_ok (h : TC σ J g F c m) {s : Nat} (hs : s < 2 ^ gSz g) : f_X9_energyOf (xw σ J) 174 (nI s) = some (iI (eE g (zR F) s)) := by
  obtain ⟨hS, hg, ho, h10, hE, hK, hSR, r5, r6, j7⟩ := h
  unfold f_X9_energyOf
  have e5 : xgN σ 174 9 5 = some 157 := by rw [xgN_ok (sT174 hS), r5]
  have h1 := of_ok (σ := σ) (I := J) hS hE hK hs
  simp (disch := first | assumption | omega) only [Option.bind_some, Option.map_some, xw_gR, xw_gN, xw_al, xw_ck, xw_uI, xw_ur, xup_at, xur_at, if_true, if_false, reduceIte, and_true, true_and, and_false, false_and, not_true_eq_false, not_false_eq_true, Nat.reduceEqDiff, eq_self, Nat.reduceAdd, Nat.reduceMul, kC1, kG1, kP1, kR1_0, kR1_1, kR1_2, kR1_3, kR1_4, kR1_5, kR1_6, kR1_7, kR1_8, kR1_9, kR1_10, kR1_11, kR1_12, kR1_13, kC2, kG2, kP2, kR2_0, kR2_1, kC3, kG3, kP3, kR3_0, kR3_1, kR3_2, kR3_3, kL4, kA4, kS4, kL5, kA5, kS5, kL6, kA6, kS6, kL7, kA7, kS7, kC8, kG8, kP8, kR8_0, kR8_1, kL9, kA9, kS9, kL10, kA10, kS10, kC11, kG11, kP11, kR11_0, kR11_1, kR11_2, kR11_3, kL12, kA12, kS12, kL13, kA13, kS13, kL14, kA14, kS14, kL15, kA15, kS15, kC16, kG16, kP16, kR16_0, kR16_1, kL17, kA17, kS17, kL18, kA18, kS18, kC19, kG19, kP19, kR19_0, kL20, kL141, kL146, kA146, kS146, kL151, kA151, kS151, kL156, kA156, kS156, kC157, kG157, kP157, kR157_0, kR157_1, kL158, kA158, kS158, kL159, kA159, kS159, kC161, kG161, kP161, kR161_0, kR161_1, kL162, kA162, kS162, kL163, kA163, kS163, kC165, kG165, kP165, kR165_0, kR165_1, kR165_2, kR165_3, kL166, kA166, kS166, kL167, kA167, kS167, kL168, kA168, kS168, kL169, kA169, kS169, kC170, kG170, kP170, kR170_0, kR170_1, kR170_2, kL171, kA171, kS171, kL172, kA172, kS172, kL173, kA173, kS173, kC174, kG174, kP174, kR174_0, kR174_1, kR174_2, kR174_3, kR174_4, kL175, kA175, kS175, kL176, kA176, kS176, kL177, kA177, kS177, kL178, kA178, kS178, kL179, kC180, kG180, kP180, kL181, kL182, kA182, kS182, kC183, kG183, kP183, kR183_1, kR183_3, kR183_5, kR183_6, kR183_7, kR183_8, kR183_9, kR183_21, kR183_26, kR183_27, kR183_30, kR183_31, kR183_33, kR183_34, kR183_36, kR183_37, kR183_38, kR183_39, kR183_40, kR183_41, kR183_42, kR183_43, kR183_44, kL184, kA184, kS184, kL185, kA185, kS185, kL186, kA186, kS186, kL187, kA187, kS187, kL188, kA188, kS188, kL189, kL190, kL191, kA191, kS191, kL192, kA192, kS192, kL193, kA193, kS193, kL194, kA194, kS194, kL195, kA195, kS195, kL196, kA196, kS196, kL197, kA197, kS197, kL198, kA198, kS198, kL199, kA199, kS199, kL200, kA200, kS200, kL201, kL202, kA202, kS202, kL203, kA203, kS203, kL204, kA204, kS204, kL205, kL206, kA206, kS206, e5, h1]
theorem tCan_ok (h : TC σ J g F c m) {i : Nat} (hi : i < gSz g) : f_X9_canTurn (xw σ J) 174 (nI i) = some (if F (48 + i) = 0 then 1 else 0) := by
  obtain ⟨hS, hg, ho, h10, hE, hK, hSR, r5, r6, j7⟩ := h
  obtain ⟨-, -, ⟨p, u, e3, e4, e5, e6⟩, -, -⟩ := hSR
  have hp : p < 65536 := Nat.lt_pow_two_of_testBit (n := 16) p (fun j hj => by rw [e5]; simp; omega)
  have hpb : (p.testBit i = false) = (F (48 + i) = 0) := by rw [e5]; simp [hi]
  unfold f_X9_canTurn
  have e7 : xgN σ 174 9 6 = some 16 := by rw [xgN_ok (sT174 hS), r6]
  have h1 := isPinned_ok (σ := σ) (I := J) hS suA_16 e3 hp (show i < 32 by omega)
  simp (disch := first | assumption | omega) only [Option.bind_some, Option.map_some, xw_gR, xw_gN, xw_al, xw_ck, xw_uI, xw_ur, xup_at, xur_at, if_true, if_false, reduceIte, and_true, true_and, and_false, false_and, not_true_eq_false, not_false_eq_true, Nat.reduceEqDiff, eq_self, Nat.reduceAdd, Nat.reduceMul, kC1, kG1, kP1, kR1_0, kR1_1, kR1_2, kR1_3, kR1_4, kR1_5, kR1_6, kR1_7, kR1_8, kR1_9, kR1_10, kR1_11, kR1_12, kR1_13, kC2, kG2, kP2, kR2_0, kR2_1, kC3, kG3, kP3, kR3_0, kR3_1, kR3_2, kR3_3, kL4, kA4, kS4, kL5, kA5, kS5, kL6, kA6, kS6, kL7, kA7, kS7, kC8, kG8, kP8, kR8_0, kR8_1, kL9, kA9, kS9, kL10, kA10, kS10, kC11, kG11, kP11, kR11_0, kR11_1, kR11_2, kR11_3, kL12, kA12, kS12, kL13, kA13, kS13, kL14, kA14, kS14, kL15, kA15, kS15, kC16, kG16, kP16, kR16_0, kR16_1, kL17, kA17, kS17, kL18, kA18, kS18, kC19, kG19, kP19, kR19_0, kL20, kL141, kL146, kA146, kS146, kL151, kA151, kS151, kL156, kA156, kS156, kC157, kG157, kP157, kR157_0, kR157_1, kL158, kA158, kS158, kL159, kA159, kS159, kC161, kG161, kP161, kR161_0, kR161_1, kL162, kA162, kS162, kL163, kA163, kS163, kC165, kG165, kP165, kR165_0, kR165_1, kR165_2, kR165_3, kL166, kA166, kS166, kL167, kA167, kS167, kL168, kA168, kS168, kL169, kA169, kS169, kC170, kG170, kP170, kR170_0, kR170_1, kR170_2, kL171, kA171, kS171, kL172, kA172, kS172, kL173, kA173, kS173, kC174, kG174, kP174, kR174_0, kR174_1, kR174_2, kR174_3, kR174_4, kL175, kA175, kS175, kL176, kA176, kS176, kL177, kA177, kS177, kL178, kA178, kS178, kL179, kC180, kG180, kP180, kL181, kL182, kA182, kS182, kC183, kG183, kP183, kR183_1, kR183_3, kR183_5, kR183_6, kR183_7, kR183_8, kR183_9, kR183_21, kR183_26, kR183_27, kR183_30, kR183_31, kR183_33, kR183_34, kR183_36, kR183_37, kR183_38, kR183_39, kR183_40, kR183_41, kR183_42, kR183_43, kR183_44, kL184, kA184, kS184, kL185, kA185, kS185, kL186, kA186, kS186, kL187, kA187, kS187, kL188, kA188, kS188, kL189, kL190, kL191, kA191, kS191, kL192, kA192, kS192, kL193, kA193, kS193, kL194, kA194, kS194, kL195, kA195, kS195, kL196, kA196, kS196, kL197, kA197, kS197, kL198, kA198, kS198, kL199, kA199, kS199, kL200, kA200, kS200, kL201, kL202, kA202, kS202, kL203, kA203, kS203, kL204, kA204, kS204, kL205, kL206, kA206, kS206, e7, h1, bI_0, hpb]
  by_cases q : F (48 + i) = 0
  · rw [if_pos q, if_pos q]
  · rw [if_neg q, if_neg q]
theorem isSt_ok {s : Nat} (hs : s < 1024) : f_X9_isState (nI s) = some 1 := by
  unfold f_X9_isState
  rw [if_neg (nI_pos (by omega)), if_neg (by rw [show (1024 : Int32) = nI 1024 from rfl, nn_le (by omega) (by omega)]; omega)]
theorem nxE (hg : g ∈ gAll) {s k : Nat} (hk : k ≤ gSz g) : eE g (zR F) (nxS s (sp g F s k).2) = eE g (zR F) s + (sp g F s k).1 := by
  cases h : (sp g F s k).2 with
  | none =>
    have := (sp_some g F s k).1 h
    show eE g (zR F) s = _
    omega
  | some i =>
    have q := (sp_some g F s k).2 i h
    show eE g (zR F) (s ^^^ 2 ^ i) = _
    rw [eE_flip hg _ (by omega), q.2.2.1]
theorem nxB {s k : Nat} (hs : s < gSt g) (hk : k ≤ gSz g) : nxS s (sp g F s k).2 < gSt g := by
  cases h : (sp g F s k).2 with
  | none => exact hs
  | some i =>
    have q := (sp_some g F s k).2 i h
    exact gSt_flip hs (by omega)
theorem steepFrom_ok (h : TC σ J g F c m) {s : Nat} (hs : s < gSt g) : f_X9_steepestFrom (xw σ J) 174 (nI s) = some (nI (nxS s (sp g F s (gSz g)).2)) := by
  have h' := h
  obtain ⟨hS, hg, ho, h10, hE, hK, hSR, r5, r6, j7⟩ := h'
  unfold f_X9_steepestFrom
  refine xforE (fun i : Nat => (nI (nxS s (sp g F s i).2), nI i)) (gSz g) rfl (fun i hi => ?_) ?_
  · simp only [f_X9_steepestFrom_b4]
    have hf := (gSt_pos (gSt_flip hs hi)).2
    have hn := (gSt_pos (nxB (F := F) hs (show i ≤ gSz g by omega))).2
    have hlb := sp_lb hg ho s i (by omega)
    have hle := (sp_le g F s i).1
    have hcb := sp_b hg ho s hi
    have hb := eE_b hg ho s
    have hq : (iI (eE g (zR F) s + (sp g F s i).1) ≤ iI (eE g (zR F) s + eC g (zR F) s i)) = ((sp g F s i).1 ≤ eC g (zR F) s i) := by
      rw [iI_le (by omega) (by omega) (by omega) (by omega)]; apply propext; omega
    have e1 := tEn_ok h hf
    have e2 := tEn_ok h hn
    rw [eE_flip hg _ hi] at e1
    rw [nxE hg (by omega)] at e2
    have e3 := tCan_ok h hi
    simp (disch := first | assumption | omega) only [Option.bind_some, Option.map_some, xw_gR, xw_gN, xw_al, xw_ck, xw_uI, xw_ur, xup_at, xur_at, if_true, if_false, reduceIte, and_true, true_and, and_false, false_and, not_true_eq_false, not_false_eq_true, Nat.reduceEqDiff, eq_self, Nat.reduceAdd, Nat.reduceMul, kC1, kG1, kP1, kR1_0, kR1_1, kR1_2, kR1_3, kR1_4, kR1_5, kR1_6, kR1_7, kR1_8, kR1_9, kR1_10, kR1_11, kR1_12, kR1_13, kC2, kG2, kP2, kR2_0, kR2_1, kC3, kG3, kP3, kR3_0, kR3_1, kR3_2, kR3_3, kL4, kA4, kS4, kL5, kA5, kS5, kL6, kA6, kS6, kL7, kA7, kS7, kC8, kG8, kP8, kR8_0, kR8_1, kL9, kA9, kS9, kL10, kA10, kS10, kC11, kG11, kP11, kR11_0, kR11_1, kR11_2, kR11_3, kL12, kA12, kS12, kL13, kA13, kS13, kL14, kA14, kS14, kL15, kA15, kS15, kC16, kG16, kP16, kR16_0, kR16_1, kL17, kA17, kS17, kL18, kA18, kS18, kC19, kG19, kP19, kR19_0, kL20, kL141, kL146, kA146, kS146, kL151, kA151, kS151, kL156, kA156, kS156, kC157, kG157, kP157, kR157_0, kR157_1, kL158, kA158, kS158, kL159, kA159, kS159, kC161, kG161, kP161, kR161_0, kR161_1, kL162, kA162, kS162, kL163, kA163, kS163, kC165, kG165, kP165, kR165_0, kR165_1, kR165_2, kR165_3, kL166, kA166, kS166, kL167, kA167, kS167, kL168, kA168, kS168, kL169, kA169, kS169, kC170, kG170, kP170, kR170_0, kR170_1, kR170_2, kL171, kA171, kS171, kL172, kA172, kS172, kL173, kA173, kS173, kC174, kG174, kP174, kR174_0, kR174_1, kR174_2, kR174_3, kR174_4, kL175, kA175, kS175, kL176, kA176, kS176, kL177, kA177, kS177, kL178, kA178, kS178, kL179, kC180, kG180, kP180, kL181, kL182, kA182, kS182, kC183, kG183, kP183, kR183_1, kR183_3, kR183_5, kR183_6, kR183_7, kR183_8, kR183_9, kR183_21, kR183_26, kR183_27, kR183_30, kR183_31, kR183_33, kR183_34, kR183_36, kR183_37, kR183_38, kR183_39, kR183_40, kR183_41, kR183_42, kR183_43, kR183_44, kL184, kA184, kS184, kL185, kA185, kS185, kL186, kA186, kS186, kL187, kA187, kS187, kL188, kA188, kS188, kL189, kL190, kL191, kA191, kS191, kL192, kA192, kS192, kL193, kA193, kS193, kL194, kA194, kS194, kL195, kA195, kS195, kL196, kA196, kS196, kL197, kA197, kS197, kL198, kA198, kS198, kL199, kA199, kS199, kL200, kA200, kS200, kL201, kL202, kA202, kS202, kL203, kA203, kS203, kL204, kA204, kS204, kL205, kL206, kA206, kS206, j7, nn_le, show ¬ (gSz g ≤ i) by omega, e3, nn_one, nn_xor, e1, e2, hq]
    rw [← nI_succ]
    show _ = some (Sum.inl (nI (nxS s (sp g F s (i + 1)).2), nI (i + 1)))
    rw [sp]
    by_cases h0 : F (48 + i) = 0
    · rw [if_pos h0, if_neg (by decide)]
      by_cases h1 : (sp g F s i).1 ≤ eC g (zR F) s i
      · rw [if_pos h1, if_neg (fun z => by omega)]
      · rw [if_neg h1, if_pos ⟨h0, by omega⟩]
        rfl
    · rw [if_neg h0, if_pos rfl, if_neg (fun z => h0 z.1)]
  · simp only [f_X9_steepestFrom_b4]
    simp (disch := first | assumption | omega) only [Option.bind_some, Option.map_some, xw_gR, xw_gN, xw_al, xw_ck, xw_uI, xw_ur, xup_at, xur_at, if_true, if_false, reduceIte, and_true, true_and, and_false, false_and, not_true_eq_false, not_false_eq_true, Nat.reduceEqDiff, eq_self, Nat.reduceAdd, Nat.reduceMul, kC1, kG1, kP1, kR1_0, kR1_1, kR1_2, kR1_3, kR1_4, kR1_5, kR1_6, kR1_7, kR1_8, kR1_9, kR1_10, kR1_11, kR1_12, kR1_13, kC2, kG2, kP2, kR2_0, kR2_1, kC3, kG3, kP3, kR3_0, kR3_1, kR3_2, kR3_3, kL4, kA4, kS4, kL5, kA5, kS5, kL6, kA6, kS6, kL7, kA7, kS7, kC8, kG8, kP8, kR8_0, kR8_1, kL9, kA9, kS9, kL10, kA10, kS10, kC11, kG11, kP11, kR11_0, kR11_1, kR11_2, kR11_3, kL12, kA12, kS12, kL13, kA13, kS13, kL14, kA14, kS14, kL15, kA15, kS15, kC16, kG16, kP16, kR16_0, kR16_1, kL17, kA17, kS17, kL18, kA18, kS18, kC19, kG19, kP19, kR19_0, kL20, kL141, kL146, kA146, kS146, kL151, kA151, kS151, kL156, kA156, kS156, kC157, kG157, kP157, kR157_0, kR157_1, kL158, kA158, kS158, kL159, kA159, kS159, kC161, kG161, kP161, kR161_0, kR161_1, kL162, kA162, kS162, kL163, kA163, kS163, kC165, kG165, kP165, kR165_0, kR165_1, kR165_2, kR165_3, kL166, kA166, kS166, kL167, kA167, kS167, kL168, kA168, kS168, kL169, kA169, kS169, kC170, kG170, kP170, kR170_0, kR170_1, kR170_2, kL171, kA171, kS171, kL172, kA172, kS172, kL173, kA173, kS173, kC174, kG174, kP174, kR174_0, kR174_1, kR174_2, kR174_3, kR174_4, kL175, kA175, kS175, kL176, kA176, kS176, kL177, kA177, kS177, kL178, kA178, kS178, kL179, kC180, kG180, kP180, kL181, kL182, kA182, kS182, kC183, kG183, kP183, kR183_1, kR183_3, kR183_5, kR183_6, kR183_7, kR183_8, kR183_9, kR183_21, kR183_26, kR183_27, kR183_30, kR183_31, kR183_33, kR183_34, kR183_36, kR183_37, kR183_38, kR183_39, kR183_40, kR183_41, kR183_42, kR183_43, kR183_44, kL184, kA184, kS184, kL185, kA185, kS185, kL186, kA186, kS186, kL187, kA187, kS187, kL188, kA188, kS188, kL189, kL190, kL191, kA191, kS191, kL192, kA192, kS192, kL193, kA193, kS193, kL194, kA194, kS194, kL195, kA195, kS195, kL196, kA196, kS196, kL197, kA197, kS197, kL198, kA198, kS198, kL199, kA199, kS199, kL200, kA200, kS200, kL201, kL202, kA202, kS202, kL203, kA203, kS203, kL204, kA204, kS204, kL205, kL206, kA206, kS206, j7, nn_le, Nat.le_refl]
theorem fs_shift (s : Nat) : ∀ j, fs g F (fs g F s 1) j = fs g F s (j + 1)
  | 0 => rfl
  | j + 1 => by rw [fs, fs_shift s j]; rfl
theorem fs_stay {s M : Nat} (h : (sp g F (fs g F s M) (gSz g)).2 = none) : ∀ k, fs g F s (M + k) = fs g F s M
  | 0 => rfl
  | k + 1 => by
    rw [show M + (k + 1) = (M + k) + 1 by omega, fs, fs_stay h k, h]
theorem fE_M (hg : g ∈ gAll) (ho : RO g F) {s M : Nat} (hM : M ≤ 288) (h : (sp g F (fs g F s M) (gSz g)).2 = none) : fE g F s = fs g F s M := by
  unfold fE
  rw [show 288 = M + (288 - M) by omega]
  exact fs_stay h _
theorem fE_nx (hg : g ∈ gAll) (ho : RO g F) (s : Nat) : fE g F (nxS s (sp g F s (gSz g)).2) = fE g F s := by
  obtain ⟨M, hM, h1, h2⟩ := fs_end (s := s) hg ho
  have e : nxS s (sp g F s (gSz g)).2 = fs g F s 1 := rfl
  rw [e]
  unfold fE
  rw [fs_shift, show 288 + 1 = M + (289 - M) by omega, fs_stay h1, show 288 = M + (288 - M) by omega, fs_stay h1]
theorem fE_no {s : Nat} (h : (sp g F s (gSz g)).2 = none) : fE g F s = s := by
  have := fs_stay (g := g) (F := F) (s := s) (M := 0) h 288
  rw [Nat.zero_add] at this
  exact this
theorem bj66 (hS : Shp σ) {i b q cn e : Nat} (hi : i < 1024) (hq : q < 1024) (hv : J 175 i = nI q) (he : e < 1024) (hb : b < 1024) : f_X9_basinOf_j66 (xw σ J) 174 (nI b) (nI cn) (nI i) (nI e) = some (.inl (nI (cn + (if e = b then 1 else 0)), nI (i + 1), xw σ (xup J 178 q (nI e)))) := by
  unfold f_X9_basinOf_j66
  have e0 : (nI e = nI b) = (e = b) := nn_eq (by omega) (by omega)
  simp (disch := first | assumption | omega) only [Option.bind_some, Option.map_some, xw_gR, xw_gN, xw_al, xw_ck, xw_uI, xw_ur, xup_at, xur_at, if_true, if_false, reduceIte, and_true, true_and, and_false, false_and, not_true_eq_false, not_false_eq_true, Nat.reduceEqDiff, eq_self, Nat.reduceAdd, Nat.reduceMul, kC1, kG1, kP1, kR1_0, kR1_1, kR1_2, kR1_3, kR1_4, kR1_5, kR1_6, kR1_7, kR1_8, kR1_9, kR1_10, kR1_11, kR1_12, kR1_13, kC2, kG2, kP2, kR2_0, kR2_1, kC3, kG3, kP3, kR3_0, kR3_1, kR3_2, kR3_3, kL4, kA4, kS4, kL5, kA5, kS5, kL6, kA6, kS6, kL7, kA7, kS7, kC8, kG8, kP8, kR8_0, kR8_1, kL9, kA9, kS9, kL10, kA10, kS10, kC11, kG11, kP11, kR11_0, kR11_1, kR11_2, kR11_3, kL12, kA12, kS12, kL13, kA13, kS13, kL14, kA14, kS14, kL15, kA15, kS15, kC16, kG16, kP16, kR16_0, kR16_1, kL17, kA17, kS17, kL18, kA18, kS18, kC19, kG19, kP19, kR19_0, kL20, kL141, kL146, kA146, kS146, kL151, kA151, kS151, kL156, kA156, kS156, kC157, kG157, kP157, kR157_0, kR157_1, kL158, kA158, kS158, kL159, kA159, kS159, kC161, kG161, kP161, kR161_0, kR161_1, kL162, kA162, kS162, kL163, kA163, kS163, kC165, kG165, kP165, kR165_0, kR165_1, kR165_2, kR165_3, kL166, kA166, kS166, kL167, kA167, kS167, kL168, kA168, kS168, kL169, kA169, kS169, kC170, kG170, kP170, kR170_0, kR170_1, kR170_2, kL171, kA171, kS171, kL172, kA172, kS172, kL173, kA173, kS173, kC174, kG174, kP174, kR174_0, kR174_1, kR174_2, kR174_3, kR174_4, kL175, kA175, kS175, kL176, kA176, kS176, kL177, kA177, kS177, kL178, kA178, kS178, kL179, kC180, kG180, kP180, kL181, kL182, kA182, kS182, kC183, kG183, kP183, kR183_1, kR183_3, kR183_5, kR183_6, kR183_7, kR183_8, kR183_9, kR183_21, kR183_26, kR183_27, kR183_30, kR183_31, kR183_33, kR183_34, kR183_36, kR183_37, kR183_38, kR183_39, kR183_40, kR183_41, kR183_42, kR183_43, kR183_44, kL184, kA184, kS184, kL185, kA185, kS185, kL186, kA186, kS186, kL187, kA187, kS187, kL188, kA188, kS188, kL189, kL190, kL191, kA191, kS191, kL192, kA192, kS192, kL193, kA193, kS193, kL194, kA194, kS194, kL195, kA195, kS195, kL196, kA196, kS196, kL197, kA197, kS197, kL198, kA198, kS198, kL199, kA199, kS199, kL200, kA200, kS200, kL201, kL202, kA202, kS202, kL203, kA203, kS203, kL204, kA204, kS204, kL205, kL206, kA206, kS206, hv, isSt_ok, one0]
  unfold f_X9_basinOf_j93
  simp only [e0]
  by_cases z : e = b
  · rw [if_pos z, if_pos z, nI_succ, nI_succ]
  · rw [if_neg z, if_neg z, nI_succ]
    congr 3
    show nI cn + nI 0 = _
    rw [nn_add]
theorem basinOf_ok (h : TC σ J g F c m) (hO : TO J g F M o) {b : Nat} (hb : b < gSt g) : ∃ J', f_X9_basinOf (xw σ J) 174 (nI b) = some (nI (fb_ct (fun i => decide (fE g F (o i) = b)) M), xw σ J') ∧ ∀ a k, a ≠ 178 → J' a k = J a k := by
  have hst := h.st
  obtain ⟨hS, hg, hro, h10, -⟩ := id h
  obtain ⟨hM, j8, o1, o2, o3⟩ := id hO
  unfold f_X9_basinOf
  have key := xforI (f := f_X9_basinOf_b4 174 (nI b)) (fun k x => ∃ J' : Nat → Nat → Int32, x = (nI (fb_ct (fun i => decide (fE g F (o i) = b)) k), nI k, xw σ J') ∧ (∀ a q, a ≠ 178 → J' a q = J a q) ∧ ∀ i, i < k → J' 178 (o i) = nI (fE g F (o i))) M (Q := fun r => ∃ J', r = (nI (fb_ct (fun i => decide (fE g F (o i) = b)) M), xw σ J') ∧ ∀ a k, a ≠ 178 → J' a k = J a k) (a0 := ((0 : Int32), (0 : Int32), xw σ J)) ⟨J, rfl, fun _ _ _ => rfl, fun i hi => absurd hi (Nat.not_lt_zero _)⟩ ?_ ?_
  · obtain ⟨r, e, J', rfl, u⟩ := key
    exact ⟨J', e, u⟩
  · rintro k x hk ⟨J', rfl, u, v⟩
    have hT' : TC σ J' g F c m := TC_c (fun a k h1 h2 => u a k (by omega)) h
    obtain ⟨k1, k2, k3⟩ := o1 k hk
    have v8 : J' 174 8 = nI M := by rw [u _ _ (by omega)]; exact j8
    have v5 : J' 175 k = nI (o k) := by rw [u _ _ (by omega)]; exact k1
    have st := steepFrom_ok hT' k2
    have hfe : fE g F (o k) < gSt g := (fs_l (g := g) (F := F) k2 k3 288).1
    have stp : f_X9_basinOf_b4 174 (nI b) (nI (fb_ct (fun i => decide (fE g F (o i) = b)) k), nI k, xw σ J') = f_X9_basinOf_j66 (xw σ J') 174 (nI b) (nI (fb_ct (fun i => decide (fE g F (o i) = b)) k)) (nI k) (nI (fE g F (o k))) := by
      simp only [f_X9_basinOf_b4]
      have q1 : (nI M ≤ nI k) = False := by rw [nn_le (by omega) (by omega)]; exact eq_false (by omega)
      have q2 : ((1024 : Int32) ≤ nI k) = False := by rw [show (1024 : Int32) = nI 1024 from rfl, nn_le (by omega) (by omega)]; exact eq_false (by omega)
      have hk' : k < 1024 := by omega
      simp (disch := first | assumption | omega) only [Option.bind_some, Option.map_some, xw_gR, xw_gN, xw_al, xw_ck, xw_uI, xw_ur, xup_at, xur_at, if_true, if_false, reduceIte, and_true, true_and, and_false, false_and, not_true_eq_false, not_false_eq_true, Nat.reduceEqDiff, eq_self, Nat.reduceAdd, Nat.reduceMul, kC1, kG1, kP1, kR1_0, kR1_1, kR1_2, kR1_3, kR1_4, kR1_5, kR1_6, kR1_7, kR1_8, kR1_9, kR1_10, kR1_11, kR1_12, kR1_13, kC2, kG2, kP2, kR2_0, kR2_1, kC3, kG3, kP3, kR3_0, kR3_1, kR3_2, kR3_3, kL4, kA4, kS4, kL5, kA5, kS5, kL6, kA6, kS6, kL7, kA7, kS7, kC8, kG8, kP8, kR8_0, kR8_1, kL9, kA9, kS9, kL10, kA10, kS10, kC11, kG11, kP11, kR11_0, kR11_1, kR11_2, kR11_3, kL12, kA12, kS12, kL13, kA13, kS13, kL14, kA14, kS14, kL15, kA15, kS15, kC16, kG16, kP16, kR16_0, kR16_1, kL17, kA17, kS17, kL18, kA18, kS18, kC19, kG19, kP19, kR19_0, kL20, kL141, kL146, kA146, kS146, kL151, kA151, kS151, kL156, kA156, kS156, kC157, kG157, kP157, kR157_0, kR157_1, kL158, kA158, kS158, kL159, kA159, kS159, kC161, kG161, kP161, kR161_0, kR161_1, kL162, kA162, kS162, kL163, kA163, kS163, kC165, kG165, kP165, kR165_0, kR165_1, kR165_2, kR165_3, kL166, kA166, kS166, kL167, kA167, kS167, kL168, kA168, kS168, kL169, kA169, kS169, kC170, kG170, kP170, kR170_0, kR170_1, kR170_2, kL171, kA171, kS171, kL172, kA172, kS172, kL173, kA173, kS173, kC174, kG174, kP174, kR174_0, kR174_1, kR174_2, kR174_3, kR174_4, kL175, kA175, kS175, kL176, kA176, kS176, kL177, kA177, kS177, kL178, kA178, kS178, kL179, kC180, kG180, kP180, kL181, kL182, kA182, kS182, kC183, kG183, kP183, kR183_1, kR183_3, kR183_5, kR183_6, kR183_7, kR183_8, kR183_9, kR183_21, kR183_26, kR183_27, kR183_30, kR183_31, kR183_33, kR183_34, kR183_36, kR183_37, kR183_38, kR183_39, kR183_40, kR183_41, kR183_42, kR183_43, kR183_44, kL184, kA184, kS184, kL185, kA185, kS185, kL186, kA186, kS186, kL187, kA187, kS187, kL188, kA188, kS188, kL189, kL190, kL191, kA191, kS191, kL192, kA192, kS192, kL193, kA193, kS193, kL194, kA194, kS194, kL195, kA195, kS195, kL196, kA196, kS196, kL197, kA197, kS197, kL198, kA198, kS198, kL199, kA199, kS199, kL200, kA200, kS200, kL201, kL202, kA202, kS202, kL203, kA203, kS203, kL204, kA204, kS204, kL205, kL206, kA206, kS206, v8, q1, q2, v5, st]
      cases hsp : (sp g F (o k) (gSz g)).2 with
      | none =>
        rw [fE_no hsp]
        rw [if_pos (show nI (nxS (o k) none) = nI (o k) from rfl)]
      | some i =>
        have sq := (sp_some g F (o k) (gSz g)).2 i hsp
        have hnx := nxB (F := F) k2 (Nat.le_refl (gSz g))
        have hnE := nxE (g := g) (F := F) hg (s := o k) (Nat.le_refl (gSz g))
        have hfn := fE_nx hg hro (o k)
        rw [hsp] at hnx hnE hfn
        have hlw : lW g F (nxS (o k) (some i)) = true := by
          show lW g F (o k ^^^ 2 ^ i) = true
          rw [lW_flip sq.1 k3]; exact decide_eq_true sq.2.1
        obtain ⟨i', i1, i2⟩ := o3 _ hnx hlw
        have hlt : i' < k := by
          rcases Nat.lt_trichotomy i' k with z | z | z
          · exact z
          · rw [z] at i2
            rw [← i2] at hnE
            omega
          · have := (o2 k i' z i1).1
            rw [i2] at this
            omega
        have hv := v i' hlt
        rw [i2, hfn] at hv
        have hne : (nI (nxS (o k) (some i)) = nI (o k)) = False := by
          rw [nn_eq (by omega) (by omega)]
          apply eq_false
          intro z
          rw [z] at hnE
          omega
        have hs1 := isSt_ok (show nxS (o k) (some i) < 1024 by omega)
        have hA : xaI (xw σ J') 20 178 (nI (nxS (o k) (some i))) = some (J' 178 (nxS (o k) (some i))) := kA178 hS (by omega)
        simp only [hne, if_false, hs1, Option.bind_some, one0, hA, hv]
    refine ⟨_, stp.trans (bj66 hS (by omega) (by omega) v5 (by omega) (by omega)), xup J' 178 (o k) (nI (fE g F (o k))), ?_, fun a q hq => ?_, fun i hi => ?_⟩
    · congr 2
      rw [fb_ct_succ]
      by_cases z : fE g F (o k) = b
      · simp [z]
      · simp [z]
    · rw [xup_at, if_neg (by omega)]; exact u a q hq
    · rw [xup_at]
      by_cases z : i = k
      · rw [z, if_pos ⟨rfl, rfl⟩]
      · have := (o2 i k (by omega) hk).2
        rw [if_neg (fun w => this w.2)]
        exact v i (by omega)
  · rintro x ⟨J', rfl, u, v⟩
    have v8 : J' 174 8 = nI M := by rw [u _ _ (by omega)]; exact j8
    refine ⟨_, ?_, J', rfl, u⟩
    simp only [f_X9_basinOf_b4]
    simp (disch := first | assumption | omega) only [Option.bind_some, Option.map_some, xw_gR, xw_gN, xw_al, xw_ck, xw_uI, xw_ur, xup_at, xur_at, if_true, if_false, reduceIte, and_true, true_and, and_false, false_and, not_true_eq_false, not_false_eq_true, Nat.reduceEqDiff, eq_self, Nat.reduceAdd, Nat.reduceMul, kC1, kG1, kP1, kR1_0, kR1_1, kR1_2, kR1_3, kR1_4, kR1_5, kR1_6, kR1_7, kR1_8, kR1_9, kR1_10, kR1_11, kR1_12, kR1_13, kC2, kG2, kP2, kR2_0, kR2_1, kC3, kG3, kP3, kR3_0, kR3_1, kR3_2, kR3_3, kL4, kA4, kS4, kL5, kA5, kS5, kL6, kA6, kS6, kL7, kA7, kS7, kC8, kG8, kP8, kR8_0, kR8_1, kL9, kA9, kS9, kL10, kA10, kS10, kC11, kG11, kP11, kR11_0, kR11_1, kR11_2, kR11_3, kL12, kA12, kS12, kL13, kA13, kS13, kL14, kA14, kS14, kL15, kA15, kS15, kC16, kG16, kP16, kR16_0, kR16_1, kL17, kA17, kS17, kL18, kA18, kS18, kC19, kG19, kP19, kR19_0, kL20, kL141, kL146, kA146, kS146, kL151, kA151, kS151, kL156, kA156, kS156, kC157, kG157, kP157, kR157_0, kR157_1, kL158, kA158, kS158, kL159, kA159, kS159, kC161, kG161, kP161, kR161_0, kR161_1, kL162, kA162, kS162, kL163, kA163, kS163, kC165, kG165, kP165, kR165_0, kR165_1, kR165_2, kR165_3, kL166, kA166, kS166, kL167, kA167, kS167, kL168, kA168, kS168, kL169, kA169, kS169, kC170, kG170, kP170, kR170_0, kR170_1, kR170_2, kL171, kA171, kS171, kL172, kA172, kS172, kL173, kA173, kS173, kC174, kG174, kP174, kR174_0, kR174_1, kR174_2, kR174_3, kR174_4, kL175, kA175, kS175, kL176, kA176, kS176, kL177, kA177, kS177, kL178, kA178, kS178, kL179, kC180, kG180, kP180, kL181, kL182, kA182, kS182, kC183, kG183, kP183, kR183_1, kR183_3, kR183_5, kR183_6, kR183_7, kR183_8, kR183_9, kR183_21, kR183_26, kR183_27, kR183_30, kR183_31, kR183_33, kR183_34, kR183_36, kR183_37, kR183_38, kR183_39, kR183_40, kR183_41, kR183_42, kR183_43, kR183_44, kL184, kA184, kS184, kL185, kA185, kS185, kL186, kA186, kS186, kL187, kA187, kS187, kL188, kA188, kS188, kL189, kL190, kL191, kA191, kS191, kL192, kA192, kS192, kL193, kA193, kS193, kL194, kA194, kS194, kL195, kA195, kS195, kL196, kA196, kS196, kL197, kA197, kS197, kL198, kA198, kS198, kL199, kA199, kS199, kL200, kA200, kS200, kL201, kL202, kA202, kS202, kL203, kA203, kS203, kL204, kA204, kS204, kL205, kL206, kA206, kS206, v8, nn_le, Nat.le_refl]
end TERR
theorem ct_perm (p : Nat → Bool) (o : Nat → Nat) (N : Nat) : ∀ M, (∀ i, i < M → o i < N) → (∀ i j, i < j → j < M → o i ≠ o j) → ∀ q : Nat → Bool, (∀ s, s < N → (q s = true ↔ ∃ i, i < M ∧ o i = s)) → fb_ct (fun i => p (o i)) M = fb_ct (fun s => q s && p s) N := by
  intro M
  induction M with
  | zero =>
    intro _ _ q hq
    symm
    apply fb_ct_zero.mpr
    intro s hs
    have : q s = false := by
      cases h : q s with
      | false => rfl
      | true =>
        obtain ⟨i, hi, -⟩ := (hq s hs).mp h
        omega
    rw [this]; rfl
  | succ M ih =>
    intro h1 h2 q hq
    have hoM := h1 M (by omega)
    have := ih (fun i hi => h1 i (by omega)) (fun i j hij hj => h2 i j hij (by omega)) (fun s => if s = o M then false else q s) (fun s hs => by
      by_cases z : s = o M
      · simp only [z, if_true]
        constructor
        · intro w; cases w
        · rintro ⟨i, hi, w⟩
          exact absurd w (h2 i M hi (by omega))
      · simp only [z, if_false]
        rw [hq s hs]
        constructor
        · rintro ⟨i, hi, w⟩
          refine ⟨i, ?_, w⟩
          by_cases e : i = M
          · rw [e] at w; exact absurd w.symm z
          · omega
        · rintro ⟨i, hi, w⟩
          exact ⟨i, by omega, w⟩)
    have qM : q (o M) = true := (hq _ hoM).mpr ⟨M, by omega, rfl⟩
    have up : fb_ct (fun k => if k = o M then false else (q k && p k)) N + (if (q (o M) && p (o M)) = true then 1 else 0) = fb_ct (fun s => q s && p s) N + (if false = true then 1 else 0) := fb_ct_upd (fun s => q s && p s) false hoM
    have cg : fb_ct (fun s => (if s = o M then false else q s) && p s) N = fb_ct (fun k => if k = o M then false else (q k && p k)) N := fb_ct_cong (fun k _ => by
      by_cases z : k = o M
      · simp [z]
      · simp [z])
    rw [fb_ct_succ, this, cg]
    rw [qM, Bool.true_and, if_neg (show ¬ (false = true) by decide)] at up
    exact up
