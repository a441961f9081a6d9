/-! the class's energies on the heap: the mates below a site -/
def low (i : Nat) (L : List (Nat × Nat)) : Nat := L.foldl (fun a q => min a q.1) i
theorem low_s (i : Nat) (L : List (Nat × Nat)) (q : Nat × Nat) : low i (L ++ [q]) = min (low i L) q.1 := by
  unfold low
  rw [List.foldl_append]
  rfl
theorem low_le : ∀ (L : List (Nat × Nat)) (i : Nat), low i L ≤ i ∧ ∀ q ∈ L, low i L ≤ q.1 := by
  intro L
  induction L with
  | nil => intro i; exact ⟨Nat.le_refl _, fun q hq => by cases hq⟩
  | cons x L ih =>
    intro i
    have h := ih (min i x.1)
    have e : low i (x :: L) = low (min i x.1) L := rfl
    rw [e]
    refine ⟨by omega, fun q hq => ?_⟩
    rcases List.mem_cons.mp hq with z | z
    · rw [z]; omega
    · exact h.2 q z
def slI (I : Nat → Nat → Int32) (E i : Nat) (F : Nat → Int) (L : List (Nat × Nat)) : Nat → Nat → Int32 := fun c k => if c = E ∧ k = 2 then nI L.length else if c = E ∧ k = 3 then nI (low i L) else if c = E + 1 ∧ k < L.length then nI (L.getD k (0, 0)).1 else if c = E + 2 ∧ k < L.length then iI (F (L.getD k (0, 0)).2) else I c k
theorem slI_out {I : Nat → Nat → Int32} {E i : Nat} {F : Nat → Int} {L : List (Nat × Nat)} {c k : Nat} (h : c < E ∨ E + 2 < c) : slI I E i F L c k = I c k := by
  unfold slI
  rw [if_neg (by omega), if_neg (by omega), if_neg (by omega), if_neg (by omega)]
theorem slI_ot {I : Nat → Nat → Int32} {E i : Nat} {F : Nat → Int} {L : List (Nat × Nat)} {k : Nat} (h : k ≠ 2) (h2 : k ≠ 3) : slI I E i F L E k = I E k := by
  unfold slI
  rw [if_neg (by omega), if_neg (by omega), if_neg (by omega), if_neg (by omega)]
theorem slI_2 {I : Nat → Nat → Int32} {E i : Nat} {F : Nat → Int} {L : List (Nat × Nat)} : slI I E i F L E 2 = nI L.length := by
  unfold slI; rw [if_pos ⟨rfl, rfl⟩]
theorem slI_3 {I : Nat → Nat → Int32} {E i : Nat} {F : Nat → Int} {L : List (Nat × Nat)} : slI I E i F L E 3 = nI (low i L) := by
  unfold slI; rw [if_neg (by omega), if_pos ⟨rfl, rfl⟩]
theorem slI_a {I : Nat → Nat → Int32} {E i : Nat} {F : Nat → Int} {L : List (Nat × Nat)} {k : Nat} (h : k < L.length) : slI I E i F L (E + 1) k = nI (L.getD k (0, 0)).1 := by
  unfold slI; rw [if_neg (by omega), if_neg (by omega), if_pos ⟨rfl, h⟩]
theorem slI_b {I : Nat → Nat → Int32} {E i : Nat} {F : Nat → Int} {L : List (Nat × Nat)} {k : Nat} (h : k < L.length) : slI I E i F L (E + 2) k = iI (F (L.getD k (0, 0)).2) := by
  unfold slI; rw [if_neg (by omega), if_neg (by omega), if_neg (by omega), if_pos ⟨rfl, h⟩]
theorem getD_app {α : Type} (L : List α) (q d : α) (k : Nat) : (L ++ [q]).getD k d = if k < L.length then L.getD k d else if k = L.length then q else d := by
  rw [List.getD_eq_getElem?_getD, List.getD_eq_getElem?_getD]
  by_cases h : k < L.length
  · rw [if_pos h, List.getElem?_append_left h]
  · rw [if_neg h, List.getElem?_append_right (by omega)]
    by_cases h2 : k = L.length
    · rw [if_pos h2, h2, Nat.sub_self]; rfl
    · rw [if_neg h2, List.getElem?_eq_none (by simp; omega)]; rfl
theorem slI_s {I : Nat → Nat → Int32} {E i : Nat} {F : Nat → Int} {L : List (Nat × Nat)} {q : Nat × Nat} : xup (xup (xup (xup (slI I E i F L) (E + 1) L.length (nI q.1)) (E + 2) L.length (iI (F q.2))) E 2 (nI (L.length + 1))) E 3 (nI (min (low i L) q.1)) = slI I E i F (L ++ [q]) := by
  funext c k
  simp only [xup_at, slI, low_s, List.length_append, List.length_singleton, getD_app]
  by_cases h0 : c = E
  · subst h0
    by_cases h2 : k = 2
    · simp [h2]
    · by_cases h3 : k = 3
      · simp [h3]
      · simp [h2, h3]
  · by_cases h1 : c = E + 1
    · subst h1
      by_cases h2 : k = L.length
      · simp [h2]
      · by_cases h3 : k < L.length
        · have : k < L.length + 1 := by omega
          simp [h2, h3, this]
        · have : ¬ k < L.length + 1 := by omega
          simp [h2, h3, this]
    · by_cases h4 : c = E + 2
      · subst h4
        by_cases h2 : k = L.length
        · simp [h2]
        · by_cases h3 : k < L.length
          · have : k < L.length + 1 := by omega
            simp [h2, h3, this]
          · have : ¬ k < L.length + 1 := by omega
            simp [h2, h3, this]
      · simp [h0, h1, h4]
/-- an object of energies, and where its row lies -/
def EnO (σ : XS) (E c m : Nat) : Prop := (E = 157 ∨ E = 161) ∧ xR σ E 4 = c ∧ σ.1 c = (20, m) ∧ m ≤ 65536 ∧ (c = E + 3 ∨ 206 < c)
section ENO
variable {σ : XS} {I : Nat → Nat → Int32} {E c m : Nat}
theorem EnO.T (h : EnO σ E c m) (hS : Shp σ) : xT σ E = 2 := by
  rcases h.1 with rfl | rfl
  · exact sT157 hS
  · exact sT161 hS
theorem EnO.R0 (h : EnO σ E c m) (hS : Shp σ) : xgR σ E 2 0 = some (E + 1) := by
  rcases h.1 with rfl | rfl
  · exact kR157_0 hS
  · exact kR161_0 hS
theorem EnO.R1 (h : EnO σ E c m) (hS : Shp σ) : xgR σ E 2 1 = some (E + 2) := by
  rcases h.1 with rfl | rfl
  · exact kR157_1 hS
  · exact kR161_1 hS
theorem EnO.R4 (h : EnO σ E c m) (hS : Shp σ) : xgR σ E 2 4 = some c := by
  refine xgR_to (h.T hS) h.2.1 ?_
  rcases h.1 with q | q <;> rcases h.2.2.2.2 with z | z <;> omega
theorem EnO.K1 (h : EnO σ E c m) (hS : Shp σ) : σ.1 (E + 1) = (20, 4) := by
  rcases h.1 with rfl | rfl
  · exact xw_K hS (by decide) (by decide) (by decide)
  · exact xw_K hS (by decide) (by decide) (by decide)
theorem EnO.K2 (h : EnO σ E c m) (hS : Shp σ) : σ.1 (E + 2) = (20, 4) := by
  rcases h.1 with rfl | rfl
  · exact xw_K hS (by decide) (by decide) (by decide)
  · exact xw_K hS (by decide) (by decide) (by decide)
theorem EnO.L (h : EnO σ E c m) : xal σ c = some (nI m) := by
  rw [xal_ok (by unfold xT; rw [h.2.2.1]; exact ⟨Nat.le_refl 20, (by decide : 20 ≤ 25)⟩)]
  unfold xlen
  rw [h.2.2.1]
theorem EnO.b (h : EnO σ E c m) : E = 157 ∧ (c = 160 ∨ 206 < c) ∨ E = 161 ∧ (c = 164 ∨ 206 < c) := by
  rcases h.1 with q | q <;> rcases h.2.2.2.2 with z | z <;> omega
theorem see_ok (hS : Shp σ) {g : GD} (hG : GRD I g) (hE : EnO σ E c m) {B i : Nat} {F : Nat → Int} (hB : σ.1 B = (20, 32)) (hBo : B < E ∨ E + 2 < B) (hi : i < gSz g)
    (hF : ∀ t, t < 32 → (gTo g t).isSome = true → I B t = iI (F t) ∧ -3 ≤ F t ∧ F t ≤ 3) : f_X2_seeLowerMates (xw σ I) E 11 B (nI i) = some (xw σ (slI I E i F (lwM g F i))) := by
  have h16 := (gAll_b g hG.1).2.2.1
  have hm := gMt_b g hG.1 i (by omega)
  have hEb := hE.b
  have hC := hG.2.2.2.2.2.2.1 i (by omega)
  unfold f_X2_seeLowerMates
  rw [xw_pI (hE.T hS), Option.bind_some, xw_pI (hE.T hS), Option.bind_some]
  refine xforE (fun j : Nat => (nI j, xw σ (slI I E i F (((gMt g i).take j).filter (fun q => decide (q.1 < i) && decide (F q.2 ≠ 0)))))) (gMt g i).length ?_ (fun j hj => ?_) ?_
  · congr 2
    funext c k
    simp only [xup_at, slI, List.take_zero, List.filter_nil, List.length_nil, low, List.foldl_nil]
    by_cases h0 : c = E ∧ k = 3
    · simp [h0]
    · by_cases h1 : c = E ∧ k = 2
      · simp [h1]; rfl
      · simp [h0, h1]
  · obtain ⟨L, hL⟩ : ∃ L, L = ((gMt g i).take j).filter (fun q => decide (q.1 < i) && decide (F q.2 ≠ 0)) := ⟨_, rfl⟩
    obtain ⟨q, hq⟩ : ∃ q, q = (gMt g i).getD j (0, 0) := ⟨_, rfl⟩
    have hqe : (gMt g i)[j] = q := by rw [hq, List.getD_eq_getElem?_getD, List.getElem?_eq_getElem hj]; rfl
    have hqm : q ∈ gMt g i := by rw [← hqe]; exact List.getElem_mem hj
    have hqb := hm.2 q hqm
    have hLl : L.length ≤ j := by
      rw [hL]
      refine Nat.le_trans (List.length_filter_le _ _) ?_
      rw [List.length_take]
      omega
    have hnx : ((gMt g i).take (j + 1)).filter (fun q => decide (q.1 < i) && decide (F q.2 ≠ 0)) = if q.1 < i ∧ F q.2 ≠ 0 then L ++ [q] else L := by
      rw [List.take_succ_eq_append_getElem hj, List.filter_append, ← hL, hqe]
      by_cases hp : q.1 < i ∧ F q.2 ≠ 0
      · rw [if_pos hp]
        simp [List.filter_cons, hp.1, hp.2]
      · rw [if_neg hp]
        have : (decide (q.1 < i) && decide (F q.2 ≠ 0)) = false := by
          rw [Bool.and_eq_false_iff, decide_eq_false_iff_not, decide_eq_false_iff_not]
          by_cases z : q.1 < i
          · exact .inr (fun w => hp ⟨z, w⟩)
          · exact .inl z
        simp only [List.filter_cons, this, List.filter_nil]
        simp
    simp only [f_X2_seeLowerMates_b13, hnx, ← hL]
    have hm2 := hG.2.2.2.2.2.2.2.1 i j (by omega) hj
    rw [← hq] at hm2
    have hFq := hF q.2 hqb.2.1 hqb.2.2.2
    have hBl : xal σ B = some (nI 32) := by
      rw [xal_ok (by unfold xT; rw [hB]; decide)]
      unfold xlen
      rw [hB]
    have z0 : (iI (F q.2) = 0) = (F q.2 = 0) := iI_eq (b := 0) (by omega) (by omega) (by omega) (by omega)
    rw [if_neg (by rw [show (4 : Int32) = nI 4 from rfl, nn_le (by omega) (by omega)]; omega)]
    simp (disch := first | assumption | omega) only [Option.bind_some, Option.map_some, xw_gR, xw_gN, xw_al, xw_ck, xw_uI, xw_ur, xup_at, xur_at, if_true, if_false, reduceIte, and_true, true_and, and_false, false_and, not_true_eq_false, not_false_eq_true, Nat.reduceEqDiff, eq_self, Nat.reduceAdd, Nat.reduceMul, kC1, kG1, kP1, kR1_0, kR1_1, kR1_2, kR1_3, kR1_4, kR1_5, kR1_6, kR1_7, kR1_8, kR1_9, kR1_10, kR1_11, kR1_12, kR1_13, kC2, kG2, kP2, kR2_0, kR2_1, kC3, kG3, kP3, kR3_0, kR3_1, kR3_2, kR3_3, kL4, kA4, kS4, kL5, kA5, kS5, kL6, kA6, kS6, kL7, kA7, kS7, kC8, kG8, kP8, kR8_0, kR8_1, kL9, kA9, kS9, kL10, kA10, kS10, kC11, kG11, kP11, kR11_0, kR11_1, kR11_2, kR11_3, kL12, kA12, kS12, kL13, kA13, kS13, kL14, kA14, kS14, kL15, kA15, kS15, kC16, kG16, kP16, kR16_0, kR16_1, kL17, kA17, kS17, kL18, kA18, kS18, kC19, kG19, kP19, kR19_0, kL20, kL141, kL146, kA146, kS146, kL151, kA151, kS151, kL156, kA156, kS156, kC157, kG157, kP157, kR157_0, kR157_1, kL158, kA158, kS158, kL159, kA159, kS159, kC161, kG161, kP161, kR161_0, kR161_1, kL162, kA162, kS162, kL163, kA163, kS163, kC165, kG165, kP165, kR165_0, kR165_1, kR165_2, kR165_3, kL166, kA166, kS166, kL167, kA167, kS167, kL168, kA168, kS168, kL169, kA169, kS169, kC170, kG170, kP170, kR170_0, kR170_1, kR170_2, kL171, kA171, kS171, kL172, kA172, kS172, kL173, kA173, kS173, kC174, kG174, kP174, kR174_0, kR174_1, kR174_2, kR174_3, kR174_4, kL175, kA175, kS175, kL176, kA176, kS176, kL177, kA177, kS177, kL178, kA178, kS178, kL179, kC180, kG180, kP180, kL181, kL182, kA182, kS182, kC183, kG183, kP183, kR183_1, kR183_3, kR183_5, kR183_6, kR183_7, kR183_8, kR183_9, kR183_21, kR183_26, kR183_27, kR183_30, kR183_31, kR183_33, kR183_34, kR183_36, kR183_37, kR183_38, kR183_39, kR183_40, kR183_41, kR183_42, kR183_43, kR183_44, kL184, kA184, kS184, kL185, kA185, kS185, kL186, kA186, kS186, kL187, kA187, kS187, kL188, kA188, kS188, kL189, kL190, kL191, kA191, kS191, kL192, kA192, kS192, kL193, kA193, kS193, kL194, kA194, kS194, kL195, kA195, kS195, kL196, kA196, kS196, kL197, kA197, kS197, kL198, kA198, kS198, kL199, kA199, kS199, kL200, kA200, kS200, kL201, kL202, kA202, kS202, kL203, kA203, kS203, kL204, kA204, kS204, kL205, kL206, kA206, kS206, slI_out, hC, nn_le, show ¬ ((gMt g i).length ≤ j) by omega, show (4 : Int32) = nI 4 from rfl, nn_mul, nn_add, hm2.1, hm2.2]
    by_cases h1 : i ≤ q.1
    · rw [if_pos h1, if_neg (by omega), nI_succ]
    · rw [if_neg h1, if_neg (nI_pos (by omega)), hBl]
      simp (disch := first | assumption | omega) only [Option.bind_some, Option.map_some, xw_gR, xw_gN, xw_al, xw_ck, xw_uI, xw_ur, xup_at, xur_at, if_true, if_false, reduceIte, and_true, true_and, and_false, false_and, not_true_eq_false, not_false_eq_true, Nat.reduceEqDiff, eq_self, Nat.reduceAdd, Nat.reduceMul, kC1, kG1, kP1, kR1_0, kR1_1, kR1_2, kR1_3, kR1_4, kR1_5, kR1_6, kR1_7, kR1_8, kR1_9, kR1_10, kR1_11, kR1_12, kR1_13, kC2, kG2, kP2, kR2_0, kR2_1, kC3, kG3, kP3, kR3_0, kR3_1, kR3_2, kR3_3, kL4, kA4, kS4, kL5, kA5, kS5, kL6, kA6, kS6, kL7, kA7, kS7, kC8, kG8, kP8, kR8_0, kR8_1, kL9, kA9, kS9, kL10, kA10, kS10, kC11, kG11, kP11, kR11_0, kR11_1, kR11_2, kR11_3, kL12, kA12, kS12, kL13, kA13, kS13, kL14, kA14, kS14, kL15, kA15, kS15, kC16, kG16, kP16, kR16_0, kR16_1, kL17, kA17, kS17, kL18, kA18, kS18, kC19, kG19, kP19, kR19_0, kL20, kL141, kL146, kA146, kS146, kL151, kA151, kS151, kL156, kA156, kS156, kC157, kG157, kP157, kR157_0, kR157_1, kL158, kA158, kS158, kL159, kA159, kS159, kC161, kG161, kP161, kR161_0, kR161_1, kL162, kA162, kS162, kL163, kA163, kS163, kC165, kG165, kP165, kR165_0, kR165_1, kR165_2, kR165_3, kL166, kA166, kS166, kL167, kA167, kS167, kL168, kA168, kS168, kL169, kA169, kS169, kC170, kG170, kP170, kR170_0, kR170_1, kR170_2, kL171, kA171, kS171, kL172, kA172, kS172, kL173, kA173, kS173, kC174, kG174, kP174, kR174_0, kR174_1, kR174_2, kR174_3, kR174_4, kL175, kA175, kS175, kL176, kA176, kS176, kL177, kA177, kS177, kL178, kA178, kS178, kL179, kC180, kG180, kP180, kL181, kL182, kA182, kS182, kC183, kG183, kP183, kR183_1, kR183_3, kR183_5, kR183_6, kR183_7, kR183_8, kR183_9, kR183_21, kR183_26, kR183_27, kR183_30, kR183_31, kR183_33, kR183_34, kR183_36, kR183_37, kR183_38, kR183_39, kR183_40, kR183_41, kR183_42, kR183_43, kR183_44, kL184, kA184, kS184, kL185, kA185, kS185, kL186, kA186, kS186, kL187, kA187, kS187, kL188, kA188, kS188, kL189, kL190, kL191, kA191, kS191, kL192, kA192, kS192, kL193, kA193, kS193, kL194, kA194, kS194, kL195, kA195, kS195, kL196, kA196, kS196, kL197, kA197, kS197, kL198, kA198, kS198, kL199, kA199, kS199, kL200, kA200, kS200, kL201, kL202, kA202, kS202, kL203, kA203, kS203, kL204, kA204, kS204, kL205, kL206, kA206, kS206, nn_le, show ¬ (32 ≤ q.2) by omega, xw_aI hB hqb.2.1 (by decide), slI_out hBo, hFq.1, z0]
      by_cases h2 : F q.2 = 0
      · rw [if_pos h2, if_neg (fun z => z.2 h2), nI_succ]
      · rw [if_neg h2, if_pos ⟨by omega, h2⟩]
        have e1 : L.length < 4 := by omega
        simp (disch := first | assumption | omega) only [Option.bind_some, Option.map_some, xw_gR, xw_gN, xw_al, xw_ck, xw_uI, xw_ur, xup_at, xur_at, if_true, if_false, reduceIte, and_true, true_and, and_false, false_and, not_true_eq_false, not_false_eq_true, Nat.reduceEqDiff, eq_self, Nat.reduceAdd, Nat.reduceMul, kC1, kG1, kP1, kR1_0, kR1_1, kR1_2, kR1_3, kR1_4, kR1_5, kR1_6, kR1_7, kR1_8, kR1_9, kR1_10, kR1_11, kR1_12, kR1_13, kC2, kG2, kP2, kR2_0, kR2_1, kC3, kG3, kP3, kR3_0, kR3_1, kR3_2, kR3_3, kL4, kA4, kS4, kL5, kA5, kS5, kL6, kA6, kS6, kL7, kA7, kS7, kC8, kG8, kP8, kR8_0, kR8_1, kL9, kA9, kS9, kL10, kA10, kS10, kC11, kG11, kP11, kR11_0, kR11_1, kR11_2, kR11_3, kL12, kA12, kS12, kL13, kA13, kS13, kL14, kA14, kS14, kL15, kA15, kS15, kC16, kG16, kP16, kR16_0, kR16_1, kL17, kA17, kS17, kL18, kA18, kS18, kC19, kG19, kP19, kR19_0, kL20, kL141, kL146, kA146, kS146, kL151, kA151, kS151, kL156, kA156, kS156, kC157, kG157, kP157, kR157_0, kR157_1, kL158, kA158, kS158, kL159, kA159, kS159, kC161, kG161, kP161, kR161_0, kR161_1, kL162, kA162, kS162, kL163, kA163, kS163, kC165, kG165, kP165, kR165_0, kR165_1, kR165_2, kR165_3, kL166, kA166, kS166, kL167, kA167, kS167, kL168, kA168, kS168, kL169, kA169, kS169, kC170, kG170, kP170, kR170_0, kR170_1, kR170_2, kL171, kA171, kS171, kL172, kA172, kS172, kL173, kA173, kS173, kC174, kG174, kP174, kR174_0, kR174_1, kR174_2, kR174_3, kR174_4, kL175, kA175, kS175, kL176, kA176, kS176, kL177, kA177, kS177, kL178, kA178, kS178, kL179, kC180, kG180, kP180, kL181, kL182, kA182, kS182, kC183, kG183, kP183, kR183_1, kR183_3, kR183_5, kR183_6, kR183_7, kR183_8, kR183_9, kR183_21, kR183_26, kR183_27, kR183_30, kR183_31, kR183_33, kR183_34, kR183_36, kR183_37, kR183_38, kR183_39, kR183_40, kR183_41, kR183_42, kR183_43, kR183_44, kL184, kA184, kS184, kL185, kA185, kS185, kL186, kA186, kS186, kL187, kA187, kS187, kL188, kA188, kS188, kL189, kL190, kL191, kA191, kS191, kL192, kA192, kS192, kL193, kA193, kS193, kL194, kA194, kS194, kL195, kA195, kS195, kL196, kA196, kS196, kL197, kA197, kS197, kL198, kA198, kS198, kL199, kA199, kS199, kL200, kA200, kS200, kL201, kL202, kA202, kS202, kL203, kA203, kS203, kL204, kA204, kS204, kL205, kL206, kA206, kS206, hE.R0 hS, hE.R1 hS, xw_gI (hE.T hS), slI_2, xw_sI (hE.K1 hS) e1 (by decide), xw_sI (hE.K2 hS) e1 (by decide), xw_pI (hE.T hS), show ¬ (E = E + 1) by omega, show ¬ (E = E + 2) by omega, show ¬ (B = E + 1) by omega, xw_aI hB hqb.2.1 (by decide), slI_out hBo, hFq.1, slI_3, show (1 : Int32) = nI 1 from rfl, nn_add, show ¬ (3 = 2) by omega]
        have hlo : low i L ≤ i := (low_le L i).1
        rw [xmin_n (by omega) (by omega), slI_s]
  · simp only [f_X2_seeLowerMates_b13]
    have ha : ((gMt g i).take (gMt g i).length).filter (fun q => decide (q.1 < i) && decide (F q.2 ≠ 0)) = lwM g F i := by rw [List.take_length]; rfl
    rw [ha]
    by_cases h4 : (4 : Int32) ≤ nI (gMt g i).length
    · rw [if_pos h4]; rfl
    · rw [if_neg h4]
      have := hm.1
      simp (disch := first | assumption | omega) only [Option.bind_some, Option.map_some, xw_gR, xw_gN, xw_al, xw_ck, xw_uI, xw_ur, xup_at, xur_at, if_true, if_false, reduceIte, and_true, true_and, and_false, false_and, not_true_eq_false, not_false_eq_true, Nat.reduceEqDiff, eq_self, Nat.reduceAdd, Nat.reduceMul, kC1, kG1, kP1, kR1_0, kR1_1, kR1_2, kR1_3, kR1_4, kR1_5, kR1_6, kR1_7, kR1_8, kR1_9, kR1_10, kR1_11, kR1_12, kR1_13, kC2, kG2, kP2, kR2_0, kR2_1, kC3, kG3, kP3, kR3_0, kR3_1, kR3_2, kR3_3, kL4, kA4, kS4, kL5, kA5, kS5, kL6, kA6, kS6, kL7, kA7, kS7, kC8, kG8, kP8, kR8_0, kR8_1, kL9, kA9, kS9, kL10, kA10, kS10, kC11, kG11, kP11, kR11_0, kR11_1, kR11_2, kR11_3, kL12, kA12, kS12, kL13, kA13, kS13, kL14, kA14, kS14, kL15, kA15, kS15, kC16, kG16, kP16, kR16_0, kR16_1, kL17, kA17, kS17, kL18, kA18, kS18, kC19, kG19, kP19, kR19_0, kL20, kL141, kL146, kA146, kS146, kL151, kA151, kS151, kL156, kA156, kS156, kC157, kG157, kP157, kR157_0, kR157_1, kL158, kA158, kS158, kL159, kA159, kS159, kC161, kG161, kP161, kR161_0, kR161_1, kL162, kA162, kS162, kL163, kA163, kS163, kC165, kG165, kP165, kR165_0, kR165_1, kR165_2, kR165_3, kL166, kA166, kS166, kL167, kA167, kS167, kL168, kA168, kS168, kL169, kA169, kS169, kC170, kG170, kP170, kR170_0, kR170_1, kR170_2, kL171, kA171, kS171, kL172, kA172, kS172, kL173, kA173, kS173, kC174, kG174, kP174, kR174_0, kR174_1, kR174_2, kR174_3, kR174_4, kL175, kA175, kS175, kL176, kA176, kS176, kL177, kA177, kS177, kL178, kA178, kS178, kL179, kC180, kG180, kP180, kL181, kL182, kA182, kS182, kC183, kG183, kP183, kR183_1, kR183_3, kR183_5, kR183_6, kR183_7, kR183_8, kR183_9, kR183_21, kR183_26, kR183_27, kR183_30, kR183_31, kR183_33, kR183_34, kR183_36, kR183_37, kR183_38, kR183_39, kR183_40, kR183_41, kR183_42, kR183_43, kR183_44, kL184, kA184, kS184, kL185, kA185, kS185, kL186, kA186, kS186, kL187, kA187, kS187, kL188, kA188, kS188, kL189, kL190, kL191, kA191, kS191, kL192, kA192, kS192, kL193, kA193, kS193, kL194, kA194, kS194, kL195, kA195, kS195, kL196, kA196, kS196, kL197, kA197, kS197, kL198, kA198, kS198, kL199, kA199, kS199, kL200, kA200, kS200, kL201, kL202, kA202, kS202, kL203, kA203, kS203, kL204, kA204, kS204, kL205, kL206, kA206, kS206, slI_out, hC, nn_le, Nat.le_refl]
end ENO
