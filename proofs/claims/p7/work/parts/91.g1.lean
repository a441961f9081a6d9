/-! the grid is laid anew -/
def gCt (g : GD) (i t : Nat) : List (Nat × Nat) := match gTo g t with
  | none => []
  | some e => if gFr t = i then [(e, t)] else if e = i then [(gFr t, t)] else []
def gMp (g : GD) (i n : Nat) : List (Nat × Nat) := (List.range n).flatMap (gCt g i)
theorem gMp_s (g : GD) (i n : Nat) : gMp g i (n + 1) = gMp g i n ++ gCt g i n := by
  unfold gMp
  rw [List.range_succ, List.flatMap_append]
  simp
theorem gMp_32 (g : GD) (i : Nat) : gMp g i 32 = gMt g i := rfl
theorem gMp_le (g : GD) (i : Nat) : ∀ d n, (gMp g i n).length ≤ (gMp g i (n + d)).length
  | 0, n => Nat.le_refl _
  | d + 1, n => by
    have ih := gMp_le g i d n
    rw [show n + (d + 1) = n + d + 1 by omega, gMp_s, List.length_append]
    omega
section LAYS
variable {σ : XS} {J : Nat → Nat → Int32} {g : GD}
theorem addMate_ok (hS : Shp σ) {i x y L : Nat} (hi : i < 16) (hL : L < 4) (h : J 15 i = nI L) : f_X3_addMate (xw σ J) 11 (nI i) (nI x) (nI y) = some (xw σ (xup (xup (xup J 13 (4 * i + L) (nI x)) 14 (4 * i + L) (nI y)) 15 i (nI (L + 1)))) := by
  unfold f_X3_addMate
  have q1 : ((16 : Int32) ≤ nI i) = False := by rw [show (16 : Int32) = nI 16 from rfl, nn_le (by omega) (by omega)]; exact eq_false (by omega)
  have q2 : (nI L < (4 : Int32)) = True := by rw [show (4 : Int32) = nI 4 from rfl, nn_lt (by omega) (by omega)]; exact eq_true hL
  have e : (4 : Int32) * nI i + nI L = nI (4 * i + L) := by rw [show (4 : Int32) = nI 4 from rfl, nn_mul, nn_add]
  have i64 : 4 * i + L < 64 := by omega
  rw [if_neg (nI_pos (by omega)), if_neg (by rw [q1]; exact id)]
  simp (disch := first | assumption | omega) only [Option.bind_some, Option.map_some, xw_gR, xw_gN, xw_al, xw_ck, xw_uI, xw_ur, xup_at, xur_at, if_true, if_false, reduceIte, and_true, true_and, and_false, false_and, not_true_eq_false, not_false_eq_true, Nat.reduceEqDiff, eq_self, Nat.reduceAdd, Nat.reduceMul, kC1, kG1, kP1, kR1_0, kR1_1, kR1_2, kR1_3, kR1_4, kR1_5, kR1_6, kR1_7, kR1_8, kR1_9, kR1_10, kR1_11, kR1_12, kR1_13, kC2, kG2, kP2, kR2_0, kR2_1, kC3, kG3, kP3, kR3_0, kR3_1, kR3_2, kR3_3, kL4, kA4, kS4, kL5, kA5, kS5, kL6, kA6, kS6, kL7, kA7, kS7, kC8, kG8, kP8, kR8_0, kR8_1, kL9, kA9, kS9, kL10, kA10, kS10, kC11, kG11, kP11, kR11_0, kR11_1, kR11_2, kR11_3, kL12, kA12, kS12, kL13, kA13, kS13, kL14, kA14, kS14, kL15, kA15, kS15, kC16, kG16, kP16, kR16_0, kR16_1, kL17, kA17, kS17, kL18, kA18, kS18, kC19, kG19, kP19, kR19_0, kL20, kL141, kL146, kA146, kS146, kL151, kA151, kS151, kL156, kA156, kS156, kC157, kG157, kP157, kR157_0, kR157_1, kL158, kA158, kS158, kL159, kA159, kS159, kC161, kG161, kP161, kR161_0, kR161_1, kL162, kA162, kS162, kL163, kA163, kS163, kC165, kG165, kP165, kR165_0, kR165_1, kR165_2, kR165_3, kL166, kA166, kS166, kL167, kA167, kS167, kL168, kA168, kS168, kL169, kA169, kS169, kC170, kG170, kP170, kR170_0, kR170_1, kR170_2, kL171, kA171, kS171, kL172, kA172, kS172, kL173, kA173, kS173, kC174, kG174, kP174, kR174_0, kR174_1, kR174_2, kR174_3, kR174_4, kL175, kA175, kS175, kL176, kA176, kS176, kL177, kA177, kS177, kL178, kA178, kS178, kL179, kC180, kG180, kP180, kL181, kL182, kA182, kS182, kC183, kG183, kP183, kR183_1, kR183_3, kR183_5, kR183_6, kR183_7, kR183_8, kR183_9, kR183_21, kR183_26, kR183_27, kR183_30, kR183_31, kR183_33, kR183_34, kR183_36, kR183_37, kR183_38, kR183_39, kR183_40, kR183_41, kR183_42, kR183_43, kR183_44, kL184, kA184, kS184, kL185, kA185, kS185, kL186, kA186, kS186, kL187, kA187, kS187, kL188, kA188, kS188, kL189, kL190, kL191, kA191, kS191, kL192, kA192, kS192, kL193, kA193, kS193, kL194, kA194, kS194, kL195, kA195, kS195, kL196, kA196, kS196, kL197, kA197, kS197, kL198, kA198, kS198, kL199, kA199, kS199, kL200, kA200, kS200, kL201, kL202, kA202, kS202, kL203, kA203, kS203, kL204, kA204, kS204, kL205, kL206, kA206, kS206, h, q2, e]
  rw [← nI_succ]
/-- the mates as they lie when n ties are laid -/
def GM (J : Nat → Nat → Int32) (g : GD) (n : Nat) : Prop := (∀ t, t < n → J 12 t = oI (gTo g t)) ∧ (∀ i, i < 16 → J 15 i = nI (gMp g i n).length) ∧ ∀ i j, i < 16 → j < (gMp g i n).length → J 13 (4 * i + j) = nI ((gMp g i n).getD j (0, 0)).1 ∧ J 14 (4 * i + j) = nI ((gMp g i n).getD j (0, 0)).2
theorem getD_app1 {l1 l2 : List (Nat × Nat)} {j : Nat} (h : j < l1.length) : (l1 ++ l2).getD j (0, 0) = l1.getD j (0, 0) := by
  rw [List.getD_eq_getElem?_getD, List.getD_eq_getElem?_getD, List.getElem?_append_left h]
theorem getD_app2 {l1 : List (Nat × Nat)} {p : Nat × Nat} : (l1 ++ [p]).getD l1.length (0, 0) = p := by
  rw [List.getD_eq_getElem?_getD, List.getElem?_append_right (Nat.le_refl _), Nat.sub_self]
  rfl
theorem lay_l (hS : Shp σ) (hg : g ∈ gAll) (h4 : J 11 4 = nI g.1) (h5 : J 11 5 = nI g.2.1) (h6 : J 11 6 = nI g.2.2) (h15 : ∀ i, i < 16 → J 15 i = 0) : ∃ x, xloop (f_X3_lay_b39 11) ((0 : Int32), xw σ J) = some x ∧ ∃ J', x = xw σ J' ∧ GM J' g 32 ∧ ∀ a q, ¬ (12 ≤ a ∧ a ≤ 15) → J' a q = J a q := by
  have h16 := (gAll_b g hg).2.2.1
  have b4 : ∀ i n, i < 16 → n ≤ 32 → (gMp g i n).length ≤ 4 := fun i n hi hn => by
    have h1 := gMp_le g i (32 - n) n
    rw [show n + (32 - n) = 32 by omega, gMp_32] at h1
    have := (gMt_b g hg i hi).1
    omega
  refine xforI (fun t a => ∃ J' : Nat → Nat → Int32, a = (nI t, xw σ J') ∧ GM J' g t ∧ ∀ a q, ¬ (12 ≤ a ∧ a ≤ 15) → J' a q = J a q) 32 ⟨J, rfl, ⟨fun t ht => absurd ht (Nat.not_lt_zero _), fun i hi => h15 i hi, fun i j hi hj => absurd hj (Nat.not_lt_zero _)⟩, fun _ _ _ => rfl⟩ ?_ ?_
  · rintro t a ht ⟨J', rfl, ⟨m1, m2, m3⟩, u⟩
    have eo := endOf_ok g hg t ht
    have q32 : ((32 : Int32) ≤ nI t) = False := by rw [show (32 : Int32) = nI 32 from rfl, nn_le (by omega) (by omega)]; exact eq_false (by omega)
    have v4 : J' 11 4 = nI g.1 := by rw [u _ _ (by omega)]; exact h4
    have v5 : J' 11 5 = nI g.2.1 := by rw [u _ _ (by omega)]; exact h5
    have v6 : J' 11 6 = nI g.2.2 := by rw [u _ _ (by omega)]; exact h6
    obtain ⟨A, hA⟩ : ∃ A, A = xup J' 12 t (oI (gTo g t)) := ⟨_, rfl⟩
    have uA : ∀ a q, a ≠ 12 → A a q = J' a q := fun a q h => by rw [hA, xup_at, if_neg (by omega)]
    have A12 : A 12 t = oI (gTo g t) := by rw [hA, xup_at, if_pos ⟨rfl, rfl⟩]
    have mA : ∀ q, q < t + 1 → A 12 q = oI (gTo g q) := fun q hq => by
      rw [hA, xup_at]
      by_cases z : q = t
      · rw [if_pos ⟨rfl, z⟩, z]
      · rw [if_neg (by omega)]; exact m1 q (by omega)
    cases hgt : gTo g t with
    | none =>
      have ec : ∀ i, gMp g i (t + 1) = gMp g i t := fun i => by
        rw [gMp_s]; unfold gCt; rw [hgt]; simp
      refine ⟨(nI (t + 1), xw σ A), ?_, A, rfl, ⟨mA, fun i hi => by rw [ec, uA _ _ (by omega)]; exact m2 i hi, fun i j hi hj => by rw [ec] at hj ⊢; rw [uA _ _ (by omega), uA _ _ (by omega)]; exact m3 i j hi hj⟩, fun a q h => by rw [uA a q (by omega)]; exact u a q h⟩
      have qm : (oI none = -1) = True := eq_true rfl
      rw [hgt] at eo hA A12
      simp only [f_X3_lay_b39]
      simp (disch := first | assumption | omega) only [Option.bind_some, Option.map_some, xw_gR, xw_gN, xw_al, xw_ck, xw_uI, xw_ur, xup_at, xur_at, if_true, if_false, reduceIte, and_true, true_and, and_false, false_and, not_true_eq_false, not_false_eq_true, Nat.reduceEqDiff, eq_self, Nat.reduceAdd, Nat.reduceMul, kC1, kG1, kP1, kR1_0, kR1_1, kR1_2, kR1_3, kR1_4, kR1_5, kR1_6, kR1_7, kR1_8, kR1_9, kR1_10, kR1_11, kR1_12, kR1_13, kC2, kG2, kP2, kR2_0, kR2_1, kC3, kG3, kP3, kR3_0, kR3_1, kR3_2, kR3_3, kL4, kA4, kS4, kL5, kA5, kS5, kL6, kA6, kS6, kL7, kA7, kS7, kC8, kG8, kP8, kR8_0, kR8_1, kL9, kA9, kS9, kL10, kA10, kS10, kC11, kG11, kP11, kR11_0, kR11_1, kR11_2, kR11_3, kL12, kA12, kS12, kL13, kA13, kS13, kL14, kA14, kS14, kL15, kA15, kS15, kC16, kG16, kP16, kR16_0, kR16_1, kL17, kA17, kS17, kL18, kA18, kS18, kC19, kG19, kP19, kR19_0, kL20, kL141, kL146, kA146, kS146, kL151, kA151, kS151, kL156, kA156, kS156, kC157, kG157, kP157, kR157_0, kR157_1, kL158, kA158, kS158, kL159, kA159, kS159, kC161, kG161, kP161, kR161_0, kR161_1, kL162, kA162, kS162, kL163, kA163, kS163, kC165, kG165, kP165, kR165_0, kR165_1, kR165_2, kR165_3, kL166, kA166, kS166, kL167, kA167, kS167, kL168, kA168, kS168, kL169, kA169, kS169, kC170, kG170, kP170, kR170_0, kR170_1, kR170_2, kL171, kA171, kS171, kL172, kA172, kS172, kL173, kA173, kS173, kC174, kG174, kP174, kR174_0, kR174_1, kR174_2, kR174_3, kR174_4, kL175, kA175, kS175, kL176, kA176, kS176, kL177, kA177, kS177, kL178, kA178, kS178, kL179, kC180, kG180, kP180, kL181, kL182, kA182, kS182, kC183, kG183, kP183, kR183_1, kR183_3, kR183_5, kR183_6, kR183_7, kR183_8, kR183_9, kR183_21, kR183_26, kR183_27, kR183_30, kR183_31, kR183_33, kR183_34, kR183_36, kR183_37, kR183_38, kR183_39, kR183_40, kR183_41, kR183_42, kR183_43, kR183_44, kL184, kA184, kS184, kL185, kA185, kS185, kL186, kA186, kS186, kL187, kA187, kS187, kL188, kA188, kS188, kL189, kL190, kL191, kA191, kS191, kL192, kA192, kS192, kL193, kA193, kS193, kL194, kA194, kS194, kL195, kA195, kS195, kL196, kA196, kS196, kL197, kA197, kS197, kL198, kA198, kS198, kL199, kA199, kS199, kL200, kA200, kS200, kL201, kL202, kA202, kS202, kL203, kA203, kS203, kL204, kA204, kS204, kL205, kL206, kA206, kS206, q32, v4, v5, v6, eo, ← hA, A12, qm]
      rw [nI_succ]
    | some e =>
      obtain ⟨f1, f2, f3⟩ := gTo_b g hg t ht e hgt
      obtain ⟨f, hf⟩ : ∃ f, f = gFr t := ⟨_, rfl⟩
      rw [← hf] at f1 f3
      have ec : ∀ i, gMp g i (t + 1) = gMp g i t ++ (if f = i then [(e, t)] else if e = i then [(f, t)] else []) := fun i => by
        rw [gMp_s]; unfold gCt; rw [hgt, hf]
      have lf : (gMp g f t).length < 4 := by
        have := b4 f (t + 1) (by omega) (by omega)
        rw [ec, if_pos rfl, List.length_append] at this
        simp at this
        omega
      have le : (gMp g e t).length < 4 := by
        have := b4 e (t + 1) (by omega) (by omega)
        rw [ec, if_neg f3, if_pos rfl, List.length_append] at this
        simp at this
        omega
      have so : f_X3_startOf (nI t) = some (nI f) := by
        unfold f_X3_startOf
        have q16 : ((16 : Int32) ≤ nI t) = (16 ≤ t) := by rw [show (16 : Int32) = nI 16 from rfl, nn_le (by omega) (by omega)]
        simp only [q16]
        rw [hf]
        unfold gFr
        by_cases z : 16 ≤ t
        · rw [if_pos z, if_neg (by omega), show (16 : Int32) = nI 16 from rfl, nn_sub z]
        · rw [if_neg z, if_pos (by omega)]
      obtain ⟨p, hp⟩ : ∃ p, p = 4 * f + (gMp g f t).length := ⟨_, rfl⟩
      obtain ⟨q, hq⟩ : ∃ q, q = 4 * e + (gMp g e t).length := ⟨_, rfl⟩
      have ad1 := addMate_ok (σ := σ) (J := A) (i := f) (x := e) (y := t) hS (by omega) lf (by rw [uA _ _ (by omega)]; exact m2 f (by omega))
      rw [← hp] at ad1
      obtain ⟨B, hB⟩ : ∃ B, B = xup (xup (xup A 13 p (nI e)) 14 p (nI t)) 15 f (nI ((gMp g f t).length + 1)) := ⟨_, rfl⟩
      rw [← hB] at ad1
      have uB : ∀ a k, ¬ (13 ≤ a ∧ a ≤ 15) → B a k = A a k := fun a k h => by rw [hB, xup_at, if_neg (by omega), xup_at, if_neg (by omega), xup_at, if_neg (by omega)]
      have B15 : ∀ i, i ≠ f → B 15 i = A 15 i := fun i h => by rw [hB, xup_at, if_neg (by omega), xup_at, if_neg (by omega), xup_at, if_neg (by omega)]
      have ad2 := addMate_ok (σ := σ) (J := B) (i := e) (x := f) (y := t) hS (by omega) le (by rw [B15 e (fun z => f3 z.symm), uA _ _ (by omega)]; exact m2 e (by omega))
      rw [← hq] at ad2
      obtain ⟨C, hC⟩ : ∃ C, C = xup (xup (xup B 13 q (nI f)) 14 q (nI t)) 15 e (nI ((gMp g e t).length + 1)) := ⟨_, rfl⟩
      rw [← hC] at ad2
      have uC : ∀ a k, ¬ (13 ≤ a ∧ a ≤ 15) → C a k = B a k := fun a k h => by rw [hC, xup_at, if_neg (by omega), xup_at, if_neg (by omega), xup_at, if_neg (by omega)]
      have pq : p ≠ q := by omega
      have c13 : ∀ k, C 13 k = if k = q then nI f else if k = p then nI e else J' 13 k := fun k => by
        rw [hC, xup_at, if_neg (by omega), xup_at, if_neg (by omega), xup_at]
        by_cases z : k = q
        · rw [if_pos ⟨rfl, z⟩, if_pos z]
        · rw [if_neg (by omega), if_neg z, hB, xup_at, if_neg (by omega), xup_at, if_neg (by omega), xup_at]
          by_cases y : k = p
          · rw [if_pos ⟨rfl, y⟩, if_pos y]
          · rw [if_neg (by omega), if_neg y]; exact uA _ _ (by omega)
      have c14 : ∀ k, C 14 k = if k = q then nI t else if k = p then nI t else J' 14 k := fun k => by
        rw [hC, xup_at, if_neg (by omega), xup_at]
        by_cases z : k = q
        · rw [if_pos ⟨rfl, z⟩, if_pos z]
        · rw [if_neg (by omega), if_neg z, xup_at, if_neg (by omega), hB, xup_at, if_neg (by omega), xup_at]
          by_cases y : k = p
          · rw [if_pos ⟨rfl, y⟩, if_pos y]
          · rw [if_neg (by omega), if_neg y, xup_at, if_neg (by omega)]; exact uA _ _ (by omega)
      have c15 : ∀ i, C 15 i = if i = e then nI ((gMp g e t).length + 1) else if i = f then nI ((gMp g f t).length + 1) else J' 15 i := fun i => by
        rw [hC, xup_at]
        by_cases z : i = e
        · rw [if_pos ⟨rfl, z⟩, if_pos z]
        · rw [if_neg (by omega), if_neg z, xup_at, if_neg (by omega), xup_at, if_neg (by omega), hB, xup_at]
          by_cases y : i = f
          · rw [if_pos ⟨rfl, y⟩, if_pos y]
          · rw [if_neg (by omega), if_neg y, xup_at, if_neg (by omega), xup_at, if_neg (by omega)]; exact uA _ _ (by omega)
      refine ⟨(nI (t + 1), xw σ C), ?_, C, rfl, ⟨fun k hk => by rw [uC _ _ (by omega), uB _ _ (by omega)]; exact mA k hk, fun i hi => ?_, fun i j hi hj => ?_⟩, fun a k h => by rw [uC a k (by omega), uB a k (by omega), uA a k (by omega)]; exact u a k h⟩
      · have qm : (oI (some e) = -1) = False := nn_m1 (by omega)
        have B12 : B 12 t = oI (some e) := by rw [uB _ _ (by omega), A12, hgt]
        rw [hgt] at eo hA A12
        have ad1' : f_X3_addMate (xw σ A) 11 (nI f) (oI (some e)) (nI t) = some (xw σ B) := ad1
        have ad2' : f_X3_addMate (xw σ B) 11 (oI (some e)) (nI f) (nI t) = some (xw σ C) := ad2
        simp only [f_X3_lay_b39]
        simp (disch := first | assumption | omega) only [Option.bind_some, Option.map_some, xw_gR, xw_gN, xw_al, xw_ck, xw_uI, xw_ur, xup_at, xur_at, if_true, if_false, reduceIte, and_true, true_and, and_false, false_and, not_true_eq_false, not_false_eq_true, Nat.reduceEqDiff, eq_self, Nat.reduceAdd, Nat.reduceMul, kC1, kG1, kP1, kR1_0, kR1_1, kR1_2, kR1_3, kR1_4, kR1_5, kR1_6, kR1_7, kR1_8, kR1_9, kR1_10, kR1_11, kR1_12, kR1_13, kC2, kG2, kP2, kR2_0, kR2_1, kC3, kG3, kP3, kR3_0, kR3_1, kR3_2, kR3_3, kL4, kA4, kS4, kL5, kA5, kS5, kL6, kA6, kS6, kL7, kA7, kS7, kC8, kG8, kP8, kR8_0, kR8_1, kL9, kA9, kS9, kL10, kA10, kS10, kC11, kG11, kP11, kR11_0, kR11_1, kR11_2, kR11_3, kL12, kA12, kS12, kL13, kA13, kS13, kL14, kA14, kS14, kL15, kA15, kS15, kC16, kG16, kP16, kR16_0, kR16_1, kL17, kA17, kS17, kL18, kA18, kS18, kC19, kG19, kP19, kR19_0, kL20, kL141, kL146, kA146, kS146, kL151, kA151, kS151, kL156, kA156, kS156, kC157, kG157, kP157, kR157_0, kR157_1, kL158, kA158, kS158, kL159, kA159, kS159, kC161, kG161, kP161, kR161_0, kR161_1, kL162, kA162, kS162, kL163, kA163, kS163, kC165, kG165, kP165, kR165_0, kR165_1, kR165_2, kR165_3, kL166, kA166, kS166, kL167, kA167, kS167, kL168, kA168, kS168, kL169, kA169, kS169, kC170, kG170, kP170, kR170_0, kR170_1, kR170_2, kL171, kA171, kS171, kL172, kA172, kS172, kL173, kA173, kS173, kC174, kG174, kP174, kR174_0, kR174_1, kR174_2, kR174_3, kR174_4, kL175, kA175, kS175, kL176, kA176, kS176, kL177, kA177, kS177, kL178, kA178, kS178, kL179, kC180, kG180, kP180, kL181, kL182, kA182, kS182, kC183, kG183, kP183, kR183_1, kR183_3, kR183_5, kR183_6, kR183_7, kR183_8, kR183_9, kR183_21, kR183_26, kR183_27, kR183_30, kR183_31, kR183_33, kR183_34, kR183_36, kR183_37, kR183_38, kR183_39, kR183_40, kR183_41, kR183_42, kR183_43, kR183_44, kL184, kA184, kS184, kL185, kA185, kS185, kL186, kA186, kS186, kL187, kA187, kS187, kL188, kA188, kS188, kL189, kL190, kL191, kA191, kS191, kL192, kA192, kS192, kL193, kA193, kS193, kL194, kA194, kS194, kL195, kA195, kS195, kL196, kA196, kS196, kL197, kA197, kS197, kL198, kA198, kS198, kL199, kA199, kS199, kL200, kA200, kS200, kL201, kL202, kA202, kS202, kL203, kA203, kS203, kL204, kA204, kS204, kL205, kL206, kA206, kS206, q32, v4, v5, v6, eo, ← hA, A12, qm, so, ad1', B12, ad2']
        rw [nI_succ]
      · rw [c15, ec]
        by_cases z : i = e
        · rw [if_pos z, z, if_neg f3, if_pos rfl, List.length_append]; rfl
        · rw [if_neg z]
          by_cases y : i = f
          · rw [if_pos y, y, if_pos rfl, List.length_append]; rfl
          · rw [if_neg y, if_neg (fun w => y w.symm), if_neg (fun w => z w.symm), List.append_nil]; exact m2 i hi
      · rw [c13, c14]
        have l4 : (gMp g i t).length ≤ 4 := b4 i t hi (by omega)
        rw [ec] at hj ⊢
        by_cases z : i = e
        · subst z
          rw [if_neg f3, if_pos rfl] at hj ⊢
          rw [List.length_append] at hj
          have hj : j < (gMp g i t).length + 1 := hj
          by_cases y : j = (gMp g i t).length
          · have k1 : 4 * i + j = q := by omega
            rw [if_pos k1, if_pos k1, y, getD_app2]
            exact ⟨rfl, rfl⟩
          · have k1 : ¬ 4 * i + j = q := by omega
            have k2 : ¬ 4 * i + j = p := by omega
            rw [if_neg k1, if_neg k1, if_neg k2, if_neg k2, getD_app1 (by omega)]
            exact m3 i j hi (by omega)
        · by_cases y : i = f
          · subst y
            rw [if_pos rfl] at hj ⊢
            rw [List.length_append] at hj
            have hj : j < (gMp g i t).length + 1 := hj
            have k1 : ¬ 4 * i + j = q := by omega
            by_cases v : j = (gMp g i t).length
            · have k2 : 4 * i + j = p := by omega
              rw [if_neg k1, if_neg k1, if_pos k2, if_pos k2, v, getD_app2]
              exact ⟨rfl, rfl⟩
            · have k2 : ¬ 4 * i + j = p := by omega
              rw [if_neg k1, if_neg k1, if_neg k2, if_neg k2, getD_app1 (by omega)]
              exact m3 i j hi (by omega)
          · rw [if_neg (show ¬ f = i from fun w => y w.symm), if_neg (show ¬ e = i from fun w => z w.symm), List.append_nil] at hj ⊢
            have k1 : ¬ 4 * i + j = q := by omega
            have k2 : ¬ 4 * i + j = p := by omega
            rw [if_neg k1, if_neg k1, if_neg k2, if_neg k2]
            exact m3 i j hi hj
  · rintro a ⟨J', rfl, hM, u⟩
    refine ⟨xw σ J', ?_, J', rfl, hM, u⟩
    simp only [f_X3_lay_b39]
    rw [if_pos (by decide)]
    rfl
theorem lay_ok (hS : Shp σ) (hg : g ∈ gAll) : ∃ J', f_X3_lay (xw σ J) 11 (nI g.1) (nI g.2.1) (nI g.2.2) = some (xw σ J') ∧ J' 11 4 = nI g.1 ∧ J' 11 5 = nI g.2.1 ∧ J' 11 6 = nI g.2.2 ∧ J' 11 7 = nI (gSz g) ∧ GM J' g 32 ∧ ∀ a q, ¬ (11 ≤ a ∧ a ≤ 15) → J' a q = J a q := by
  have K15 : σ.1 15 = (20, 16) := xw_K hS (by decide) (by decide) (by decide)
  obtain ⟨A, hA⟩ : ∃ A, A = xup (xup (xup (xup J 11 4 (nI g.1)) 11 5 (nI g.2.1)) 11 6 (nI g.2.2)) 11 7 (nI g.1 * nI g.2.1) := ⟨_, rfl⟩
  have f := fillI_ok (σ := σ) (I := A) (v := 0) K15 (by decide)
  obtain ⟨B, hB⟩ : ∃ B, B = xur A 15 (fun j => if j < 16 then 0 else A 15 j) := ⟨_, rfl⟩
  rw [← hB] at f
  have uB : ∀ a q, a ≠ 15 → B a q = A a q := fun a q h => by rw [hB, xur_at, if_neg h]
  have A4 : A 11 4 = nI g.1 := by rw [hA, xup_at, if_neg (by omega), xup_at, if_neg (by omega), xup_at, if_neg (by omega), xup_at, if_pos ⟨rfl, rfl⟩]
  have A5 : A 11 5 = nI g.2.1 := by rw [hA, xup_at, if_neg (by omega), xup_at, if_neg (by omega), xup_at, if_pos ⟨rfl, rfl⟩]
  have A6 : A 11 6 = nI g.2.2 := by rw [hA, xup_at, if_neg (by omega), xup_at, if_pos ⟨rfl, rfl⟩]
  have A7 : A 11 7 = nI (gSz g) := by rw [hA, xup_at, if_pos ⟨rfl, rfl⟩, nn_mul]; rfl
  obtain ⟨x, e, J', rfl, hM, u⟩ := lay_l (σ := σ) (J := B) hS hg (by rw [uB _ _ (by omega)]; exact A4) (by rw [uB _ _ (by omega)]; exact A5) (by rw [uB _ _ (by omega)]; exact A6) (fun i hi => by rw [hB, xur_at, if_pos rfl, if_pos hi])
  refine ⟨J', ?_, by rw [u _ _ (by omega), uB _ _ (by omega)]; exact A4, by rw [u _ _ (by omega), uB _ _ (by omega)]; exact A5, by rw [u _ _ (by omega), uB _ _ (by omega)]; exact A6, by rw [u _ _ (by omega), uB _ _ (by omega)]; exact A7, hM, fun a q h => ?_⟩
  · unfold f_X3_lay
    simp (disch := first | assumption | omega) only [Option.bind_some, Option.map_some, xw_gR, xw_gN, xw_al, xw_ck, xw_uI, xw_ur, xup_at, xur_at, if_true, if_false, reduceIte, and_true, true_and, and_false, false_and, not_true_eq_false, not_false_eq_true, Nat.reduceEqDiff, eq_self, Nat.reduceAdd, Nat.reduceMul, kC1, kG1, kP1, kR1_0, kR1_1, kR1_2, kR1_3, kR1_4, kR1_5, kR1_6, kR1_7, kR1_8, kR1_9, kR1_10, kR1_11, kR1_12, kR1_13, kC2, kG2, kP2, kR2_0, kR2_1, kC3, kG3, kP3, kR3_0, kR3_1, kR3_2, kR3_3, kL4, kA4, kS4, kL5, kA5, kS5, kL6, kA6, kS6, kL7, kA7, kS7, kC8, kG8, kP8, kR8_0, kR8_1, kL9, kA9, kS9, kL10, kA10, kS10, kC11, kG11, kP11, kR11_0, kR11_1, kR11_2, kR11_3, kL12, kA12, kS12, kL13, kA13, kS13, kL14, kA14, kS14, kL15, kA15, kS15, kC16, kG16, kP16, kR16_0, kR16_1, kL17, kA17, kS17, kL18, kA18, kS18, kC19, kG19, kP19, kR19_0, kL20, kL141, kL146, kA146, kS146, kL151, kA151, kS151, kL156, kA156, kS156, kC157, kG157, kP157, kR157_0, kR157_1, kL158, kA158, kS158, kL159, kA159, kS159, kC161, kG161, kP161, kR161_0, kR161_1, kL162, kA162, kS162, kL163, kA163, kS163, kC165, kG165, kP165, kR165_0, kR165_1, kR165_2, kR165_3, kL166, kA166, kS166, kL167, kA167, kS167, kL168, kA168, kS168, kL169, kA169, kS169, kC170, kG170, kP170, kR170_0, kR170_1, kR170_2, kL171, kA171, kS171, kL172, kA172, kS172, kL173, kA173, kS173, kC174, kG174, kP174, kR174_0, kR174_1, kR174_2, kR174_3, kR174_4, kL175, kA175, kS175, kL176, kA176, kS176, kL177, kA177, kS177, kL178, kA178, kS178, kL179, kC180, kG180, kP180, kL181, kL182, kA182, kS182, kC183, kG183, kP183, kR183_1, kR183_3, kR183_5, kR183_6, kR183_7, kR183_8, kR183_9, kR183_21, kR183_26, kR183_27, kR183_30, kR183_31, kR183_33, kR183_34, kR183_36, kR183_37, kR183_38, kR183_39, kR183_40, kR183_41, kR183_42, kR183_43, kR183_44, kL184, kA184, kS184, kL185, kA185, kS185, kL186, kA186, kS186, kL187, kA187, kS187, kL188, kA188, kS188, kL189, kL190, kL191, kA191, kS191, kL192, kA192, kS192, kL193, kA193, kS193, kL194, kA194, kS194, kL195, kA195, kS195, kL196, kA196, kS196, kL197, kA197, kS197, kL198, kA198, kS198, kL199, kA199, kS199, kL200, kA200, kS200, kL201, kL202, kA202, kS202, kL203, kA203, kS203, kL204, kA204, kS204, kL205, kL206, kA206, kS206]
    rw [← hA]
    simp (disch := first | assumption | omega) only [Option.bind_some, Option.map_some, xw_gR, xw_gN, xw_al, xw_ck, xw_uI, xw_ur, xup_at, xur_at, if_true, if_false, reduceIte, and_true, true_and, and_false, false_and, not_true_eq_false, not_false_eq_true, Nat.reduceEqDiff, eq_self, Nat.reduceAdd, Nat.reduceMul, kC1, kG1, kP1, kR1_0, kR1_1, kR1_2, kR1_3, kR1_4, kR1_5, kR1_6, kR1_7, kR1_8, kR1_9, kR1_10, kR1_11, kR1_12, kR1_13, kC2, kG2, kP2, kR2_0, kR2_1, kC3, kG3, kP3, kR3_0, kR3_1, kR3_2, kR3_3, kL4, kA4, kS4, kL5, kA5, kS5, kL6, kA6, kS6, kL7, kA7, kS7, kC8, kG8, kP8, kR8_0, kR8_1, kL9, kA9, kS9, kL10, kA10, kS10, kC11, kG11, kP11, kR11_0, kR11_1, kR11_2, kR11_3, kL12, kA12, kS12, kL13, kA13, kS13, kL14, kA14, kS14, kL15, kA15, kS15, kC16, kG16, kP16, kR16_0, kR16_1, kL17, kA17, kS17, kL18, kA18, kS18, kC19, kG19, kP19, kR19_0, kL20, kL141, kL146, kA146, kS146, kL151, kA151, kS151, kL156, kA156, kS156, kC157, kG157, kP157, kR157_0, kR157_1, kL158, kA158, kS158, kL159, kA159, kS159, kC161, kG161, kP161, kR161_0, kR161_1, kL162, kA162, kS162, kL163, kA163, kS163, kC165, kG165, kP165, kR165_0, kR165_1, kR165_2, kR165_3, kL166, kA166, kS166, kL167, kA167, kS167, kL168, kA168, kS168, kL169, kA169, kS169, kC170, kG170, kP170, kR170_0, kR170_1, kR170_2, kL171, kA171, kS171, kL172, kA172, kS172, kL173, kA173, kS173, kC174, kG174, kP174, kR174_0, kR174_1, kR174_2, kR174_3, kR174_4, kL175, kA175, kS175, kL176, kA176, kS176, kL177, kA177, kS177, kL178, kA178, kS178, kL179, kC180, kG180, kP180, kL181, kL182, kA182, kS182, kC183, kG183, kP183, kR183_1, kR183_3, kR183_5, kR183_6, kR183_7, kR183_8, kR183_9, kR183_21, kR183_26, kR183_27, kR183_30, kR183_31, kR183_33, kR183_34, kR183_36, kR183_37, kR183_38, kR183_39, kR183_40, kR183_41, kR183_42, kR183_43, kR183_44, kL184, kA184, kS184, kL185, kA185, kS185, kL186, kA186, kS186, kL187, kA187, kS187, kL188, kA188, kS188, kL189, kL190, kL191, kA191, kS191, kL192, kA192, kS192, kL193, kA193, kS193, kL194, kA194, kS194, kL195, kA195, kS195, kL196, kA196, kS196, kL197, kA197, kS197, kL198, kA198, kS198, kL199, kA199, kS199, kL200, kA200, kS200, kL201, kL202, kA202, kS202, kL203, kA203, kS203, kL204, kA204, kS204, kL205, kL206, kA206, kS206, f]
    exact e
  · rw [u a q (by omega), uB a q (by omega), hA, xup_at, if_neg (by omega), xup_at, if_neg (by omega), xup_at, if_neg (by omega), xup_at, if_neg (by omega)]
end LAYS
