/-! the class's energy of a state, and what a turn costs -/
theorem lsum_get {α : Type} (f : α → Int) (d : α) : ∀ l : List α, fb_si (fun j => f (l.getD j d)) l.length = (l.map f).sum := by
  intro l
  induction l with
  | nil => rfl
  | cons x l ih =>
    rw [List.length_cons, Nat.add_comm, fb_si_split]
    have e : fb_si (fun k => f ((x :: l).getD (1 + k) d)) l.length = fb_si (fun j => f (l.getD j d)) l.length := fb_si_cong (fun k _ => by rw [Nat.add_comm 1 k]; rfl)
    rw [e, ih]
    simp [fb_si]
theorem lsum_flat {α : Type} (f : α → Int) (h : Nat → List α) : ∀ n, (((List.range n).flatMap h).map f).sum = fb_si (fun t => ((h t).map f).sum) n := by
  intro n
  induction n with
  | zero => rfl
  | succ n ih =>
    rw [List.range_succ, List.flatMap_append, List.map_append, List.sum_append, ih, fb_si_succ]
    simp
/-- how a site is pulled, what its turn costs -/
def ePl (g : GD) (F : Nat → Int) (s i : Nat) : Int := F (32 + i) + ((gMt g i).map (fun q => if s.testBit q.1 then F q.2 else -F q.2)).sum
def eC (g : GD) (F : Nat → Int) (s i : Nat) : Int := if s.testBit i then 2 * ePl g F s i else -2 * ePl g F s i
theorem eE_flip {g : GD} (hg : g ∈ gAll) (F : Nat → Int) {s i : Nat} (hi : i < gSz g) : eE g F (s ^^^ 2 ^ i) = eE g F s + eC g F s i := by
  have hb : ∀ j, (s ^^^ 2 ^ i).testBit j = (s.testBit j ^^ decide (j = i)) := fun j => fb_bit_flip s i j
  have h1 : fb_si (eH F (s ^^^ 2 ^ i)) (gSz g) = fb_si (eH F s) (gSz g) + (if s.testBit i then 2 * F (32 + i) else -2 * F (32 + i)) := by
    have e : fb_si (eH F (s ^^^ 2 ^ i)) (gSz g) = fb_si (fun k => if k = i then eH F (s ^^^ 2 ^ i) i else eH F s k) (gSz g) := fb_si_cong (fun k _ => by
      by_cases hk : k = i
      · rw [if_pos hk, hk]
      · rw [if_neg hk]
        unfold eH
        rw [hb k]
        simp [hk])
    rw [e, fb_si_upd _ _ hi]
    unfold eH
    rw [hb i]
    cases s.testBit i <;> simp <;> omega
  have h2 : fb_si (eT g F (s ^^^ 2 ^ i)) 32 = fb_si (eT g F s) 32 + (if s.testBit i then 2 * ((gMt g i).map (fun q => if s.testBit q.1 then F q.2 else -F q.2)).sum else -2 * ((gMt g i).map (fun q => if s.testBit q.1 then F q.2 else -F q.2)).sum) := by
    unfold gMt
    rw [lsum_flat]
    have e : fb_si (eT g F (s ^^^ 2 ^ i)) 32 = fb_si (fun t => eT g F s t + (if s.testBit i then (2 : Int) else -2) * (((match gTo g t with | none => [] | some e => if gFr t = i then [(e, t)] else if e = i then [(gFr t, t)] else []) : List (Nat × Nat)).map (fun q => if s.testBit q.1 then F q.2 else -F q.2)).sum) 32 := fb_si_cong (fun t ht => by
      unfold eT
      cases he : gTo g t with
      | none => simp
      | some e =>
        have hne := (gTo_b g hg t ht e he).2.2
        dsimp only
        rw [hb, hb]
        by_cases q1 : gFr t = i
        · have q2 : ¬ e = i := fun z => hne (q1.trans z.symm)
          rw [if_pos q1, q1]
          simp only [List.map_cons, List.map_nil, List.sum_cons, List.sum_nil]
          cases s.testBit i <;> cases s.testBit e <;> simp [q2] <;> omega
        · rw [if_neg q1]
          by_cases q2 : e = i
          · rw [if_pos q2, q2]
            simp only [List.map_cons, List.map_nil, List.sum_cons, List.sum_nil]
            cases s.testBit i <;> cases s.testBit (gFr t) <;> simp [q1] <;> omega
          · rw [if_neg q2]
            simp [q1, q2])
    rw [e, fb_si_add, fb_si_mul]
    cases s.testBit i
    · simp; rfl
    · simp; rfl
  unfold eE eC ePl
  rw [h1, h2]
  cases s.testBit i <;> simp <;> omega
section CENERGY
variable {σ : XS} {I : Nat → Nat → Int32} {g : GD} {a : Nat} {F : Nat → Int32}
theorem bitOf_ok {s i : Nat} (hs : s < 2147483648) (hi : i < 32) : f_X11_bitOf (nI s) (nI i) = some (nI (if s.testBit i then 1 else 0)) := by
  unfold f_X11_bitOf
  rw [nn_bit hs hi]
theorem startOf_ok {t : Nat} (ht : t < 32) : f_X3_startOf (nI t) = some (nI (gFr t)) := by
  unfold f_X3_startOf gFr
  have e : ((16 : Int32) ≤ nI t) = (16 ≤ t) := nn_le (a := 16) (by decide) (by omega)
  simp only [e]
  by_cases h : 16 ≤ t
  · rw [if_pos h, if_neg (by omega), show (16 : Int32) = nI 16 from rfl, nn_sub h]
  · rw [if_neg h, if_pos (by omega)]
theorem isAlike_ok (hS : Shp σ) (hG : GRD I g) {s t e : Nat} (hs : s < 2147483648) (ht : t < 32) (he : gTo g t = some e) : f_X3_isAlike (xw σ I) 11 (nI s) (nI t) = some (nI (if s.testBit (gFr t) = s.testBit e then 1 else 0)) := by
  have h16 := (gAll_b g hG.1).2.2.1
  have heb := gTo_b g hG.1 t ht e he
  unfold f_X3_isAlike
  rw [startOf_ok ht, Option.bind_some, bitOf_ok hs (by omega), Option.bind_some]
  simp (disch := first | assumption | omega) only [Option.bind_some, Option.map_some, xw_gR, xw_gN, xw_al, xw_ck, xw_uI, xw_ur, xup_at, xur_at, if_true, if_false, reduceIte, and_true, true_and, and_false, false_and, not_true_eq_false, not_false_eq_true, Nat.reduceEqDiff, eq_self, Nat.reduceAdd, Nat.reduceMul, kC1, kG1, kP1, kR1_0, kR1_1, kR1_2, kR1_3, kR1_4, kR1_5, kR1_6, kR1_7, kR1_8, kR1_9, kR1_10, kR1_11, kR1_12, kR1_13, kC2, kG2, kP2, kR2_0, kR2_1, kC3, kG3, kP3, kR3_0, kR3_1, kR3_2, kR3_3, kL4, kA4, kS4, kL5, kA5, kS5, kL6, kA6, kS6, kL7, kA7, kS7, kC8, kG8, kP8, kR8_0, kR8_1, kL9, kA9, kS9, kL10, kA10, kS10, kC11, kG11, kP11, kR11_0, kR11_1, kR11_2, kR11_3, kL12, kA12, kS12, kL13, kA13, kS13, kL14, kA14, kS14, kL15, kA15, kS15, kC16, kG16, kP16, kR16_0, kR16_1, kL17, kA17, kS17, kL18, kA18, kS18, kC19, kG19, kP19, kR19_0, kL20, kL141, kL146, kA146, kS146, kL151, kA151, kS151, kL156, kA156, kS156, kC157, kG157, kP157, kR157_0, kR157_1, kL158, kA158, kS158, kL159, kA159, kS159, kC161, kG161, kP161, kR161_0, kR161_1, kL162, kA162, kS162, kL163, kA163, kS163, kC165, kG165, kP165, kR165_0, kR165_1, kR165_2, kR165_3, kL166, kA166, kS166, kL167, kA167, kS167, kL168, kA168, kS168, kL169, kA169, kS169, kC170, kG170, kP170, kR170_0, kR170_1, kR170_2, kL171, kA171, kS171, kL172, kA172, kS172, kL173, kA173, kS173, kC174, kG174, kP174, kR174_0, kR174_1, kR174_2, kR174_3, kR174_4, kL175, kA175, kS175, kL176, kA176, kS176, kL177, kA177, kS177, kL178, kA178, kS178, kL179, kC180, kG180, kP180, kL181, kL182, kA182, kS182, kC183, kG183, kP183, kR183_1, kR183_3, kR183_5, kR183_6, kR183_7, kR183_8, kR183_9, kR183_21, kR183_26, kR183_27, kR183_30, kR183_31, kR183_33, kR183_34, kR183_36, kR183_37, kR183_38, kR183_39, kR183_40, kR183_41, kR183_42, kR183_43, kR183_44, kL184, kA184, kS184, kL185, kA185, kS185, kL186, kA186, kS186, kL187, kA187, kS187, kL188, kA188, kS188, kL189, kL190, kL191, kA191, kS191, kL192, kA192, kS192, kL193, kA193, kS193, kL194, kA194, kS194, kL195, kA195, kS195, kL196, kA196, kS196, kL197, kA197, kS197, kL198, kA198, kS198, kL199, kA199, kS199, kL200, kA200, kS200, kL201, kL202, kA202, kS202, kL203, kA203, kS203, kL204, kA204, kS204, kL205, kL206, kA206, kS206, endAt_ok hS hG ht, he]
  show (f_X11_bitOf (nI s) (nI e)).bind _ = _
  rw [bitOf_ok hs (by omega), Option.bind_some]
  simp only [bI_eq]
  split <;> rfl
theorem bond_SR (hS : Shp σ) (ha : a ∈ suA) (h : SR g I a F) {t : Nat} (ht : t < 32) (he : (gTo g t).isSome = true) : f_X6_bondAt (xw σ I) a (nI t) = some (F t) := by
  rw [bondAt_ok hS ha ht, h.1 t ht, if_pos he]
theorem field_SR (hS : Shp σ) (ha : a ∈ suA) (h : SR g I a F) {t : Nat} (ht : t < 16) (he : t < gSz g) : f_X6_fieldAt (xw σ I) a (nI t) = some (F (32 + t)) := by
  rw [fieldAt_ok hS ha ht, h.2.1 t ht, if_pos he]
theorem cost_j (σ : XS) {s i : Nat} (hs : s < 2147483648) (hi : i < 32) (z : Int) : f_X3_costOfTurn_j99 σ (nI s) (nI i) (iI z) = some (iI (if s.testBit i then 2 * z else -2 * z)) := by
  unfold f_X3_costOfTurn_j99
  rw [bitOf_ok hs hi, Option.bind_some, show (-2 : Int32) = iI (-2) from rfl, show (2 : Int32) = iI 2 from rfl, iI_mul, iI_mul]
  simp only [bI_1]
  split <;> rfl
theorem cost_ok (hS : Shp σ) (hG : GRD I g) (ha : a ∈ suA) (h : SR g I a F) {s i : Nat} (hs : s < 2147483648) (hi : i < gSz g) : f_X3_costOfTurn (xw σ I) 11 a (nI s) (nI i) = some (iI (eC g (zR F) s i)) := by
  have h16 := (gAll_b g hG.1).2.2.1
  have hm := gMt_b g hG.1 i (by omega)
  unfold f_X3_costOfTurn
  simp (disch := first | assumption | omega) only [Option.bind_some, Option.map_some, xw_gR, xw_gN, xw_al, xw_ck, xw_uI, xw_ur, xup_at, xur_at, if_true, if_false, reduceIte, and_true, true_and, and_false, false_and, not_true_eq_false, not_false_eq_true, Nat.reduceEqDiff, eq_self, Nat.reduceAdd, Nat.reduceMul, kC1, kG1, kP1, kR1_0, kR1_1, kR1_2, kR1_3, kR1_4, kR1_5, kR1_6, kR1_7, kR1_8, kR1_9, kR1_10, kR1_11, kR1_12, kR1_13, kC2, kG2, kP2, kR2_0, kR2_1, kC3, kG3, kP3, kR3_0, kR3_1, kR3_2, kR3_3, kL4, kA4, kS4, kL5, kA5, kS5, kL6, kA6, kS6, kL7, kA7, kS7, kC8, kG8, kP8, kR8_0, kR8_1, kL9, kA9, kS9, kL10, kA10, kS10, kC11, kG11, kP11, kR11_0, kR11_1, kR11_2, kR11_3, kL12, kA12, kS12, kL13, kA13, kS13, kL14, kA14, kS14, kL15, kA15, kS15, kC16, kG16, kP16, kR16_0, kR16_1, kL17, kA17, kS17, kL18, kA18, kS18, kC19, kG19, kP19, kR19_0, kL20, kL141, kL146, kA146, kS146, kL151, kA151, kS151, kL156, kA156, kS156, kC157, kG157, kP157, kR157_0, kR157_1, kL158, kA158, kS158, kL159, kA159, kS159, kC161, kG161, kP161, kR161_0, kR161_1, kL162, kA162, kS162, kL163, kA163, kS163, kC165, kG165, kP165, kR165_0, kR165_1, kR165_2, kR165_3, kL166, kA166, kS166, kL167, kA167, kS167, kL168, kA168, kS168, kL169, kA169, kS169, kC170, kG170, kP170, kR170_0, kR170_1, kR170_2, kL171, kA171, kS171, kL172, kA172, kS172, kL173, kA173, kS173, kC174, kG174, kP174, kR174_0, kR174_1, kR174_2, kR174_3, kR174_4, kL175, kA175, kS175, kL176, kA176, kS176, kL177, kA177, kS177, kL178, kA178, kS178, kL179, kC180, kG180, kP180, kL181, kL182, kA182, kS182, kC183, kG183, kP183, kR183_1, kR183_3, kR183_5, kR183_6, kR183_7, kR183_8, kR183_9, kR183_21, kR183_26, kR183_27, kR183_30, kR183_31, kR183_33, kR183_34, kR183_36, kR183_37, kR183_38, kR183_39, kR183_40, kR183_41, kR183_42, kR183_43, kR183_44, kL184, kA184, kS184, kL185, kA185, kS185, kL186, kA186, kS186, kL187, kA187, kS187, kL188, kA188, kS188, kL189, kL190, kL191, kA191, kS191, kL192, kA192, kS192, kL193, kA193, kS193, kL194, kA194, kS194, kL195, kA195, kS195, kL196, kA196, kS196, kL197, kA197, kS197, kL198, kA198, kS198, kL199, kA199, kS199, kL200, kA200, kS200, kL201, kL202, kA202, kS202, kL203, kA203, kS203, kL204, kA204, kS204, kL205, kL206, kA206, kS206, nn_nneg, show (16 : Int32) = nI 16 from rfl, nn_lt, show i < 16 by omega, suC hS ha, field_SR hS ha h (show i < 16 by omega) hi, show (4 : Int32) = nI 4 from rfl, nn_mul]
  unfold eC ePl
  rw [← lsum_get _ (0, 0)]
  refine xforE (fun j : Nat => (iI (zR F (32 + i) + fb_si (fun j => (fun q : Nat × Nat => if s.testBit q.1 then zR F q.2 else -zR F q.2) ((gMt g i).getD j (0, 0))) j), nI (4 * i + j))) (gMt g i).length ?_ (fun j hj => ?_) ?_
  · show (F (32 + i), nI (4 * i)) = _
    rw [show F (32 + i) = iI (zR F (32 + i)) from iI_of _]
    simp [fb_si]
  · simp only [f_X3_costOfTurn_b28]
    have hq := hm.2 ((gMt g i).getD j (0, 0)) (by rw [List.getD_eq_getElem?_getD, List.getElem?_eq_getElem hj]; exact List.getElem_mem hj)
    have hc := hG.2.2.2.2.2.2.1 i (by omega)
    have hm2 := hG.2.2.2.2.2.2.2.1 i j (by omega) hj
    have hl := hm.1
    simp (disch := first | assumption | omega) only [Option.bind_some, Option.map_some, xw_gR, xw_gN, xw_al, xw_ck, xw_uI, xw_ur, xup_at, xur_at, if_true, if_false, reduceIte, and_true, true_and, and_false, false_and, not_true_eq_false, not_false_eq_true, Nat.reduceEqDiff, eq_self, Nat.reduceAdd, Nat.reduceMul, kC1, kG1, kP1, kR1_0, kR1_1, kR1_2, kR1_3, kR1_4, kR1_5, kR1_6, kR1_7, kR1_8, kR1_9, kR1_10, kR1_11, kR1_12, kR1_13, kC2, kG2, kP2, kR2_0, kR2_1, kC3, kG3, kP3, kR3_0, kR3_1, kR3_2, kR3_3, kL4, kA4, kS4, kL5, kA5, kS5, kL6, kA6, kS6, kL7, kA7, kS7, kC8, kG8, kP8, kR8_0, kR8_1, kL9, kA9, kS9, kL10, kA10, kS10, kC11, kG11, kP11, kR11_0, kR11_1, kR11_2, kR11_3, kL12, kA12, kS12, kL13, kA13, kS13, kL14, kA14, kS14, kL15, kA15, kS15, kC16, kG16, kP16, kR16_0, kR16_1, kL17, kA17, kS17, kL18, kA18, kS18, kC19, kG19, kP19, kR19_0, kL20, kL141, kL146, kA146, kS146, kL151, kA151, kS151, kL156, kA156, kS156, kC157, kG157, kP157, kR157_0, kR157_1, kL158, kA158, kS158, kL159, kA159, kS159, kC161, kG161, kP161, kR161_0, kR161_1, kL162, kA162, kS162, kL163, kA163, kS163, kC165, kG165, kP165, kR165_0, kR165_1, kR165_2, kR165_3, kL166, kA166, kS166, kL167, kA167, kS167, kL168, kA168, kS168, kL169, kA169, kS169, kC170, kG170, kP170, kR170_0, kR170_1, kR170_2, kL171, kA171, kS171, kL172, kA172, kS172, kL173, kA173, kS173, kC174, kG174, kP174, kR174_0, kR174_1, kR174_2, kR174_3, kR174_4, kL175, kA175, kS175, kL176, kA176, kS176, kL177, kA177, kS177, kL178, kA178, kS178, kL179, kC180, kG180, kP180, kL181, kL182, kA182, kS182, kC183, kG183, kP183, kR183_1, kR183_3, kR183_5, kR183_6, kR183_7, kR183_8, kR183_9, kR183_21, kR183_26, kR183_27, kR183_30, kR183_31, kR183_33, kR183_34, kR183_36, kR183_37, kR183_38, kR183_39, kR183_40, kR183_41, kR183_42, kR183_43, kR183_44, kL184, kA184, kS184, kL185, kA185, kS185, kL186, kA186, kS186, kL187, kA187, kS187, kL188, kA188, kS188, kL189, kL190, kL191, kA191, kS191, kL192, kA192, kS192, kL193, kA193, kS193, kL194, kA194, kS194, kL195, kA195, kS195, kL196, kA196, kS196, kL197, kA197, kS197, kL198, kA198, kS198, kL199, kA199, kS199, kL200, kA200, kS200, kL201, kL202, kA202, kS202, kL203, kA203, kS203, kL204, kA204, kS204, kL205, kL206, kA206, kS206, hc, nn_add, nn_le, show ¬ (4 * i + (gMt g i).length ≤ 4 * i + j) by omega, show ¬ (64 ≤ 4 * i + j) by omega, hm2.1, hm2.2, suC hS ha, bond_SR hS ha h hq.2.1 hq.2.2.2]
    rw [bitOf_ok hs (by omega), Option.bind_some, show F ((gMt g i).getD j (0, 0)).2 = iI (zR F ((gMt g i).getD j (0, 0)).2) from iI_of _, iI_neg, iI_add, iI_add, show (1 : Int32) = nI 1 from rfl, nn_add, fb_si_succ]
    by_cases hb : s.testBit ((gMt g i).getD j (0, 0)).1 = true
    · rw [if_pos (by rw [if_pos hb]), if_pos hb, ← Int.add_assoc, Nat.add_assoc]
    · rw [if_neg (by rw [if_neg hb]; decide), if_neg hb, ← Int.add_assoc, Nat.add_assoc]
  · simp only [f_X3_costOfTurn_b28]
    have hc := hG.2.2.2.2.2.2.1 i (by omega)
    have hl := hm.1
    simp (disch := first | assumption | omega) only [Option.bind_some, Option.map_some, xw_gR, xw_gN, xw_al, xw_ck, xw_uI, xw_ur, xup_at, xur_at, if_true, if_false, reduceIte, and_true, true_and, and_false, false_and, not_true_eq_false, not_false_eq_true, Nat.reduceEqDiff, eq_self, Nat.reduceAdd, Nat.reduceMul, kC1, kG1, kP1, kR1_0, kR1_1, kR1_2, kR1_3, kR1_4, kR1_5, kR1_6, kR1_7, kR1_8, kR1_9, kR1_10, kR1_11, kR1_12, kR1_13, kC2, kG2, kP2, kR2_0, kR2_1, kC3, kG3, kP3, kR3_0, kR3_1, kR3_2, kR3_3, kL4, kA4, kS4, kL5, kA5, kS5, kL6, kA6, kS6, kL7, kA7, kS7, kC8, kG8, kP8, kR8_0, kR8_1, kL9, kA9, kS9, kL10, kA10, kS10, kC11, kG11, kP11, kR11_0, kR11_1, kR11_2, kR11_3, kL12, kA12, kS12, kL13, kA13, kS13, kL14, kA14, kS14, kL15, kA15, kS15, kC16, kG16, kP16, kR16_0, kR16_1, kL17, kA17, kS17, kL18, kA18, kS18, kC19, kG19, kP19, kR19_0, kL20, kL141, kL146, kA146, kS146, kL151, kA151, kS151, kL156, kA156, kS156, kC157, kG157, kP157, kR157_0, kR157_1, kL158, kA158, kS158, kL159, kA159, kS159, kC161, kG161, kP161, kR161_0, kR161_1, kL162, kA162, kS162, kL163, kA163, kS163, kC165, kG165, kP165, kR165_0, kR165_1, kR165_2, kR165_3, kL166, kA166, kS166, kL167, kA167, kS167, kL168, kA168, kS168, kL169, kA169, kS169, kC170, kG170, kP170, kR170_0, kR170_1, kR170_2, kL171, kA171, kS171, kL172, kA172, kS172, kL173, kA173, kS173, kC174, kG174, kP174, kR174_0, kR174_1, kR174_2, kR174_3, kR174_4, kL175, kA175, kS175, kL176, kA176, kS176, kL177, kA177, kS177, kL178, kA178, kS178, kL179, kC180, kG180, kP180, kL181, kL182, kA182, kS182, kC183, kG183, kP183, kR183_1, kR183_3, kR183_5, kR183_6, kR183_7, kR183_8, kR183_9, kR183_21, kR183_26, kR183_27, kR183_30, kR183_31, kR183_33, kR183_34, kR183_36, kR183_37, kR183_38, kR183_39, kR183_40, kR183_41, kR183_42, kR183_43, kR183_44, kL184, kA184, kS184, kL185, kA185, kS185, kL186, kA186, kS186, kL187, kA187, kS187, kL188, kA188, kS188, kL189, kL190, kL191, kA191, kS191, kL192, kA192, kS192, kL193, kA193, kS193, kL194, kA194, kS194, kL195, kA195, kS195, kL196, kA196, kS196, kL197, kA197, kS197, kL198, kA198, kS198, kL199, kA199, kS199, kL200, kA200, kS200, kL201, kL202, kA202, kS202, kL203, kA203, kS203, kL204, kA204, kS204, kL205, kL206, kA206, kS206, hc, nn_add, nn_le, Nat.le_refl, cost_j _ hs (show i < 32 by omega)]
/-- the energy of a state by the ties and the fields -/
theorem energy11_f (hS : Shp σ) (hG : GRD I g) (ha : a ∈ suA) (h : SR g I a F) {s : Nat} (hs : s < 2147483648) (z : Int) : xloop (f_X3_energyOf_b60 (xw σ I) 11 a (nI s)) (iI z, (0 : Int32)) = some (iI (z + fb_si (eH (zR F) s) (gSz g))) := by
  have h16 := (gAll_b g hG.1).2.2.1
  refine xforE (fun i : Nat => (iI (z + fb_si (eH (zR F) s) i), nI i)) (gSz g) (by simp [fb_si]; rfl) (fun i hi => ?_) ?_
  · simp only [f_X3_energyOf_b60]
    simp (disch := first | assumption | omega) only [Option.bind_some, Option.map_some, xw_gR, xw_gN, xw_al, xw_ck, xw_uI, xw_ur, xup_at, xur_at, if_true, if_false, reduceIte, and_true, true_and, and_false, false_and, not_true_eq_false, not_false_eq_true, Nat.reduceEqDiff, eq_self, Nat.reduceAdd, Nat.reduceMul, kC1, kG1, kP1, kR1_0, kR1_1, kR1_2, kR1_3, kR1_4, kR1_5, kR1_6, kR1_7, kR1_8, kR1_9, kR1_10, kR1_11, kR1_12, kR1_13, kC2, kG2, kP2, kR2_0, kR2_1, kC3, kG3, kP3, kR3_0, kR3_1, kR3_2, kR3_3, kL4, kA4, kS4, kL5, kA5, kS5, kL6, kA6, kS6, kL7, kA7, kS7, kC8, kG8, kP8, kR8_0, kR8_1, kL9, kA9, kS9, kL10, kA10, kS10, kC11, kG11, kP11, kR11_0, kR11_1, kR11_2, kR11_3, kL12, kA12, kS12, kL13, kA13, kS13, kL14, kA14, kS14, kL15, kA15, kS15, kC16, kG16, kP16, kR16_0, kR16_1, kL17, kA17, kS17, kL18, kA18, kS18, kC19, kG19, kP19, kR19_0, kL20, kL141, kL146, kA146, kS146, kL151, kA151, kS151, kL156, kA156, kS156, kC157, kG157, kP157, kR157_0, kR157_1, kL158, kA158, kS158, kL159, kA159, kS159, kC161, kG161, kP161, kR161_0, kR161_1, kL162, kA162, kS162, kL163, kA163, kS163, kC165, kG165, kP165, kR165_0, kR165_1, kR165_2, kR165_3, kL166, kA166, kS166, kL167, kA167, kS167, kL168, kA168, kS168, kL169, kA169, kS169, kC170, kG170, kP170, kR170_0, kR170_1, kR170_2, kL171, kA171, kS171, kL172, kA172, kS172, kL173, kA173, kS173, kC174, kG174, kP174, kR174_0, kR174_1, kR174_2, kR174_3, kR174_4, kL175, kA175, kS175, kL176, kA176, kS176, kL177, kA177, kS177, kL178, kA178, kS178, kL179, kC180, kG180, kP180, kL181, kL182, kA182, kS182, kC183, kG183, kP183, kR183_1, kR183_3, kR183_5, kR183_6, kR183_7, kR183_8, kR183_9, kR183_21, kR183_26, kR183_27, kR183_30, kR183_31, kR183_33, kR183_34, kR183_36, kR183_37, kR183_38, kR183_39, kR183_40, kR183_41, kR183_42, kR183_43, kR183_44, kL184, kA184, kS184, kL185, kA185, kS185, kL186, kA186, kS186, kL187, kA187, kS187, kL188, kA188, kS188, kL189, kL190, kL191, kA191, kS191, kL192, kA192, kS192, kL193, kA193, kS193, kL194, kA194, kS194, kL195, kA195, kS195, kL196, kA196, kS196, kL197, kA197, kS197, kL198, kA198, kS198, kL199, kA199, kS199, kL200, kA200, kS200, kL201, kL202, kA202, kS202, kL203, kA203, kS203, kL204, kA204, kS204, kL205, kL206, kA206, kS206, hG.2.2.2.2.1, nn_le, show ¬ (gSz g ≤ i) by omega, suC hS ha, field_SR hS ha h (show i < 16 by omega) hi]
    rw [bitOf_ok hs (by omega), Option.bind_some, show F (32 + i) = iI (zR F (32 + i)) from iI_of _, iI_neg, iI_add, iI_add, fb_si_succ, ← Int.add_assoc, nI_succ]
    simp only [bI_1]
    unfold eH
    by_cases hb : s.testBit i = true
    · rw [if_pos hb, if_pos hb]
    · rw [if_neg hb, if_neg hb]
  · simp only [f_X3_energyOf_b60]
    simp (disch := first | assumption | omega) only [Option.bind_some, Option.map_some, xw_gR, xw_gN, xw_al, xw_ck, xw_uI, xw_ur, xup_at, xur_at, if_true, if_false, reduceIte, and_true, true_and, and_false, false_and, not_true_eq_false, not_false_eq_true, Nat.reduceEqDiff, eq_self, Nat.reduceAdd, Nat.reduceMul, kC1, kG1, kP1, kR1_0, kR1_1, kR1_2, kR1_3, kR1_4, kR1_5, kR1_6, kR1_7, kR1_8, kR1_9, kR1_10, kR1_11, kR1_12, kR1_13, kC2, kG2, kP2, kR2_0, kR2_1, kC3, kG3, kP3, kR3_0, kR3_1, kR3_2, kR3_3, kL4, kA4, kS4, kL5, kA5, kS5, kL6, kA6, kS6, kL7, kA7, kS7, kC8, kG8, kP8, kR8_0, kR8_1, kL9, kA9, kS9, kL10, kA10, kS10, kC11, kG11, kP11, kR11_0, kR11_1, kR11_2, kR11_3, kL12, kA12, kS12, kL13, kA13, kS13, kL14, kA14, kS14, kL15, kA15, kS15, kC16, kG16, kP16, kR16_0, kR16_1, kL17, kA17, kS17, kL18, kA18, kS18, kC19, kG19, kP19, kR19_0, kL20, kL141, kL146, kA146, kS146, kL151, kA151, kS151, kL156, kA156, kS156, kC157, kG157, kP157, kR157_0, kR157_1, kL158, kA158, kS158, kL159, kA159, kS159, kC161, kG161, kP161, kR161_0, kR161_1, kL162, kA162, kS162, kL163, kA163, kS163, kC165, kG165, kP165, kR165_0, kR165_1, kR165_2, kR165_3, kL166, kA166, kS166, kL167, kA167, kS167, kL168, kA168, kS168, kL169, kA169, kS169, kC170, kG170, kP170, kR170_0, kR170_1, kR170_2, kL171, kA171, kS171, kL172, kA172, kS172, kL173, kA173, kS173, kC174, kG174, kP174, kR174_0, kR174_1, kR174_2, kR174_3, kR174_4, kL175, kA175, kS175, kL176, kA176, kS176, kL177, kA177, kS177, kL178, kA178, kS178, kL179, kC180, kG180, kP180, kL181, kL182, kA182, kS182, kC183, kG183, kP183, kR183_1, kR183_3, kR183_5, kR183_6, kR183_7, kR183_8, kR183_9, kR183_21, kR183_26, kR183_27, kR183_30, kR183_31, kR183_33, kR183_34, kR183_36, kR183_37, kR183_38, kR183_39, kR183_40, kR183_41, kR183_42, kR183_43, kR183_44, kL184, kA184, kS184, kL185, kA185, kS185, kL186, kA186, kS186, kL187, kA187, kS187, kL188, kA188, kS188, kL189, kL190, kL191, kA191, kS191, kL192, kA192, kS192, kL193, kA193, kS193, kL194, kA194, kS194, kL195, kA195, kS195, kL196, kA196, kS196, kL197, kA197, kS197, kL198, kA198, kS198, kL199, kA199, kS199, kL200, kA200, kS200, kL201, kL202, kA202, kS202, kL203, kA203, kS203, kL204, kA204, kS204, kL205, kL206, kA206, kS206, hG.2.2.2.2.1, nn_le, Nat.le_refl]
theorem energy11_ok (hS : Shp σ) (hG : GRD I g) (ha : a ∈ suA) (h : SR g I a F) {s : Nat} (hs : s < 2147483648) : f_X3_energyOf (xw σ I) 11 a (nI s) = some (iI (eE g (zR F) s)) := by
  unfold f_X3_energyOf eE
  refine xforE (fun t : Nat => (iI (fb_si (eT g (zR F) s) t), nI t)) 32 rfl (fun t ht => ?_) ?_
  · simp only [f_X3_energyOf_b5]
    rw [if_neg (by rw [show (32 : Int32) = nI 32 from rfl, nn_le (by omega) (by omega)]; omega), fb_si_succ]
    simp (disch := first | assumption | omega) only [Option.bind_some, Option.map_some, xw_gR, xw_gN, xw_al, xw_ck, xw_uI, xw_ur, xup_at, xur_at, if_true, if_false, reduceIte, and_true, true_and, and_false, false_and, not_true_eq_false, not_false_eq_true, Nat.reduceEqDiff, eq_self, Nat.reduceAdd, Nat.reduceMul, kC1, kG1, kP1, kR1_0, kR1_1, kR1_2, kR1_3, kR1_4, kR1_5, kR1_6, kR1_7, kR1_8, kR1_9, kR1_10, kR1_11, kR1_12, kR1_13, kC2, kG2, kP2, kR2_0, kR2_1, kC3, kG3, kP3, kR3_0, kR3_1, kR3_2, kR3_3, kL4, kA4, kS4, kL5, kA5, kS5, kL6, kA6, kS6, kL7, kA7, kS7, kC8, kG8, kP8, kR8_0, kR8_1, kL9, kA9, kS9, kL10, kA10, kS10, kC11, kG11, kP11, kR11_0, kR11_1, kR11_2, kR11_3, kL12, kA12, kS12, kL13, kA13, kS13, kL14, kA14, kS14, kL15, kA15, kS15, kC16, kG16, kP16, kR16_0, kR16_1, kL17, kA17, kS17, kL18, kA18, kS18, kC19, kG19, kP19, kR19_0, kL20, kL141, kL146, kA146, kS146, kL151, kA151, kS151, kL156, kA156, kS156, kC157, kG157, kP157, kR157_0, kR157_1, kL158, kA158, kS158, kL159, kA159, kS159, kC161, kG161, kP161, kR161_0, kR161_1, kL162, kA162, kS162, kL163, kA163, kS163, kC165, kG165, kP165, kR165_0, kR165_1, kR165_2, kR165_3, kL166, kA166, kS166, kL167, kA167, kS167, kL168, kA168, kS168, kL169, kA169, kS169, kC170, kG170, kP170, kR170_0, kR170_1, kR170_2, kL171, kA171, kS171, kL172, kA172, kS172, kL173, kA173, kS173, kC174, kG174, kP174, kR174_0, kR174_1, kR174_2, kR174_3, kR174_4, kL175, kA175, kS175, kL176, kA176, kS176, kL177, kA177, kS177, kL178, kA178, kS178, kL179, kC180, kG180, kP180, kL181, kL182, kA182, kS182, kC183, kG183, kP183, kR183_1, kR183_3, kR183_5, kR183_6, kR183_7, kR183_8, kR183_9, kR183_21, kR183_26, kR183_27, kR183_30, kR183_31, kR183_33, kR183_34, kR183_36, kR183_37, kR183_38, kR183_39, kR183_40, kR183_41, kR183_42, kR183_43, kR183_44, kL184, kA184, kS184, kL185, kA185, kS185, kL186, kA186, kS186, kL187, kA187, kS187, kL188, kA188, kS188, kL189, kL190, kL191, kA191, kS191, kL192, kA192, kS192, kL193, kA193, kS193, kL194, kA194, kS194, kL195, kA195, kS195, kL196, kA196, kS196, kL197, kA197, kS197, kL198, kA198, kS198, kL199, kA199, kS199, kL200, kA200, kS200, kL201, kL202, kA202, kS202, kL203, kA203, kS203, kL204, kA204, kS204, kL205, kL206, kA206, kS206, endAt_ok hS hG ht, oI_none (gTo_s hG.1 ht)]
    cases he : gTo g t with
    | none =>
      have e : eT g (zR F) s t = 0 := by unfold eT; rw [he]
      rw [if_pos rfl, e, Int.add_zero, nI_succ]
    | some e =>
      have e2 : eT g (zR F) s t = if s.testBit (gFr t) = s.testBit e then -zR F t else zR F t := by unfold eT; rw [he]
      rw [if_neg (by simp), isAlike_ok hS hG hs ht he]
      simp (disch := first | assumption | omega) only [Option.bind_some, Option.map_some, xw_gR, xw_gN, xw_al, xw_ck, xw_uI, xw_ur, xup_at, xur_at, if_true, if_false, reduceIte, and_true, true_and, and_false, false_and, not_true_eq_false, not_false_eq_true, Nat.reduceEqDiff, eq_self, Nat.reduceAdd, Nat.reduceMul, kC1, kG1, kP1, kR1_0, kR1_1, kR1_2, kR1_3, kR1_4, kR1_5, kR1_6, kR1_7, kR1_8, kR1_9, kR1_10, kR1_11, kR1_12, kR1_13, kC2, kG2, kP2, kR2_0, kR2_1, kC3, kG3, kP3, kR3_0, kR3_1, kR3_2, kR3_3, kL4, kA4, kS4, kL5, kA5, kS5, kL6, kA6, kS6, kL7, kA7, kS7, kC8, kG8, kP8, kR8_0, kR8_1, kL9, kA9, kS9, kL10, kA10, kS10, kC11, kG11, kP11, kR11_0, kR11_1, kR11_2, kR11_3, kL12, kA12, kS12, kL13, kA13, kS13, kL14, kA14, kS14, kL15, kA15, kS15, kC16, kG16, kP16, kR16_0, kR16_1, kL17, kA17, kS17, kL18, kA18, kS18, kC19, kG19, kP19, kR19_0, kL20, kL141, kL146, kA146, kS146, kL151, kA151, kS151, kL156, kA156, kS156, kC157, kG157, kP157, kR157_0, kR157_1, kL158, kA158, kS158, kL159, kA159, kS159, kC161, kG161, kP161, kR161_0, kR161_1, kL162, kA162, kS162, kL163, kA163, kS163, kC165, kG165, kP165, kR165_0, kR165_1, kR165_2, kR165_3, kL166, kA166, kS166, kL167, kA167, kS167, kL168, kA168, kS168, kL169, kA169, kS169, kC170, kG170, kP170, kR170_0, kR170_1, kR170_2, kL171, kA171, kS171, kL172, kA172, kS172, kL173, kA173, kS173, kC174, kG174, kP174, kR174_0, kR174_1, kR174_2, kR174_3, kR174_4, kL175, kA175, kS175, kL176, kA176, kS176, kL177, kA177, kS177, kL178, kA178, kS178, kL179, kC180, kG180, kP180, kL181, kL182, kA182, kS182, kC183, kG183, kP183, kR183_1, kR183_3, kR183_5, kR183_6, kR183_7, kR183_8, kR183_9, kR183_21, kR183_26, kR183_27, kR183_30, kR183_31, kR183_33, kR183_34, kR183_36, kR183_37, kR183_38, kR183_39, kR183_40, kR183_41, kR183_42, kR183_43, kR183_44, kL184, kA184, kS184, kL185, kA185, kS185, kL186, kA186, kS186, kL187, kA187, kS187, kL188, kA188, kS188, kL189, kL190, kL191, kA191, kS191, kL192, kA192, kS192, kL193, kA193, kS193, kL194, kA194, kS194, kL195, kA195, kS195, kL196, kA196, kS196, kL197, kA197, kS197, kL198, kA198, kS198, kL199, kA199, kS199, kL200, kA200, kS200, kL201, kL202, kA202, kS202, kL203, kA203, kS203, kL204, kA204, kS204, kL205, kL206, kA206, kS206, suC hS ha, bond_SR hS ha h ht (show (gTo g t).isSome = true by rw [he]; rfl)]
      rw [show F t = iI (zR F t) from iI_of _, iI_neg, iI_add, iI_add, e2, nI_succ]
      by_cases hb : s.testBit (gFr t) = s.testBit e
      · rw [if_pos hb, if_pos hb, if_neg (by decide)]
      · rw [if_neg hb, if_neg hb, if_pos (show nI 0 = 0 from rfl)]
  · simp only [f_X3_energyOf_b5]
    rw [if_pos (by decide), energy11_f hS hG ha h hs]
    rfl
end CENERGY
