/-! the model cuts the text -/
theorem b255 : ∀ k : Nat, k < 256 → (isLt (iI ((k : Int) - 128) &&& 255) = isLt (iI ((k : Int) - 128)) ∧ isDg (iI ((k : Int) - 128) &&& 255) = isDg (iI ((k : Int) - 128)) ∧ isBl (iI ((k : Int) - 128) &&& 255) = isBl (iI ((k : Int) - 128)) ∧ decide (iI ((k : Int) - 128) &&& 255 = 45) = decide (iI ((k : Int) - 128) = 45) ∧ decide (iI ((k : Int) - 128) &&& 255 = 59) = decide (iI ((k : Int) - 128) = 59) ∧ (128 ≤ k → iI ((k : Int) - 128) &&& 255 = iI ((k : Int) - 128))) := by decide +kernel
def byB (x : Int32) : Prop := -128 ≤ x.toInt ∧ x.toInt < 128
theorem b255_x {x : Int32} (h : byB x) : isLt (x &&& 255) = isLt x ∧ isDg (x &&& 255) = isDg x ∧ isBl (x &&& 255) = isBl x ∧ ((x &&& 255) = 45 ↔ x = 45) ∧ ((x &&& 255) = 59 ↔ x = 59) ∧ (0 ≤ x.toInt → x &&& 255 = x) := by
  have h1 := h.1
  have h2 := h.2
  have e : iI (((x.toInt + 128).toNat : Int) - 128) = x := by
    rw [show (((x.toInt + 128).toNat : Int) - 128) = x.toInt by omega]
    exact (iI_of x).symm
  have := b255 (x.toInt + 128).toNat (by omega)
  rw [e] at this
  obtain ⟨a1, a2, a3, a4, a5, a6⟩ := this
  refine ⟨a1, a2, a3, ?_, ?_, fun z => a6 (by omega)⟩
  · exact decide_eq_decide.mp a4
  · exact decide_eq_decide.mp a5
theorem lt12_ok (x : Int32) : f_X12_isLetter x = some (if isLt x then 1 else 0) := lt8_ok x
theorem dg12_ok (x : Int32) : f_X12_isDigit x = some (if isDg x then 1 else 0) := dg8_ok x
/-- a kind in the model's numbers -/
def kmN (k : Nat) : Nat := if k = 3 then 5 else if 5 ≤ k then k + 15 else k
def KMr (k : Nat) (x : Int32) : Prop := (k = 1 ∧ (x = 1 ∨ x = 3)) ∨ (k ≠ 1 ∧ x = nI (kmN k))
/-- the model's tokens as they lie -/
def TKM (J : Nat → Nat → Int32) (b : Nat → Int32) (m n : Nat) : Prop := ∀ i, i < n → KMr (tKd b m i) (J 186 i) ∧ J 187 i = nI (tSt b m i) ∧ (tKd b m i = 2 → J 188 i = nI (tNu b m i))
section CUT12
variable {τ : XS} {J : Nat → Nat → Int32} {m : Nat} {b : Nat → Int32}
/-- the text at hand -/
def TX (J : Nat → Nat → Int32) (b : Nat → Int32) (m : Nat) : Prop := m ≤ 2000 ∧ J 183 4 = nI m ∧ ∀ k, k < m → J 185 k = b k ∧ byB (b k)
theorem byte12_ok (hS : Shp τ) (hX : TX J b m) {k : Nat} (hk : k < m) : f_X12_byteAt (xw τ J) 183 (nI k) = some (b k &&& 255) := by
  obtain ⟨hm, h4, hb⟩ := hX
  unfold f_X12_byteAt
  have q1 : (nI m ≤ nI k) = False := by rw [nn_le (by omega) (by omega)]; exact eq_false (by omega)
  have k20 : k < 2000 := by omega
  simp (disch := first | assumption | omega) only [Option.bind_some, Option.map_some, xw_gR, xw_gN, xw_al, xw_ck, xw_uI, xw_ur, xup_at, xur_at, if_true, if_false, reduceIte, and_true, true_and, and_false, false_and, not_true_eq_false, not_false_eq_true, Nat.reduceEqDiff, eq_self, Nat.reduceAdd, Nat.reduceMul, kC1, kG1, kP1, kR1_0, kR1_1, kR1_2, kR1_3, kR1_4, kR1_5, kR1_6, kR1_7, kR1_8, kR1_9, kR1_10, kR1_11, kR1_12, kR1_13, kC2, kG2, kP2, kR2_0, kR2_1, kC3, kG3, kP3, kR3_0, kR3_1, kR3_2, kR3_3, kL4, kA4, kS4, kL5, kA5, kS5, kL6, kA6, kS6, kL7, kA7, kS7, kC8, kG8, kP8, kR8_0, kR8_1, kL9, kA9, kS9, kL10, kA10, kS10, kC11, kG11, kP11, kR11_0, kR11_1, kR11_2, kR11_3, kL12, kA12, kS12, kL13, kA13, kS13, kL14, kA14, kS14, kL15, kA15, kS15, kC16, kG16, kP16, kR16_0, kR16_1, kL17, kA17, kS17, kL18, kA18, kS18, kC19, kG19, kP19, kR19_0, kL20, kL141, kL146, kA146, kS146, kL151, kA151, kS151, kL156, kA156, kS156, kC157, kG157, kP157, kR157_0, kR157_1, kL158, kA158, kS158, kL159, kA159, kS159, kC161, kG161, kP161, kR161_0, kR161_1, kL162, kA162, kS162, kL163, kA163, kS163, kC165, kG165, kP165, kR165_0, kR165_1, kR165_2, kR165_3, kL166, kA166, kS166, kL167, kA167, kS167, kL168, kA168, kS168, kL169, kA169, kS169, kC170, kG170, kP170, kR170_0, kR170_1, kR170_2, kL171, kA171, kS171, kL172, kA172, kS172, kL173, kA173, kS173, kC174, kG174, kP174, kR174_0, kR174_1, kR174_2, kR174_3, kR174_4, kL175, kA175, kS175, kL176, kA176, kS176, kL177, kA177, kS177, kL178, kA178, kS178, kL179, kC180, kG180, kP180, kL181, kL182, kA182, kS182, kC183, kG183, kP183, kR183_1, kR183_3, kR183_5, kR183_6, kR183_7, kR183_8, kR183_9, kR183_21, kR183_26, kR183_27, kR183_30, kR183_31, kR183_33, kR183_34, kR183_36, kR183_37, kR183_38, kR183_39, kR183_40, kR183_41, kR183_42, kR183_43, kR183_44, kL184, kA184, kS184, kL185, kA185, kS185, kL186, kA186, kS186, kL187, kA187, kS187, kL188, kA188, kS188, kL189, kL190, kL191, kA191, kS191, kL192, kA192, kS192, kL193, kA193, kS193, kL194, kA194, kS194, kL195, kA195, kS195, kL196, kA196, kS196, kL197, kA197, kS197, kL198, kA198, kS198, kL199, kA199, kS199, kL200, kA200, kS200, kL201, kL202, kA202, kS202, kL203, kA203, kS203, kL204, kA204, kS204, kL205, kL206, kA206, kS206, h4, q1, (hb k hk).1]
theorem byte12_end (hS : Shp τ) (hX : TX J b m) {k : Nat} (hk : m ≤ k) (hk2 : k < 2147483648) : f_X12_byteAt (xw τ J) 183 (nI k) = some 0 := by
  obtain ⟨hm, h4, hb⟩ := hX
  unfold f_X12_byteAt
  have q1 : (nI m ≤ nI k) = True := by rw [nn_le (by omega) (by omega)]; exact eq_true (by omega)
  simp (disch := first | assumption | omega) only [Option.bind_some, Option.map_some, xw_gR, xw_gN, xw_al, xw_ck, xw_uI, xw_ur, xup_at, xur_at, if_true, if_false, reduceIte, and_true, true_and, and_false, false_and, not_true_eq_false, not_false_eq_true, Nat.reduceEqDiff, eq_self, Nat.reduceAdd, Nat.reduceMul, kC1, kG1, kP1, kR1_0, kR1_1, kR1_2, kR1_3, kR1_4, kR1_5, kR1_6, kR1_7, kR1_8, kR1_9, kR1_10, kR1_11, kR1_12, kR1_13, kC2, kG2, kP2, kR2_0, kR2_1, kC3, kG3, kP3, kR3_0, kR3_1, kR3_2, kR3_3, kL4, kA4, kS4, kL5, kA5, kS5, kL6, kA6, kS6, kL7, kA7, kS7, kC8, kG8, kP8, kR8_0, kR8_1, kL9, kA9, kS9, kL10, kA10, kS10, kC11, kG11, kP11, kR11_0, kR11_1, kR11_2, kR11_3, kL12, kA12, kS12, kL13, kA13, kS13, kL14, kA14, kS14, kL15, kA15, kS15, kC16, kG16, kP16, kR16_0, kR16_1, kL17, kA17, kS17, kL18, kA18, kS18, kC19, kG19, kP19, kR19_0, kL20, kL141, kL146, kA146, kS146, kL151, kA151, kS151, kL156, kA156, kS156, kC157, kG157, kP157, kR157_0, kR157_1, kL158, kA158, kS158, kL159, kA159, kS159, kC161, kG161, kP161, kR161_0, kR161_1, kL162, kA162, kS162, kL163, kA163, kS163, kC165, kG165, kP165, kR165_0, kR165_1, kR165_2, kR165_3, kL166, kA166, kS166, kL167, kA167, kS167, kL168, kA168, kS168, kL169, kA169, kS169, kC170, kG170, kP170, kR170_0, kR170_1, kR170_2, kL171, kA171, kS171, kL172, kA172, kS172, kL173, kA173, kS173, kC174, kG174, kP174, kR174_0, kR174_1, kR174_2, kR174_3, kR174_4, kL175, kA175, kS175, kL176, kA176, kS176, kL177, kA177, kS177, kL178, kA178, kS178, kL179, kC180, kG180, kP180, kL181, kL182, kA182, kS182, kC183, kG183, kP183, kR183_1, kR183_3, kR183_5, kR183_6, kR183_7, kR183_8, kR183_9, kR183_21, kR183_26, kR183_27, kR183_30, kR183_31, kR183_33, kR183_34, kR183_36, kR183_37, kR183_38, kR183_39, kR183_40, kR183_41, kR183_42, kR183_43, kR183_44, kL184, kA184, kS184, kL185, kA185, kS185, kL186, kA186, kS186, kL187, kA187, kS187, kL188, kA188, kS188, kL189, kL190, kL191, kA191, kS191, kL192, kA192, kS192, kL193, kA193, kS193, kL194, kA194, kS194, kL195, kA195, kS195, kL196, kA196, kS196, kL197, kA197, kS197, kL198, kA198, kS198, kL199, kA199, kS199, kL200, kA200, kS200, kL201, kL202, kA202, kS202, kL203, kA203, kS203, kL204, kA204, kS204, kL205, kL206, kA206, kS206, h4, q1]
/-- the rows behind a new token -/
def tkI (J : Nat → Nat → Int32) (n : Nat) (k p v : Int32) : Nat → Nat → Int32 := xup (xup (xup (xup J 186 n k) 187 n p) 188 n v) 183 10 (nI (n + 1))
theorem token_ok (hS : Shp τ) {n : Nat} {k p v : Int32} {w : Int64} (hn : n < 403) (h : J 183 10 = nI n) : f_X12_token (xw τ J) 183 k p v w = some (xw (xl τ (xup (xL τ) 189 n w)) (tkI J n k p v)) := by
  have K : τ.1 189 = (23, 403) := xw_K hS (by decide) (by decide) (by decide)
  have hS2 : Shp (xl τ (xup (xL τ) 189 n w)) := hS
  have sl : ∀ J', xsL (xw τ J') 189 (nI n) w = some (xw (xl τ (xup (xL τ) 189 n w)) J') := fun J' => xl_sL (σ := τ) (L := xL τ) K hn (by decide)
  unfold f_X12_token
  simp (disch := first | assumption | omega) only [Option.bind_some, Option.map_some, xw_gR, xw_gN, xw_al, xw_ck, xw_uI, xw_ur, xup_at, xur_at, if_true, if_false, reduceIte, and_true, true_and, and_false, false_and, not_true_eq_false, not_false_eq_true, Nat.reduceEqDiff, eq_self, Nat.reduceAdd, Nat.reduceMul, kC1, kG1, kP1, kR1_0, kR1_1, kR1_2, kR1_3, kR1_4, kR1_5, kR1_6, kR1_7, kR1_8, kR1_9, kR1_10, kR1_11, kR1_12, kR1_13, kC2, kG2, kP2, kR2_0, kR2_1, kC3, kG3, kP3, kR3_0, kR3_1, kR3_2, kR3_3, kL4, kA4, kS4, kL5, kA5, kS5, kL6, kA6, kS6, kL7, kA7, kS7, kC8, kG8, kP8, kR8_0, kR8_1, kL9, kA9, kS9, kL10, kA10, kS10, kC11, kG11, kP11, kR11_0, kR11_1, kR11_2, kR11_3, kL12, kA12, kS12, kL13, kA13, kS13, kL14, kA14, kS14, kL15, kA15, kS15, kC16, kG16, kP16, kR16_0, kR16_1, kL17, kA17, kS17, kL18, kA18, kS18, kC19, kG19, kP19, kR19_0, kL20, kL141, kL146, kA146, kS146, kL151, kA151, kS151, kL156, kA156, kS156, kC157, kG157, kP157, kR157_0, kR157_1, kL158, kA158, kS158, kL159, kA159, kS159, kC161, kG161, kP161, kR161_0, kR161_1, kL162, kA162, kS162, kL163, kA163, kS163, kC165, kG165, kP165, kR165_0, kR165_1, kR165_2, kR165_3, kL166, kA166, kS166, kL167, kA167, kS167, kL168, kA168, kS168, kL169, kA169, kS169, kC170, kG170, kP170, kR170_0, kR170_1, kR170_2, kL171, kA171, kS171, kL172, kA172, kS172, kL173, kA173, kS173, kC174, kG174, kP174, kR174_0, kR174_1, kR174_2, kR174_3, kR174_4, kL175, kA175, kS175, kL176, kA176, kS176, kL177, kA177, kS177, kL178, kA178, kS178, kL179, kC180, kG180, kP180, kL181, kL182, kA182, kS182, kC183, kG183, kP183, kR183_1, kR183_3, kR183_5, kR183_6, kR183_7, kR183_8, kR183_9, kR183_21, kR183_26, kR183_27, kR183_30, kR183_31, kR183_33, kR183_34, kR183_36, kR183_37, kR183_38, kR183_39, kR183_40, kR183_41, kR183_42, kR183_43, kR183_44, kL184, kA184, kS184, kL185, kA185, kS185, kL186, kA186, kS186, kL187, kA187, kS187, kL188, kA188, kS188, kL189, kL190, kL191, kA191, kS191, kL192, kA192, kS192, kL193, kA193, kS193, kL194, kA194, kS194, kL195, kA195, kS195, kL196, kA196, kS196, kL197, kA197, kS197, kL198, kA198, kS198, kL199, kA199, kS199, kL200, kA200, kS200, kL201, kL202, kA202, kS202, kL203, kA203, kS203, kL204, kA204, kS204, kL205, kL206, kA206, kS206, h, sl]
  rw [← nI_succ]
  rfl
theorem tkI_out {n : Nat} {k p v : Int32} {a q : Nat} (h : ¬ (186 ≤ a ∧ a ≤ 188)) (h2 : ¬ (a = 183 ∧ q = 10)) : tkI J n k p v a q = J a q := by
  unfold tkI
  rw [xup_at, if_neg h2, xup_at, if_neg (by omega), xup_at, if_neg (by omega), xup_at, if_neg (by omega)]
theorem tkI_10 {n : Nat} {k p v : Int32} : tkI J n k p v 183 10 = nI (n + 1) := by
  unfold tkI
  rw [xup_at, if_pos ⟨rfl, rfl⟩]
theorem TKM_s {n : Nat} {k p v : Int32} (h : TKM J b m n) (h1 : KMr (tKd b m n) k) (h2 : p = nI (tSt b m n)) (h3 : tKd b m n = 2 → v = nI (tNu b m n)) : TKM (tkI J n k p v) b m (n + 1) := by
  intro i hi
  have e6 : tkI J n k p v 186 i = if i = n then k else J 186 i := by
    unfold tkI
    rw [xup_at, if_neg (by omega), xup_at, if_neg (by omega), xup_at, if_neg (by omega), xup_at]
    by_cases z : i = n
    · rw [if_pos ⟨rfl, z⟩, if_pos z]
    · rw [if_neg (by omega), if_neg z]
  have e7 : tkI J n k p v 187 i = if i = n then p else J 187 i := by
    unfold tkI
    rw [xup_at, if_neg (by omega), xup_at, if_neg (by omega), xup_at]
    by_cases z : i = n
    · rw [if_pos ⟨rfl, z⟩, if_pos z]
    · rw [if_neg (by omega), if_neg z, xup_at, if_neg (by omega)]
  have e8 : tkI J n k p v 188 i = if i = n then v else J 188 i := by
    unfold tkI
    rw [xup_at, if_neg (by omega), xup_at]
    by_cases z : i = n
    · rw [if_pos ⟨rfl, z⟩, if_pos z]
    · rw [if_neg (by omega), if_neg z, xup_at, if_neg (by omega), xup_at, if_neg (by omega)]
  rw [e6, e7, e8]
  by_cases z : i = n
  · rw [if_pos z, if_pos z, if_pos z, z]; exact ⟨h1, h2, h3⟩
  · rw [if_neg z, if_neg z, if_neg z]; exact h i (by omega)
/-- the last key that is the word -/
def kfN (c : Nat) : Nat → Nat
  | 0 => 1
  | k + 1 => if kyW.getD k 0 = c then 20 + k else kfN c k
theorem kf_no {c : Nat} : ∀ n, (∀ k, k < n → kyW.getD k 0 ≠ c) → kfN c n = 1
  | 0, _ => rfl
  | n + 1, h => by rw [kfN, if_neg (h n (by omega))]; exact kf_no n (fun k hk => h k (by omega))
theorem kf_yes {c j : Nat} (hj : kyW.getD j 0 = c) (hj2 : j < 11) : ∀ n, n ≤ 11 → j < n → kfN c n = 20 + j
  | 0, _, h => by omega
  | n + 1, hn, h => by
    rw [kfN]
    by_cases z : kyW.getD n 0 = c
    · rw [if_pos z, ky_one n (by omega) j hj2 (z.trans hj.symm)]
    · rw [if_neg z]
      exact kf_yes hj hj2 n (by omega) (by
        by_cases y : j = n
        · rw [y] at hj; exact absurd hj z
        · omega)
theorem wk_no {p : Nat → Bool} : ∀ n, n ≤ 11 → (∀ j, j < 11 → p j = false) → wkF p n = 1
  | 0, _, _ => rfl
  | n + 1, hn, h => by rw [wkF, h (10 - n) (by omega), if_neg (by decide)]; exact wk_no n (by omega) h
theorem wk_yes {p : Nat → Bool} {j : Nat} (hj : p j = true) (ho : ∀ i, i < 11 → p i = true → i = j) : ∀ n, n ≤ 11 → 11 - n ≤ j → j < 11 → wkF p n = 5 + j
  | 0, _, h1, h2 => by omega
  | n + 1, hn, h1, h2 => by
    rw [wkF]
    by_cases z : p (10 - n) = true
    · rw [if_pos z, ho _ (by omega) z]
    · rw [if_neg z]
      refine wk_yes hj ho n (by omega) ?_ h2
      by_cases y : 10 - n = j
      · rw [y] at z; exact absurd hj z
      · omega
theorem word_rel {s n : Nat} (hb : ∀ i, i < n → isLt (b (s + i)) = true) : KMr (wdK b s n) (nI (kfN (wdN b s n) 11)) := by
  unfold wdK
  by_cases h : ∃ j, j < 11 ∧ wdM b s n j = true
  · obtain ⟨j, j1, j2⟩ := h
    have e := (wdM_iff j1 hb).mp j2
    rw [wk_yes j2 (fun i i1 i2 => ky_one i i1 j j1 (((wdM_iff i1 hb).mp i2).symm.trans e)) 11 (by omega) (by omega) j1, kf_yes e.symm j1 11 (by omega) j1]
    right
    refine ⟨by omega, ?_⟩
    unfold kmN
    rw [if_neg (by omega), if_pos (by omega)]
    congr 1
    omega
  · have h' : ∀ j, j < 11 → wdM b s n j = false := fun j hj => by
      cases z : wdM b s n j with
      | false => rfl
      | true => exact absurd ⟨j, hj, z⟩ h
    rw [wk_no 11 (by omega) h', kf_no 11 (fun k hk z => by
      have := (wdM_iff hk hb).mpr z.symm
      rw [h' k hk] at this; cases this)]
    exact .inl ⟨rfl, .inl rfl⟩
theorem word_long {s n : Nat} (h : 8 < n) : wdK b s n = 1 := by
  unfold wdK
  refine wk_no 11 (by omega) (fun j hj => ?_)
  unfold wdM
  have := (wd_tab j hj).2.2.1
  rw [decide_eq_false (by omega), Bool.false_and]
theorem letters12 (hS : Shp τ) (hk : KY (xL τ)) (hX : TX J b m) {i n : Nat} (hi : i < m) (hl : isLt (b i) = true) (hn : n < 403) (h10 : J 183 10 = nI n) :
    ∃ (L : Nat → Nat → Int64) (k : Int32), xloop (f_X12_cutsText_b85 (xw τ J) 183 (nI i)) ((0 : Int32), (0 : Int64)) = some (.inl (nI (nxP isLt b m i), xw (xl τ L) (tkI J n k (nI i) 0))) ∧ KMr (wdK b i (nxP isLt b m i - i)) k ∧ ∀ q, L 190 q = xL τ 190 q := by
  have hm := hX.1
  have hge := nxP_ge (q := isLt) (b := b) (m := m) (p := i)
  have hle := nxP_le (q := isLt) (b := b) (show i ≤ m by omega)
  obtain ⟨len, hlen⟩ : ∃ len, len = nxP isLt b m i - i := ⟨_, rfl⟩
  have hall : ∀ k, k < len → isLt (b (i + k)) = true := fun k hk => nxP_in (q := isLt) (b := b) (m := m) (p := i) (by omega) (by omega)
  have hnx : i + len = nxP isLt b m i := by omega
  have Lf : ∀ (w : Int64) (q : Nat), xup (xL τ) 189 n w 190 q = xL τ 190 q := fun w q => by
    show (if 190 = 189 ∧ q = n then w else xL τ 190 q) = _
    rw [if_neg (by omega)]
  have tok : ∀ (k : Int32) (w : Int64), f_X12_cutsText_j179 (xw τ J) 183 (nI i) (nI len) w k = some (.inl (nI (nxP isLt b m i), xw (xl τ (xup (xL τ) 189 n w)) (tkI J n k (nI i) 0))) := fun k w => by
    unfold f_X12_cutsText_j179
    rw [xw_ck, kC183 hS, Option.bind_some, token_ok hS hn h10, Option.bind_some, nn_add, hnx]
  have go : ∀ (k : Int32) (w : Int64), (if nI len ≤ (8 : Int32) then f_X12_cutsText_j135 (xw τ J) 183 (nI i) (nI len) (lN (wdN b i (min len 8))) 1 else f_X12_cutsText_j135 (xw τ J) 183 (nI i) (nI len) (lN (wdN b i (min len 8))) 3) = some (.inl (nI (nxP isLt b m i), xw (xl τ (xup (xL τ) 189 n w)) (tkI J n k (nI i) 0))) → xloop (f_X12_cutsText_b85 (xw τ J) 183 (nI i)) ((0 : Int32), (0 : Int64)) = some (.inl (nI (nxP isLt b m i), xw (xl τ (xup (xL τ) 189 n w)) (tkI J n k (nI i) 0))) := by
    intro k w hgo
    refine xforE (fun j : Nat => (nI j, lN (wdN b i (min j 8)))) len rfl (fun j hj => ?_) ?_
    · have hb := byte12_ok (τ := τ) hS hX (show i + j < m by omega)
      have hlj := hall j hj
      have hbx := b255_x (hX.2.2 (i + j) (by omega)).2
      have hlb := isLt_b hlj
      have ev : b (i + j) &&& 255 = b (i + j) := hbx.2.2.2.2.2 (by omega)
      rw [ev] at hb
      simp only [f_X12_cutsText_b85]
      have q8 : ((8 : Int32) ≤ nI j) = (8 ≤ j) := by rw [show (8 : Int32) = nI 8 from rfl, nn_le (by omega) (by omega)]
      by_cases h8 : 8 ≤ j
      · simp (disch := first | assumption | omega) only [Option.bind_some, Option.map_some, xw_gR, xw_gN, xw_al, xw_ck, xw_uI, xw_ur, xup_at, xur_at, if_true, if_false, reduceIte, and_true, true_and, and_false, false_and, not_true_eq_false, not_false_eq_true, Nat.reduceEqDiff, eq_self, Nat.reduceAdd, Nat.reduceMul, kC1, kG1, kP1, kR1_0, kR1_1, kR1_2, kR1_3, kR1_4, kR1_5, kR1_6, kR1_7, kR1_8, kR1_9, kR1_10, kR1_11, kR1_12, kR1_13, kC2, kG2, kP2, kR2_0, kR2_1, kC3, kG3, kP3, kR3_0, kR3_1, kR3_2, kR3_3, kL4, kA4, kS4, kL5, kA5, kS5, kL6, kA6, kS6, kL7, kA7, kS7, kC8, kG8, kP8, kR8_0, kR8_1, kL9, kA9, kS9, kL10, kA10, kS10, kC11, kG11, kP11, kR11_0, kR11_1, kR11_2, kR11_3, kL12, kA12, kS12, kL13, kA13, kS13, kL14, kA14, kS14, kL15, kA15, kS15, kC16, kG16, kP16, kR16_0, kR16_1, kL17, kA17, kS17, kL18, kA18, kS18, kC19, kG19, kP19, kR19_0, kL20, kL141, kL146, kA146, kS146, kL151, kA151, kS151, kL156, kA156, kS156, kC157, kG157, kP157, kR157_0, kR157_1, kL158, kA158, kS158, kL159, kA159, kS159, kC161, kG161, kP161, kR161_0, kR161_1, kL162, kA162, kS162, kL163, kA163, kS163, kC165, kG165, kP165, kR165_0, kR165_1, kR165_2, kR165_3, kL166, kA166, kS166, kL167, kA167, kS167, kL168, kA168, kS168, kL169, kA169, kS169, kC170, kG170, kP170, kR170_0, kR170_1, kR170_2, kL171, kA171, kS171, kL172, kA172, kS172, kL173, kA173, kS173, kC174, kG174, kP174, kR174_0, kR174_1, kR174_2, kR174_3, kR174_4, kL175, kA175, kS175, kL176, kA176, kS176, kL177, kA177, kS177, kL178, kA178, kS178, kL179, kC180, kG180, kP180, kL181, kL182, kA182, kS182, kC183, kG183, kP183, kR183_1, kR183_3, kR183_5, kR183_6, kR183_7, kR183_8, kR183_9, kR183_21, kR183_26, kR183_27, kR183_30, kR183_31, kR183_33, kR183_34, kR183_36, kR183_37, kR183_38, kR183_39, kR183_40, kR183_41, kR183_42, kR183_43, kR183_44, kL184, kA184, kS184, kL185, kA185, kS185, kL186, kA186, kS186, kL187, kA187, kS187, kL188, kA188, kS188, kL189, kL190, kL191, kA191, kS191, kL192, kA192, kS192, kL193, kA193, kS193, kL194, kA194, kS194, kL195, kA195, kS195, kL196, kA196, kS196, kL197, kA197, kS197, kL198, kA198, kS198, kL199, kA199, kS199, kL200, kA200, kS200, kL201, kL202, kA202, kS202, kL203, kA203, kS203, kL204, kA204, kS204, kL205, kL206, kA206, kS206, nn_add, hb, lt12_ok, hlj, one0, q8, h8]
        rw [nI_succ, show min (j + 1) 8 = min j 8 by omega]
      · have q0 : (b (i + j) = 0) = False := by
          apply eq_false
          intro z
          rw [z] at hlb
          have : ((0 : Int32)).toInt = 0 := rfl
          omega
        have hwb := wdN_b (b := b) (s := i) j (fun k hk => by have := isLt_b (hall k (by omega)); unfold lt1; omega)
        have hp : 27 ^ j ≤ 27 ^ 8 := Nat.pow_le_pow_right (by decide) (by omega)
        have ap : f_X12_appends (lN (wdN b i (min j 8))) (b (i + j)) = some (lN (wdN b i (min (j + 1) 8))) := by
          unfold f_X12_appends
          rw [if_neg (by rw [q0]; exact id), show min j 8 = j by omega, show min (j + 1) 8 = j + 1 by omega]
          have e1 : b (i + j) - (97 : Int32) + (1 : Int32) = nI (lt1 (b (i + j))) := by
            rw [iI_of (b (i + j)), show (97 : Int32) = iI 97 from rfl, show (1 : Int32) = iI 1 from rfl, iI_sub, iI_add, iI_n]
            congr 1
            unfold lt1
            rw [iI_ti (by omega) (by omega)]
            omega
          have e2 : lt1 (b (i + j)) ≤ 26 := by unfold lt1; omega
          rw [e1, nI_i64 (by omega), show (27 : Int64) = lN 27 from rfl, vL_mul (by omega) (by omega) (by omega), vL_add (by omega)]
          rfl
        simp (disch := first | assumption | omega) only [Option.bind_some, Option.map_some, xw_gR, xw_gN, xw_al, xw_ck, xw_uI, xw_ur, xup_at, xur_at, if_true, if_false, reduceIte, and_true, true_and, and_false, false_and, not_true_eq_false, not_false_eq_true, Nat.reduceEqDiff, eq_self, Nat.reduceAdd, Nat.reduceMul, kC1, kG1, kP1, kR1_0, kR1_1, kR1_2, kR1_3, kR1_4, kR1_5, kR1_6, kR1_7, kR1_8, kR1_9, kR1_10, kR1_11, kR1_12, kR1_13, kC2, kG2, kP2, kR2_0, kR2_1, kC3, kG3, kP3, kR3_0, kR3_1, kR3_2, kR3_3, kL4, kA4, kS4, kL5, kA5, kS5, kL6, kA6, kS6, kL7, kA7, kS7, kC8, kG8, kP8, kR8_0, kR8_1, kL9, kA9, kS9, kL10, kA10, kS10, kC11, kG11, kP11, kR11_0, kR11_1, kR11_2, kR11_3, kL12, kA12, kS12, kL13, kA13, kS13, kL14, kA14, kS14, kL15, kA15, kS15, kC16, kG16, kP16, kR16_0, kR16_1, kL17, kA17, kS17, kL18, kA18, kS18, kC19, kG19, kP19, kR19_0, kL20, kL141, kL146, kA146, kS146, kL151, kA151, kS151, kL156, kA156, kS156, kC157, kG157, kP157, kR157_0, kR157_1, kL158, kA158, kS158, kL159, kA159, kS159, kC161, kG161, kP161, kR161_0, kR161_1, kL162, kA162, kS162, kL163, kA163, kS163, kC165, kG165, kP165, kR165_0, kR165_1, kR165_2, kR165_3, kL166, kA166, kS166, kL167, kA167, kS167, kL168, kA168, kS168, kL169, kA169, kS169, kC170, kG170, kP170, kR170_0, kR170_1, kR170_2, kL171, kA171, kS171, kL172, kA172, kS172, kL173, kA173, kS173, kC174, kG174, kP174, kR174_0, kR174_1, kR174_2, kR174_3, kR174_4, kL175, kA175, kS175, kL176, kA176, kS176, kL177, kA177, kS177, kL178, kA178, kS178, kL179, kC180, kG180, kP180, kL181, kL182, kA182, kS182, kC183, kG183, kP183, kR183_1, kR183_3, kR183_5, kR183_6, kR183_7, kR183_8, kR183_9, kR183_21, kR183_26, kR183_27, kR183_30, kR183_31, kR183_33, kR183_34, kR183_36, kR183_37, kR183_38, kR183_39, kR183_40, kR183_41, kR183_42, kR183_43, kR183_44, kL184, kA184, kS184, kL185, kA185, kS185, kL186, kA186, kS186, kL187, kA187, kS187, kL188, kA188, kS188, kL189, kL190, kL191, kA191, kS191, kL192, kA192, kS192, kL193, kA193, kS193, kL194, kA194, kS194, kL195, kA195, kS195, kL196, kA196, kS196, kL197, kA197, kS197, kL198, kA198, kS198, kL199, kA199, kS199, kL200, kA200, kS200, kL201, kL202, kA202, kS202, kL203, kA203, kS203, kL204, kA204, kS204, kL205, kL206, kA206, kS206, nn_add, hb, lt12_ok, hlj, one0, q8, h8, ap]
        rw [nI_succ]
    · simp only [f_X12_cutsText_b85]
      have hend : ∃ y, f_X12_byteAt (xw τ J) 183 (nI (i + len)) = some y ∧ isLt y = false := by
        by_cases z : i + len < m
        · have hno : isLt (b (i + len)) = false := by rw [hnx] at z ⊢; exact nxP_out z
          exact ⟨_, byte12_ok hS hX z, by rw [(b255_x (hX.2.2 _ z).2).1]; exact hno⟩
        · exact ⟨0, byte12_end hS hX (by omega) (by omega), by decide⟩
      obtain ⟨y, y1, y2⟩ := hend
      rw [xw_ck, kC183 hS, Option.bind_some, nn_add, y1, Option.bind_some, lt12_ok, Option.bind_some, y2, if_neg (show ¬ (false = true) by decide), if_pos rfl, hgo]
      rfl
  have q8 : (nI len ≤ (8 : Int32)) = (len ≤ 8) := by rw [show (8 : Int32) = nI 8 from rfl, nn_le (by omega) (by omega)]
  have q8' : ((8 : Int32) < nI len) = (8 < len) := by rw [show (8 : Int32) = nI 8 from rfl, nn_lt (by omega) (by omega)]
  rw [← hlen]
  by_cases h8 : len ≤ 8
  · refine ⟨xup (xL τ) 189 n (lN (wdN b i (min len 8))), nI (kfN (wdN b i len) 11), go _ _ ?_, word_rel hall, Lf _⟩
    rw [if_pos (by rw [q8]; exact h8)]
    unfold f_X12_cutsText_j135
    rw [if_neg (by rw [q8']; omega), show min len 8 = len by omega]
    have hwb := wdN_b (b := b) (s := i) len (fun k hk => by have := isLt_b (hall k (by omega)); unfold lt1; omega)
    have hp : 27 ^ len ≤ 27 ^ 8 := Nat.pow_le_pow_right (by decide) (by omega)
    have K : τ.1 190 = (23, 11) := xw_K hS (by decide) (by decide) (by decide)
    have kb : ∀ k, k < 11 → kyW.getD k 0 < 100000000 := by decide
    refine xforE (fun k : Nat => (nI (kfN (wdN b i len) k), nI k)) 11 rfl (fun k hk1 => ?_) ?_
    · have al : xaL (xw τ J) 190 (nI k) = some (lN (kyW.getD k 0)) := by
        rw [← hk k hk1]
        exact xl_aL (σ := τ) (L := xL τ) K hk1 (by decide)
      have q1 : ((11 : Int32) ≤ nI k) = False := by rw [show (11 : Int32) = nI 11 from rfl, nn_le (by omega) (by omega)]; exact eq_false (by omega)
      have q2 : (lg_cmp (lN (kyW.getD k 0)) (lN (wdN b i len)) = 0) = (kyW.getD k 0 = wdN b i len) := by
        have := kb k hk1
        rw [lg_cmp0, vL_eq (by omega) (by omega)]
      simp only [f_X12_cutsText_b146]
      simp (disch := first | assumption | omega) only [Option.bind_some, Option.map_some, xw_gR, xw_gN, xw_al, xw_ck, xw_uI, xw_ur, xup_at, xur_at, if_true, if_false, reduceIte, and_true, true_and, and_false, false_and, not_true_eq_false, not_false_eq_true, Nat.reduceEqDiff, eq_self, Nat.reduceAdd, Nat.reduceMul, kC1, kG1, kP1, kR1_0, kR1_1, kR1_2, kR1_3, kR1_4, kR1_5, kR1_6, kR1_7, kR1_8, kR1_9, kR1_10, kR1_11, kR1_12, kR1_13, kC2, kG2, kP2, kR2_0, kR2_1, kC3, kG3, kP3, kR3_0, kR3_1, kR3_2, kR3_3, kL4, kA4, kS4, kL5, kA5, kS5, kL6, kA6, kS6, kL7, kA7, kS7, kC8, kG8, kP8, kR8_0, kR8_1, kL9, kA9, kS9, kL10, kA10, kS10, kC11, kG11, kP11, kR11_0, kR11_1, kR11_2, kR11_3, kL12, kA12, kS12, kL13, kA13, kS13, kL14, kA14, kS14, kL15, kA15, kS15, kC16, kG16, kP16, kR16_0, kR16_1, kL17, kA17, kS17, kL18, kA18, kS18, kC19, kG19, kP19, kR19_0, kL20, kL141, kL146, kA146, kS146, kL151, kA151, kS151, kL156, kA156, kS156, kC157, kG157, kP157, kR157_0, kR157_1, kL158, kA158, kS158, kL159, kA159, kS159, kC161, kG161, kP161, kR161_0, kR161_1, kL162, kA162, kS162, kL163, kA163, kS163, kC165, kG165, kP165, kR165_0, kR165_1, kR165_2, kR165_3, kL166, kA166, kS166, kL167, kA167, kS167, kL168, kA168, kS168, kL169, kA169, kS169, kC170, kG170, kP170, kR170_0, kR170_1, kR170_2, kL171, kA171, kS171, kL172, kA172, kS172, kL173, kA173, kS173, kC174, kG174, kP174, kR174_0, kR174_1, kR174_2, kR174_3, kR174_4, kL175, kA175, kS175, kL176, kA176, kS176, kL177, kA177, kS177, kL178, kA178, kS178, kL179, kC180, kG180, kP180, kL181, kL182, kA182, kS182, kC183, kG183, kP183, kR183_1, kR183_3, kR183_5, kR183_6, kR183_7, kR183_8, kR183_9, kR183_21, kR183_26, kR183_27, kR183_30, kR183_31, kR183_33, kR183_34, kR183_36, kR183_37, kR183_38, kR183_39, kR183_40, kR183_41, kR183_42, kR183_43, kR183_44, kL184, kA184, kS184, kL185, kA185, kS185, kL186, kA186, kS186, kL187, kA187, kS187, kL188, kA188, kS188, kL189, kL190, kL191, kA191, kS191, kL192, kA192, kS192, kL193, kA193, kS193, kL194, kA194, kS194, kL195, kA195, kS195, kL196, kA196, kS196, kL197, kA197, kS197, kL198, kA198, kS198, kL199, kA199, kS199, kL200, kA200, kS200, kL201, kL202, kA202, kS202, kL203, kA203, kS203, kL204, kA204, kS204, kL205, kL206, kA206, kS206, q1, al, q2]
      rw [← nI_succ]
      show _ = some (Sum.inl (nI (kfN (wdN b i len) (k + 1)), nI (k + 1)))
      rw [kfN]
      by_cases z : kyW.getD k 0 = wdN b i len
      · rw [if_pos z, if_pos z, show (20 : Int32) = nI 20 from rfl, nn_add]
      · rw [if_neg z, if_neg z]
    · simp only [f_X12_cutsText_b146]
      rw [if_pos (by decide), tok]
      rfl
  · refine ⟨xup (xL τ) 189 n (lN (wdN b i (min len 8))), 3, go _ _ ?_, ?_, Lf _⟩
    · rw [if_neg (by rw [q8]; exact h8)]
      unfold f_X12_cutsText_j135
      rw [if_pos (by rw [q8']; omega), tok]
    · rw [word_long (by omega)]
      exact .inl ⟨rfl, .inr rfl⟩
theorem digits12 (hS : Shp τ) (hX : TX J b m) {i n : Nat} (hi : i < m) (hl : isDg (b i) = true) (hn : n < 403) (h10 : J 183 10 = nI n) :
    ∃ (L : Nat → Nat → Int64) (v : Int32), xloop (f_X12_cutsText_b208 (xw τ J) 183 (nI i)) ((0 : Int32), (0 : Int32)) = some (.inl (nI (nxP isDg b m i), xw (xl τ L) (tkI J n (if nxP isDg b m i - i ≤ 4 then 2 else 3) (nI i) v))) ∧ (nxP isDg b m i - i ≤ 4 → v = nI (nuV b i (nxP isDg b m i - i))) ∧ ∀ q, L 190 q = xL τ 190 q := by
  have hm := hX.1
  have hge := nxP_ge (q := isDg) (b := b) (m := m) (p := i)
  have hle := nxP_le (q := isDg) (b := b) (show i ≤ m by omega)
  obtain ⟨len, hlen⟩ : ∃ len, len = nxP isDg b m i - i := ⟨_, rfl⟩
  have hall : ∀ k, k < len → isDg (b (i + k)) = true := fun k hk => nxP_in (q := isDg) (b := b) (m := m) (p := i) (by omega) (by omega)
  have hnx : i + len = nxP isDg b m i := by omega
  have tok : ∀ (k v : Int32), f_X12_cutsText_j261 (xw τ J) 183 (nI i) (nI len) v 183 k = some (.inl (nI (nxP isDg b m i), xw (xl τ (xup (xL τ) 189 n 0)) (tkI J n k (nI i) v))) := fun k v => by
    unfold f_X12_cutsText_j261
    rw [xw_ck, kC183 hS, Option.bind_some, token_ok hS hn h10, Option.bind_some, nn_add, hnx]
  rw [← hlen]
  refine ⟨xup (xL τ) 189 n 0, nI (nuV b i (min len 4)), ?_, fun h4 => by rw [show min len 4 = len by omega], fun q => ?_⟩
  · refine xforE (fun j : Nat => (nI j, nI (nuV b i (min j 4)))) len rfl (fun j hj => ?_) ?_
    · have hb := byte12_ok (τ := τ) hS hX (show i + j < m by omega)
      have hlj := hall j hj
      have hbx := b255_x (hX.2.2 (i + j) (by omega)).2
      have hlb := isDg_b hlj
      have ev : b (i + j) &&& 255 = b (i + j) := hbx.2.2.2.2.2 (by omega)
      rw [ev] at hb
      have q4 : ((4 : Int32) ≤ nI j) = (4 ≤ j) := by rw [show (4 : Int32) = nI 4 from rfl, nn_le (by omega) (by omega)]
      simp only [f_X12_cutsText_b208]
      by_cases h4 : 4 ≤ j
      · simp (disch := first | assumption | omega) only [Option.bind_some, Option.map_some, xw_gR, xw_gN, xw_al, xw_ck, xw_uI, xw_ur, xup_at, xur_at, if_true, if_false, reduceIte, and_true, true_and, and_false, false_and, not_true_eq_false, not_false_eq_true, Nat.reduceEqDiff, eq_self, Nat.reduceAdd, Nat.reduceMul, kC1, kG1, kP1, kR1_0, kR1_1, kR1_2, kR1_3, kR1_4, kR1_5, kR1_6, kR1_7, kR1_8, kR1_9, kR1_10, kR1_11, kR1_12, kR1_13, kC2, kG2, kP2, kR2_0, kR2_1, kC3, kG3, kP3, kR3_0, kR3_1, kR3_2, kR3_3, kL4, kA4, kS4, kL5, kA5, kS5, kL6, kA6, kS6, kL7, kA7, kS7, kC8, kG8, kP8, kR8_0, kR8_1, kL9, kA9, kS9, kL10, kA10, kS10, kC11, kG11, kP11, kR11_0, kR11_1, kR11_2, kR11_3, kL12, kA12, kS12, kL13, kA13, kS13, kL14, kA14, kS14, kL15, kA15, kS15, kC16, kG16, kP16, kR16_0, kR16_1, kL17, kA17, kS17, kL18, kA18, kS18, kC19, kG19, kP19, kR19_0, kL20, kL141, kL146, kA146, kS146, kL151, kA151, kS151, kL156, kA156, kS156, kC157, kG157, kP157, kR157_0, kR157_1, kL158, kA158, kS158, kL159, kA159, kS159, kC161, kG161, kP161, kR161_0, kR161_1, kL162, kA162, kS162, kL163, kA163, kS163, kC165, kG165, kP165, kR165_0, kR165_1, kR165_2, kR165_3, kL166, kA166, kS166, kL167, kA167, kS167, kL168, kA168, kS168, kL169, kA169, kS169, kC170, kG170, kP170, kR170_0, kR170_1, kR170_2, kL171, kA171, kS171, kL172, kA172, kS172, kL173, kA173, kS173, kC174, kG174, kP174, kR174_0, kR174_1, kR174_2, kR174_3, kR174_4, kL175, kA175, kS175, kL176, kA176, kS176, kL177, kA177, kS177, kL178, kA178, kS178, kL179, kC180, kG180, kP180, kL181, kL182, kA182, kS182, kC183, kG183, kP183, kR183_1, kR183_3, kR183_5, kR183_6, kR183_7, kR183_8, kR183_9, kR183_21, kR183_26, kR183_27, kR183_30, kR183_31, kR183_33, kR183_34, kR183_36, kR183_37, kR183_38, kR183_39, kR183_40, kR183_41, kR183_42, kR183_43, kR183_44, kL184, kA184, kS184, kL185, kA185, kS185, kL186, kA186, kS186, kL187, kA187, kS187, kL188, kA188, kS188, kL189, kL190, kL191, kA191, kS191, kL192, kA192, kS192, kL193, kA193, kS193, kL194, kA194, kS194, kL195, kA195, kS195, kL196, kA196, kS196, kL197, kA197, kS197, kL198, kA198, kS198, kL199, kA199, kS199, kL200, kA200, kS200, kL201, kL202, kA202, kS202, kL203, kA203, kS203, kL204, kA204, kS204, kL205, kL206, kA206, kS206, nn_add, hb, dg12_ok, hlj, one0, q4, h4]
        rw [nI_succ, show min (j + 1) 4 = min j 4 by omega]
      · have hnu := nuV_b (b := b) (s := i) j (fun k hk => hall k (by omega))
        have hp : 10 ^ j ≤ 10 ^ 4 := Nat.pow_le_pow_right (by decide) (by omega)
        have ar : (10 : Int32) * nI (nuV b i (min j 4)) + b (i + j) - (48 : Int32) = nI (nuV b i (min (j + 1) 4)) := by
          rw [show min j 4 = j by omega, show min (j + 1) 4 = j + 1 by omega, dg_n hlj, show (10 : Int32) = nI 10 from rfl, nn_mul, nn_add, show (48 : Int32) = nI 48 from rfl, nn_sub (by omega)]
          congr 1
          show _ = 10 * nuV b i j + ((b (i + j)).toInt.toNat - 48)
          omega
        simp (disch := first | assumption | omega) only [Option.bind_some, Option.map_some, xw_gR, xw_gN, xw_al, xw_ck, xw_uI, xw_ur, xup_at, xur_at, if_true, if_false, reduceIte, and_true, true_and, and_false, false_and, not_true_eq_false, not_false_eq_true, Nat.reduceEqDiff, eq_self, Nat.reduceAdd, Nat.reduceMul, kC1, kG1, kP1, kR1_0, kR1_1, kR1_2, kR1_3, kR1_4, kR1_5, kR1_6, kR1_7, kR1_8, kR1_9, kR1_10, kR1_11, kR1_12, kR1_13, kC2, kG2, kP2, kR2_0, kR2_1, kC3, kG3, kP3, kR3_0, kR3_1, kR3_2, kR3_3, kL4, kA4, kS4, kL5, kA5, kS5, kL6, kA6, kS6, kL7, kA7, kS7, kC8, kG8, kP8, kR8_0, kR8_1, kL9, kA9, kS9, kL10, kA10, kS10, kC11, kG11, kP11, kR11_0, kR11_1, kR11_2, kR11_3, kL12, kA12, kS12, kL13, kA13, kS13, kL14, kA14, kS14, kL15, kA15, kS15, kC16, kG16, kP16, kR16_0, kR16_1, kL17, kA17, kS17, kL18, kA18, kS18, kC19, kG19, kP19, kR19_0, kL20, kL141, kL146, kA146, kS146, kL151, kA151, kS151, kL156, kA156, kS156, kC157, kG157, kP157, kR157_0, kR157_1, kL158, kA158, kS158, kL159, kA159, kS159, kC161, kG161, kP161, kR161_0, kR161_1, kL162, kA162, kS162, kL163, kA163, kS163, kC165, kG165, kP165, kR165_0, kR165_1, kR165_2, kR165_3, kL166, kA166, kS166, kL167, kA167, kS167, kL168, kA168, kS168, kL169, kA169, kS169, kC170, kG170, kP170, kR170_0, kR170_1, kR170_2, kL171, kA171, kS171, kL172, kA172, kS172, kL173, kA173, kS173, kC174, kG174, kP174, kR174_0, kR174_1, kR174_2, kR174_3, kR174_4, kL175, kA175, kS175, kL176, kA176, kS176, kL177, kA177, kS177, kL178, kA178, kS178, kL179, kC180, kG180, kP180, kL181, kL182, kA182, kS182, kC183, kG183, kP183, kR183_1, kR183_3, kR183_5, kR183_6, kR183_7, kR183_8, kR183_9, kR183_21, kR183_26, kR183_27, kR183_30, kR183_31, kR183_33, kR183_34, kR183_36, kR183_37, kR183_38, kR183_39, kR183_40, kR183_41, kR183_42, kR183_43, kR183_44, kL184, kA184, kS184, kL185, kA185, kS185, kL186, kA186, kS186, kL187, kA187, kS187, kL188, kA188, kS188, kL189, kL190, kL191, kA191, kS191, kL192, kA192, kS192, kL193, kA193, kS193, kL194, kA194, kS194, kL195, kA195, kS195, kL196, kA196, kS196, kL197, kA197, kS197, kL198, kA198, kS198, kL199, kA199, kS199, kL200, kA200, kS200, kL201, kL202, kA202, kS202, kL203, kA203, kS203, kL204, kA204, kS204, kL205, kL206, kA206, kS206, nn_add, hb, dg12_ok, hlj, one0, q4, h4, ar]
        rw [nI_succ]
    · simp only [f_X12_cutsText_b208]
      have hend : ∃ y, f_X12_byteAt (xw τ J) 183 (nI (i + len)) = some y ∧ isDg y = false := by
        by_cases z : i + len < m
        · have hno : isDg (b (i + len)) = false := by rw [hnx] at z ⊢; exact nxP_out z
          exact ⟨_, byte12_ok hS hX z, by rw [(b255_x (hX.2.2 _ z).2).2.1]; exact hno⟩
        · exact ⟨0, byte12_end hS hX (by omega) (by omega), by decide⟩
      obtain ⟨y, y1, y2⟩ := hend
      have q4 : (nI len ≤ (4 : Int32)) = (len ≤ 4) := by rw [show (4 : Int32) = nI 4 from rfl, nn_le (by omega) (by omega)]
      rw [xw_ck, kC183 hS, Option.bind_some, nn_add, y1, Option.bind_some, dg12_ok, Option.bind_some, y2, if_neg (show ¬ (false = true) by decide), if_pos rfl, tok, tok]
      simp only [q4]
      by_cases h4 : len ≤ 4
      · rw [if_pos h4, if_pos h4]; rfl
      · rw [if_neg h4, if_neg h4]; rfl
  · show (if 190 = 189 ∧ q = n then 0 else xL τ 190 q) = _
    rw [if_neg (by omega)]
end CUT12
