/-! connected states; a forest of pointers -/
def cn (S : Nat → Nat → Prop) (s t : Nat) : Prop := ∀ P : Nat → Prop, P s → (∀ a b, P a → S a b → P b) → P t
section CONN
variable {S S' : Nat → Nat → Prop} {s t u : Nat}
theorem cn_r (S : Nat → Nat → Prop) (s : Nat) : cn S s s := fun _ h _ => h
theorem cn_s (h : cn S s t) (h2 : S t u) : cn S s u := fun P p q => q t u (h P p q) h2
theorem cn_t (h : cn S s t) (h2 : cn S t u) : cn S s u := fun P p q => h2 P (h P p q) q
theorem cn_y (hy : ∀ a b, S a b → S b a) (h : cn S s t) : cn S t s := h (fun x => cn S x s) (cn_r S s) (fun a b p q => cn_t (cn_s (cn_r S b) (hy a b q)) p)
theorem cn_m (hm : ∀ a b, S a b → S' a b) (h : cn S s t) : cn S' s t := fun P p q => h P p (fun a b pa sab => q a b pa (hm a b sab))
end CONN
def aj (g : GD) (F : Nat → Int32) (a b : Nat) : Prop := ∃ i, i < gSz g ∧ F (48 + i) = 0 ∧ b = a ^^^ 2 ^ i
theorem xor2 (a i : Nat) : a ^^^ 2 ^ i ^^^ 2 ^ i = a := by rw [Nat.xor_assoc, Nat.xor_self, Nat.xor_zero]
theorem aj_y {g : GD} {F : Nat → Int32} {a b : Nat} (h : aj g F a b) : aj g F b a := by
  obtain ⟨i, h1, h2, rfl⟩ := h
  exact ⟨i, h1, h2, (xor2 a i).symm⟩
def lwS (g : GD) (F : Nat → Int32) (a : Nat) : Prop := a < gSt g ∧ lW g F a = true
theorem cn_al {g : GD} {F : Nat → Int32} {t : Nat} (ht : lwS g F t) : ∀ j, j ≤ gSz g → ∀ s, lwS g F s → (∀ i, j ≤ i → s.testBit i = t.testBit i) → cn (fun a b => lwS g F a ∧ lwS g F b ∧ aj g F a b) s t := by
  intro j
  induction j with
  | zero =>
    intro _ s hs h
    have : s = t := Nat.eq_of_testBit_eq (fun i => h i (Nat.zero_le _))
    rw [this]; exact cn_r _ _
  | succ j ih =>
    intro hj s hs h
    by_cases hb : s.testBit j = t.testBit j
    · refine ih (by omega) s hs (fun i hi => ?_)
      by_cases z : i = j
      · rw [z]; exact hb
      · exact h i (by omega)
    · have hp : F (48 + j) = 0 := by
        apply Classical.byContradiction
        intro hne
        exact hb ((lW_iff.mp hs.2 j (by omega) hne).trans (lW_iff.mp ht.2 j (by omega) hne).symm)
      have hs' := gSt_flip hs.1 (show j < gSz g by omega)
      have hl' : lW g F (s ^^^ 2 ^ j) = true := by rw [lW_flip (by omega) hs.2]; exact decide_eq_true hp
      refine cn_t (cn_s (cn_r _ _) ⟨hs, ⟨hs', hl'⟩, j, by omega, hp, rfl⟩) (ih (by omega) _ ⟨hs', hl'⟩ (fun i hi => ?_))
      rw [fb_bit_flip]
      by_cases z : i = j
      · subst z
        cases h1 : s.testBit i <;> cases h2 : t.testBit i <;> simp_all
      · simp [z]; exact h i (by omega)
theorem cn_all {g : GD} {F : Nat → Int32} {s t : Nat} (hs : lwS g F s) (ht : lwS g F t) : cn (fun a b => lwS g F a ∧ lwS g F b ∧ aj g F a b) s t := by
  refine cn_al ht (gSz g) (Nat.le_refl _) s hs (fun i hi => ?_)
  have e : ∀ x, x < 2 ^ gSz g → x.testBit i = false := fun x hx => Nat.testBit_lt_two_pow (Nat.lt_of_lt_of_le hx (Nat.pow_le_pow_right (by decide) hi))
  rw [e s (gSt_pos hs.1).2, e t (gSt_pos ht.1).2]
/-- pointers that lead to roots -/
def UF (w : Nat → Bool) (T r ρ : Nat → Nat) (R : Nat) : Prop := ∀ x, w x = true → x < 1024 ∧ w (T x) = true ∧ r (T x) = r x ∧ (T x = x ∨ ρ x < ρ (T x)) ∧ (T x = x → r x = x) ∧ ρ x ≤ R ∧ w (r x) = true ∧ T (r x) = r x
def rc (w : Nat → Bool) (r : Nat → Nat) : Nat := fb_ct (fun x => w x && decide (r x = x)) 1024
def TW (J : Nat → Nat → Int32) (w : Nat → Bool) (T : Nat → Nat) : Prop := ∀ x, x < 1024 → J 177 x = if w x then nI (T x) else -1
def UFH (J : Nat → Nat → Int32) (w : Nat → Bool) (r : Nat → Nat) (N : Nat) : Prop := ∃ T ρ R, TW J w T ∧ UF w T r ρ R ∧ R + rc w r = N ∧ J 174 9 = nI (rc w r)
theorem UF_half {w : Nat → Bool} {T r ρ : Nat → Nat} {R y : Nat} (h : UF w T r ρ R) (hy : w y = true) (hne : T y ≠ y) : UF w (fun z => if z = y then T (T y) else T z) r ρ R ∧ ρ y < ρ (T (T y)) := by
  obtain ⟨y1, y2, y3, y4, y5, y6, y7, y8⟩ := h y hy
  obtain ⟨t1, t2, t3, t4, t5, t6, t7, t8⟩ := h (T y) y2
  have hlt : ρ y < ρ (T (T y)) := by
    rcases y4 with z | z
    · exact absurd z hne
    · rcases t4 with q | q
      · rw [q]; exact z
      · omega
  refine ⟨fun x hw => ?_, hlt⟩
  obtain ⟨x1, x2, x3, x4, x5, x6, x7, x8⟩ := h x hw
  have hr : ¬ (r x = y) := fun z => hne (by rw [z] at x8; exact x8)
  have e8 : (if r x = y then T (T y) else T (r x)) = r x := by rw [if_neg hr]; exact x8
  by_cases hxy : x = y
  · subst hxy
    have e : (if x = x then T (T x) else T x) = T (T x) := if_pos rfl
    show x < 1024 ∧ w (if x = x then T (T x) else T x) = true ∧ r (if x = x then T (T x) else T x) = r x ∧ ((if x = x then T (T x) else T x) = x ∨ ρ x < ρ (if x = x then T (T x) else T x)) ∧ ((if x = x then T (T x) else T x) = x → r x = x) ∧ ρ x ≤ R ∧ w (r x) = true ∧ (if r x = x then T (T x) else T (r x)) = r x
    rw [e]
    refine ⟨x1, t2, t3.trans y3, .inr hlt, fun z => ?_, x6, x7, e8⟩
    rw [z] at hlt; exact absurd hlt (Nat.lt_irrefl _)
  · have e : (if x = y then T (T y) else T x) = T x := if_neg hxy
    show x < 1024 ∧ w (if x = y then T (T y) else T x) = true ∧ r (if x = y then T (T y) else T x) = r x ∧ ((if x = y then T (T y) else T x) = x ∨ ρ x < ρ (if x = y then T (T y) else T x)) ∧ ((if x = y then T (T y) else T x) = x → r x = x) ∧ ρ x ≤ R ∧ w (r x) = true ∧ (if r x = y then T (T y) else T (r x)) = r x
    rw [e]
    exact ⟨x1, x2, x3, x4, x5, x6, x7, e8⟩
theorem rc_pos {w : Nat → Bool} {T r ρ : Nat → Nat} {R x : Nat} (h : UF w T r ρ R) (hw : w x = true) : 0 < rc w r := by
  obtain ⟨x1, x2, x3, x4, x5, x6, x7, x8⟩ := h x hw
  obtain ⟨q1, q2, q3, q4, q5, -⟩ := h _ x7
  refine fb_ct_pos.mpr ⟨r x, q1, ?_⟩
  rw [x7, q5 x8]; simp
theorem rc_joinN {w : Nat → Bool} {T r ρ : Nat → Nat} {R a b n : Nat} (h : UF w T r ρ R) (ha : w a = true) (hb : w b = true) (hab : r a ≠ r b) (hn : r a < n) : fb_ct (fun x => w x && decide ((if r x = r a then r b else r x) = x)) n + 1 = fb_ct (fun x => w x && decide (r x = x)) n := by
  obtain ⟨a1, a2, a3, a4, a5, a6, a7, a8⟩ := h a ha
  obtain ⟨b1, b2, b3, b4, b5, b6, b7, b8⟩ := h b hb
  obtain ⟨p1, p2, p3, p4, p5, p6, p7, p8⟩ := h _ a7
  obtain ⟨q1, q2, q3, q4, q5, q6, q7, q8⟩ := h _ b7
  have up : fb_ct (fun k => if k = r a then false else (w k && decide (r k = k))) n + (if (w (r a) && decide (r (r a) = r a)) = true then 1 else 0) = fb_ct (fun x => w x && decide (r x = x)) n + (if false = true then 1 else 0) := fb_ct_upd (fun x => w x && decide (r x = x)) false hn
  have cg : fb_ct (fun x => w x && decide ((if r x = r a then r b else r x) = x)) n = fb_ct (fun k => if k = r a then false else (w k && decide (r k = k))) n := fb_ct_cong (fun k hk => by
    cases hw : w k with
    | false => simp
    | true =>
      rw [Bool.true_and, Bool.true_and]
      by_cases z : k = r a
      · rw [if_pos z, z, if_pos (p5 a8)]
        exact decide_eq_false (fun y => hab y.symm)
      · rw [if_neg z]
        by_cases y : r k = r a
        · rw [if_pos y, decide_eq_false (show ¬ r k = k from fun v => z (v.symm.trans y))]
          refine decide_eq_false (fun v => hab ?_)
          rw [← v, q5 b8] at y
          exact y.symm
        · rw [if_neg y])
  rw [a7, decide_eq_true (p5 a8), if_neg (show ¬ (false = true) by decide), if_pos (show (true && true) = true by decide), Nat.add_zero] at up
  rw [cg]
  exact up
theorem rc_join {w : Nat → Bool} {T r ρ : Nat → Nat} {R a b : Nat} (h : UF w T r ρ R) (ha : w a = true) (hb : w b = true) (hab : r a ≠ r b) : rc w (fun x => if r x = r a then r b else r x) + 1 = rc w r := rc_joinN h ha hb hab (h _ (h a ha).2.2.2.2.2.2.1).1
theorem UF_join {w : Nat → Bool} {T r ρ : Nat → Nat} {R a b : Nat} (h : UF w T r ρ R) (ha : w a = true) (hb : w b = true) (hab : r a ≠ r b) : UF w (fun z => if z = r a then r b else T z) (fun x => if r x = r a then r b else r x) (fun z => if z = r b then max (ρ (r a)) (ρ (r b)) + 1 else ρ z) (R + 1) := by
  obtain ⟨a1, a2, a3, a4, a5, a6, a7, a8⟩ := h a ha
  obtain ⟨b1, b2, b3, b4, b5, b6, b7, b8⟩ := h b hb
  obtain ⟨p1, p2, p3, p4, p5, p6, p7, p8⟩ := h _ a7
  obtain ⟨q1, q2, q3, q4, q5, q6, q7, q8⟩ := h _ b7
  have hba : ¬ r b = r a := fun z => hab z.symm
  intro x hw
  obtain ⟨x1, x2, x3, x4, x5, x6, x7, x8⟩ := h x hw
  have last : w (if r x = r a then r b else r x) = true ∧ (if (if r x = r a then r b else r x) = r a then r b else T (if r x = r a then r b else r x)) = (if r x = r a then r b else r x) := by
    by_cases y : r x = r a
    · rw [if_pos y, if_neg hba]; exact ⟨b7, b8⟩
    · rw [if_neg y, if_neg y]; exact ⟨x7, x8⟩
  have rk : (if x = r b then max (ρ (r a)) (ρ (r b)) + 1 else ρ x) ≤ R + 1 := by
    split <;> omega
  by_cases z : x = r a
  · have e : (if x = r a then r b else T x) = r b := if_pos z
    have e2 : (if r x = r a then r b else r x) = r b := by rw [z, p5 a8, if_pos rfl]
    have e3 : (if r (r b) = r a then r b else r (r b)) = r b := by rw [q5 b8, if_neg hba]
    have e4 : (if x = r b then max (ρ (r a)) (ρ (r b)) + 1 else ρ x) = ρ (r a) := by rw [z, if_neg hab]
    have e5 : (if r b = r b then max (ρ (r a)) (ρ (r b)) + 1 else ρ (r b)) = max (ρ (r a)) (ρ (r b)) + 1 := if_pos rfl
    refine ⟨x1, ?_, ?_, .inr ?_, fun y => ?_, rk, last⟩
    · show w (if x = r a then r b else T x) = true
      rw [e]; exact b7
    · show (if r (if x = r a then r b else T x) = r a then r b else r (if x = r a then r b else T x)) = (if r x = r a then r b else r x)
      rw [e, e2, e3]
    · show (if x = r b then max (ρ (r a)) (ρ (r b)) + 1 else ρ x) < (if (if x = r a then r b else T x) = r b then max (ρ (r a)) (ρ (r b)) + 1 else ρ (if x = r a then r b else T x))
      rw [e, e4, e5]; omega
    · have y' : (if x = r a then r b else T x) = x := y
      rw [e, z] at y'
      exact absurd y' hba
  · have e : (if x = r a then r b else T x) = T x := if_neg z
    refine ⟨x1, ?_, ?_, ?_, fun y => ?_, rk, last⟩
    · show w (if x = r a then r b else T x) = true
      rw [e]; exact x2
    · show (if r (if x = r a then r b else T x) = r a then r b else r (if x = r a then r b else T x)) = (if r x = r a then r b else r x)
      rw [e, x3]
    · show (if x = r a then r b else T x) = x ∨ (if x = r b then max (ρ (r a)) (ρ (r b)) + 1 else ρ x) < (if (if x = r a then r b else T x) = r b then max (ρ (r a)) (ρ (r b)) + 1 else ρ (if x = r a then r b else T x))
      rw [e]
      rcases x4 with v | v
      · exact .inl v
      · right
        have nb : ¬ x = r b := fun y => by
          rw [y, b8] at v
          exact absurd v (Nat.lt_irrefl _)
        rw [if_neg nb]
        split
        · next y => rw [y] at v; omega
        · exact v
    · have y' : (if x = r a then r b else T x) = x := y
      rw [e] at y'
      have v := x5 y'
      show (if r x = r a then r b else r x) = x
      rw [if_neg (fun q => z (v.symm.trans q))]; exact v
section FOREST
variable {σ : XS} {J : Nat → Nat → Int32} {w : Nat → Bool} {r : Nat → Nat} {N : Nat}
theorem wet_ok (hS : Shp σ) {T : Nat → Nat} (hJ : TW J w T) (hT : ∀ x, w x = true → T x < 1024) {x : Nat} (h1 : x < 1024) : f_X9_isWet (xw σ J) 174 (nI x) = some (if w x then 1 else 0) := by
  unfold f_X9_isWet
  have hv := hJ x h1
  cases hw : w x with
  | false =>
    rw [hw, if_neg (by decide)] at hv
    simp (disch := first | assumption | omega) only [Option.bind_some, Option.map_some, xw_gR, xw_gN, xw_al, xw_ck, xw_uI, xw_ur, xup_at, xur_at, if_true, if_false, reduceIte, and_true, true_and, and_false, false_and, not_true_eq_false, not_false_eq_true, Nat.reduceEqDiff, eq_self, Nat.reduceAdd, Nat.reduceMul, kC1, kG1, kP1, kR1_0, kR1_1, kR1_2, kR1_3, kR1_4, kR1_5, kR1_6, kR1_7, kR1_8, kR1_9, kR1_10, kR1_11, kR1_12, kR1_13, kC2, kG2, kP2, kR2_0, kR2_1, kC3, kG3, kP3, kR3_0, kR3_1, kR3_2, kR3_3, kL4, kA4, kS4, kL5, kA5, kS5, kL6, kA6, kS6, kL7, kA7, kS7, kC8, kG8, kP8, kR8_0, kR8_1, kL9, kA9, kS9, kL10, kA10, kS10, kC11, kG11, kP11, kR11_0, kR11_1, kR11_2, kR11_3, kL12, kA12, kS12, kL13, kA13, kS13, kL14, kA14, kS14, kL15, kA15, kS15, kC16, kG16, kP16, kR16_0, kR16_1, kL17, kA17, kS17, kL18, kA18, kS18, kC19, kG19, kP19, kR19_0, kL20, kL141, kL146, kA146, kS146, kL151, kA151, kS151, kL156, kA156, kS156, kC157, kG157, kP157, kR157_0, kR157_1, kL158, kA158, kS158, kL159, kA159, kS159, kC161, kG161, kP161, kR161_0, kR161_1, kL162, kA162, kS162, kL163, kA163, kS163, kC165, kG165, kP165, kR165_0, kR165_1, kR165_2, kR165_3, kL166, kA166, kS166, kL167, kA167, kS167, kL168, kA168, kS168, kL169, kA169, kS169, kC170, kG170, kP170, kR170_0, kR170_1, kR170_2, kL171, kA171, kS171, kL172, kA172, kS172, kL173, kA173, kS173, kC174, kG174, kP174, kR174_0, kR174_1, kR174_2, kR174_3, kR174_4, kL175, kA175, kS175, kL176, kA176, kS176, kL177, kA177, kS177, kL178, kA178, kS178, kL179, kC180, kG180, kP180, kL181, kL182, kA182, kS182, kC183, kG183, kP183, kR183_1, kR183_3, kR183_5, kR183_6, kR183_7, kR183_8, kR183_9, kR183_21, kR183_26, kR183_27, kR183_30, kR183_31, kR183_33, kR183_34, kR183_36, kR183_37, kR183_38, kR183_39, kR183_40, kR183_41, kR183_42, kR183_43, kR183_44, kL184, kA184, kS184, kL185, kA185, kS185, kL186, kA186, kS186, kL187, kA187, kS187, kL188, kA188, kS188, kL189, kL190, kL191, kA191, kS191, kL192, kA192, kS192, kL193, kA193, kS193, kL194, kA194, kS194, kL195, kA195, kS195, kL196, kA196, kS196, kL197, kA197, kS197, kL198, kA198, kS198, kL199, kA199, kS199, kL200, kA200, kS200, kL201, kL202, kA202, kS202, kL203, kA203, kS203, kL204, kA204, kS204, kL205, kL206, kA206, kS206, isSt_ok, one0, hv]
    rfl
  | true =>
    rw [hw, if_pos rfl] at hv
    have := hT x hw
    have q : (nI (T x) = -1) = False := nn_m1 (by omega)
    simp (disch := first | assumption | omega) only [Option.bind_some, Option.map_some, xw_gR, xw_gN, xw_al, xw_ck, xw_uI, xw_ur, xup_at, xur_at, if_true, if_false, reduceIte, and_true, true_and, and_false, false_and, not_true_eq_false, not_false_eq_true, Nat.reduceEqDiff, eq_self, Nat.reduceAdd, Nat.reduceMul, kC1, kG1, kP1, kR1_0, kR1_1, kR1_2, kR1_3, kR1_4, kR1_5, kR1_6, kR1_7, kR1_8, kR1_9, kR1_10, kR1_11, kR1_12, kR1_13, kC2, kG2, kP2, kR2_0, kR2_1, kC3, kG3, kP3, kR3_0, kR3_1, kR3_2, kR3_3, kL4, kA4, kS4, kL5, kA5, kS5, kL6, kA6, kS6, kL7, kA7, kS7, kC8, kG8, kP8, kR8_0, kR8_1, kL9, kA9, kS9, kL10, kA10, kS10, kC11, kG11, kP11, kR11_0, kR11_1, kR11_2, kR11_3, kL12, kA12, kS12, kL13, kA13, kS13, kL14, kA14, kS14, kL15, kA15, kS15, kC16, kG16, kP16, kR16_0, kR16_1, kL17, kA17, kS17, kL18, kA18, kS18, kC19, kG19, kP19, kR19_0, kL20, kL141, kL146, kA146, kS146, kL151, kA151, kS151, kL156, kA156, kS156, kC157, kG157, kP157, kR157_0, kR157_1, kL158, kA158, kS158, kL159, kA159, kS159, kC161, kG161, kP161, kR161_0, kR161_1, kL162, kA162, kS162, kL163, kA163, kS163, kC165, kG165, kP165, kR165_0, kR165_1, kR165_2, kR165_3, kL166, kA166, kS166, kL167, kA167, kS167, kL168, kA168, kS168, kL169, kA169, kS169, kC170, kG170, kP170, kR170_0, kR170_1, kR170_2, kL171, kA171, kS171, kL172, kA172, kS172, kL173, kA173, kS173, kC174, kG174, kP174, kR174_0, kR174_1, kR174_2, kR174_3, kR174_4, kL175, kA175, kS175, kL176, kA176, kS176, kL177, kA177, kS177, kL178, kA178, kS178, kL179, kC180, kG180, kP180, kL181, kL182, kA182, kS182, kC183, kG183, kP183, kR183_1, kR183_3, kR183_5, kR183_6, kR183_7, kR183_8, kR183_9, kR183_21, kR183_26, kR183_27, kR183_30, kR183_31, kR183_33, kR183_34, kR183_36, kR183_37, kR183_38, kR183_39, kR183_40, kR183_41, kR183_42, kR183_43, kR183_44, kL184, kA184, kS184, kL185, kA185, kS185, kL186, kA186, kS186, kL187, kA187, kS187, kL188, kA188, kS188, kL189, kL190, kL191, kA191, kS191, kL192, kA192, kS192, kL193, kA193, kS193, kL194, kA194, kS194, kL195, kA195, kS195, kL196, kA196, kS196, kL197, kA197, kS197, kL198, kA198, kS198, kL199, kA199, kS199, kL200, kA200, kS200, kL201, kL202, kA202, kS202, kL203, kA203, kS203, kL204, kA204, kS204, kL205, kL206, kA206, kS206, isSt_ok, one0, hv, q]
theorem UFH.wet (hS : Shp σ) (h : UFH J w r N) {x : Nat} (h1 : x < 1024) : f_X9_isWet (xw σ J) 174 (nI x) = some (if w x then 1 else 0) := by
  obtain ⟨T, ρ, R, hJ, hU, hR, h9⟩ := h
  exact wet_ok hS hJ (fun x hw => (hU _ (hU x hw).2.1).1) h1
theorem rootOf_ok (hS : Shp σ) (hN : N ≤ 1024) (h : UFH J w r N) {x : Nat} (hw : w x = true) : ∃ J', f_X9_rootOf (xw σ J) 174 (nI x) = some (nI (r x), xw σ J') ∧ UFH J' w r N ∧ ∀ a k, a ≠ 177 → J' a k = J a k := by
  obtain ⟨T0, ρ, R, hJ0, hU0, hR, h9⟩ := h
  have hpos := rc_pos hU0 hw
  unfold f_X9_rootOf
  have key := xloop_run (f := f_X9_rootOf_b4 174) (fun k a => ∃ (y n : Nat) (J' : Nat → Nat → Int32) (T : Nat → Nat), a = (nI y, nI n, xw σ J') ∧ k = R - ρ y ∧ w y = true ∧ r y = r x ∧ n ≤ ρ y ∧ TW J' w T ∧ UF w T r ρ R ∧ ∀ a k, a ≠ 177 → J' a k = J a k) (fun b => ∃ J', b = (nI (r x), xw σ J') ∧ UFH J' w r N ∧ ∀ a k, a ≠ 177 → J' a k = J a k) ?_ (R - ρ x) (nI x, (0 : Int32), xw σ J) ⟨x, 0, J, T0, rfl, rfl, hw, rfl, Nat.zero_le _, hJ0, hU0, fun _ _ _ => rfl⟩
  · obtain ⟨b, e, J', rfl, h1, h2⟩ := key
    exact ⟨J', e, h1, h2⟩
  · rintro k a ⟨y, n, J', T, rfl, rfl, wy, ry, hn, hJ, hU, u⟩
    obtain ⟨y1, y2, y3, y4, y5, y6, y7, y8⟩ := hU y wy
    obtain ⟨t1, t2, -⟩ := hU (T y) y2
    obtain ⟨z1, z2, z3, z4, z5, z6, -⟩ := hU (T (T y)) t2
    have hT : ∀ x, w x = true → T x < 1024 := fun x hw => (hU _ (hU x hw).2.1).1
    have w1 := wet_ok (σ := σ) hS hJ hT y1
    have w2 := wet_ok (σ := σ) hS hJ hT t1
    rw [wy, if_pos rfl] at w1
    rw [y2, if_pos rfl] at w2
    have v1 := hJ y y1
    rw [wy, if_pos rfl] at v1
    have v2 := hJ (T y) t1
    rw [y2, if_pos rfl] at v2
    have q0 : ((1024 : Int32) ≤ nI n) = False := by rw [show (1024 : Int32) = nI 1024 from rfl, nn_le (by omega) (by omega)]; exact eq_false (by omega)
    have q1 : (nI (T y) = nI y) = (T y = y) := nn_eq (by omega) (by omega)
    by_cases hy : T y = y
    · left
      refine ⟨_, ?_, J', rfl, ⟨T, ρ, R, hJ, hU, hR, by rw [u _ _ (by omega)]; exact h9⟩, u⟩
      simp only [f_X9_rootOf_b4]
      rw [hy] at v1 
      simp (disch := first | assumption | omega) only [Option.bind_some, Option.map_some, xw_gR, xw_gN, xw_al, xw_ck, xw_uI, xw_ur, xup_at, xur_at, if_true, if_false, reduceIte, and_true, true_and, and_false, false_and, not_true_eq_false, not_false_eq_true, Nat.reduceEqDiff, eq_self, Nat.reduceAdd, Nat.reduceMul, kC1, kG1, kP1, kR1_0, kR1_1, kR1_2, kR1_3, kR1_4, kR1_5, kR1_6, kR1_7, kR1_8, kR1_9, kR1_10, kR1_11, kR1_12, kR1_13, kC2, kG2, kP2, kR2_0, kR2_1, kC3, kG3, kP3, kR3_0, kR3_1, kR3_2, kR3_3, kL4, kA4, kS4, kL5, kA5, kS5, kL6, kA6, kS6, kL7, kA7, kS7, kC8, kG8, kP8, kR8_0, kR8_1, kL9, kA9, kS9, kL10, kA10, kS10, kC11, kG11, kP11, kR11_0, kR11_1, kR11_2, kR11_3, kL12, kA12, kS12, kL13, kA13, kS13, kL14, kA14, kS14, kL15, kA15, kS15, kC16, kG16, kP16, kR16_0, kR16_1, kL17, kA17, kS17, kL18, kA18, kS18, kC19, kG19, kP19, kR19_0, kL20, kL141, kL146, kA146, kS146, kL151, kA151, kS151, kL156, kA156, kS156, kC157, kG157, kP157, kR157_0, kR157_1, kL158, kA158, kS158, kL159, kA159, kS159, kC161, kG161, kP161, kR161_0, kR161_1, kL162, kA162, kS162, kL163, kA163, kS163, kC165, kG165, kP165, kR165_0, kR165_1, kR165_2, kR165_3, kL166, kA166, kS166, kL167, kA167, kS167, kL168, kA168, kS168, kL169, kA169, kS169, kC170, kG170, kP170, kR170_0, kR170_1, kR170_2, kL171, kA171, kS171, kL172, kA172, kS172, kL173, kA173, kS173, kC174, kG174, kP174, kR174_0, kR174_1, kR174_2, kR174_3, kR174_4, kL175, kA175, kS175, kL176, kA176, kS176, kL177, kA177, kS177, kL178, kA178, kS178, kL179, kC180, kG180, kP180, kL181, kL182, kA182, kS182, kC183, kG183, kP183, kR183_1, kR183_3, kR183_5, kR183_6, kR183_7, kR183_8, kR183_9, kR183_21, kR183_26, kR183_27, kR183_30, kR183_31, kR183_33, kR183_34, kR183_36, kR183_37, kR183_38, kR183_39, kR183_40, kR183_41, kR183_42, kR183_43, kR183_44, kL184, kA184, kS184, kL185, kA185, kS185, kL186, kA186, kS186, kL187, kA187, kS187, kL188, kA188, kS188, kL189, kL190, kL191, kA191, kS191, kL192, kA192, kS192, kL193, kA193, kS193, kL194, kA194, kS194, kL195, kA195, kS195, kL196, kA196, kS196, kL197, kA197, kS197, kL198, kA198, kS198, kL199, kA199, kS199, kL200, kA200, kS200, kL201, kL202, kA202, kS202, kL203, kA203, kS203, kL204, kA204, kS204, kL205, kL206, kA206, kS206, q0, w1, one0, v1]
      rw [← ry, y5 hy]
    · right
      obtain ⟨g1, g2⟩ := UF_half hU wy hy
      refine ⟨R - ρ (T (T y)), (nI (T (T y)), nI (n + 1), xw σ (xup J' 177 y (nI (T (T y))))), by omega, ?_, T (T y), n + 1, _, _, rfl, rfl, t2, ?_, by omega, ?_, g1, fun a k ha => by rw [xup_at, if_neg (by omega)]; exact u a k ha⟩
      · simp only [f_X9_rootOf_b4]
        simp (disch := first | assumption | omega) only [Option.bind_some, Option.map_some, xw_gR, xw_gN, xw_al, xw_ck, xw_uI, xw_ur, xup_at, xur_at, if_true, if_false, reduceIte, and_true, true_and, and_false, false_and, not_true_eq_false, not_false_eq_true, Nat.reduceEqDiff, eq_self, Nat.reduceAdd, Nat.reduceMul, kC1, kG1, kP1, kR1_0, kR1_1, kR1_2, kR1_3, kR1_4, kR1_5, kR1_6, kR1_7, kR1_8, kR1_9, kR1_10, kR1_11, kR1_12, kR1_13, kC2, kG2, kP2, kR2_0, kR2_1, kC3, kG3, kP3, kR3_0, kR3_1, kR3_2, kR3_3, kL4, kA4, kS4, kL5, kA5, kS5, kL6, kA6, kS6, kL7, kA7, kS7, kC8, kG8, kP8, kR8_0, kR8_1, kL9, kA9, kS9, kL10, kA10, kS10, kC11, kG11, kP11, kR11_0, kR11_1, kR11_2, kR11_3, kL12, kA12, kS12, kL13, kA13, kS13, kL14, kA14, kS14, kL15, kA15, kS15, kC16, kG16, kP16, kR16_0, kR16_1, kL17, kA17, kS17, kL18, kA18, kS18, kC19, kG19, kP19, kR19_0, kL20, kL141, kL146, kA146, kS146, kL151, kA151, kS151, kL156, kA156, kS156, kC157, kG157, kP157, kR157_0, kR157_1, kL158, kA158, kS158, kL159, kA159, kS159, kC161, kG161, kP161, kR161_0, kR161_1, kL162, kA162, kS162, kL163, kA163, kS163, kC165, kG165, kP165, kR165_0, kR165_1, kR165_2, kR165_3, kL166, kA166, kS166, kL167, kA167, kS167, kL168, kA168, kS168, kL169, kA169, kS169, kC170, kG170, kP170, kR170_0, kR170_1, kR170_2, kL171, kA171, kS171, kL172, kA172, kS172, kL173, kA173, kS173, kC174, kG174, kP174, kR174_0, kR174_1, kR174_2, kR174_3, kR174_4, kL175, kA175, kS175, kL176, kA176, kS176, kL177, kA177, kS177, kL178, kA178, kS178, kL179, kC180, kG180, kP180, kL181, kL182, kA182, kS182, kC183, kG183, kP183, kR183_1, kR183_3, kR183_5, kR183_6, kR183_7, kR183_8, kR183_9, kR183_21, kR183_26, kR183_27, kR183_30, kR183_31, kR183_33, kR183_34, kR183_36, kR183_37, kR183_38, kR183_39, kR183_40, kR183_41, kR183_42, kR183_43, kR183_44, kL184, kA184, kS184, kL185, kA185, kS185, kL186, kA186, kS186, kL187, kA187, kS187, kL188, kA188, kS188, kL189, kL190, kL191, kA191, kS191, kL192, kA192, kS192, kL193, kA193, kS193, kL194, kA194, kS194, kL195, kA195, kS195, kL196, kA196, kS196, kL197, kA197, kS197, kL198, kA198, kS198, kL199, kA199, kS199, kL200, kA200, kS200, kL201, kL202, kA202, kS202, kL203, kA203, kS203, kL204, kA204, kS204, kL205, kL206, kA206, kS206, q0, w1, one0, v1, w2, q1, hy, v2]
        rw [nI_succ]
      · rw [(hU (T y) y2).2.2.1, y3]; exact ry
      · intro x h1
        rw [xup_at]
        by_cases z : x = y
        · rw [if_pos ⟨rfl, z⟩, z, wy, if_pos rfl]
          show nI (T (T y)) = nI (if y = y then T (T y) else T y)
          rw [if_pos rfl]
        · rw [if_neg (by omega), hJ x h1]
          show _ = if w x = true then nI (if x = y then T (T y) else T x) else -1
          rw [if_neg z]
theorem join_ok (hS : Shp σ) (hN : N ≤ 1024) (h : UFH J w r N) {a b : Nat} (ha : w a = true) (hb : w b = true) : ∃ J', f_X9_join (xw σ J) 174 (nI a) (nI b) = some (xw σ J') ∧ UFH J' w (fun x => if r x = r a then r b else r x) N ∧ (∀ c k, c ≠ 177 → ¬ (c = 174 ∧ k = 9) → J' c k = J c k) := by
  obtain ⟨J1, e1, h1, u1⟩ := rootOf_ok hS hN h ha
  obtain ⟨J2, e2, h2, u2⟩ := rootOf_ok hS hN h1 hb
  have h2' := h2
  obtain ⟨T, ρ, R, hJ, hU, hR, h9⟩ := h2'
  obtain ⟨a1, a2, a3, a4, a5, a6, a7, a8⟩ := hU a ha
  obtain ⟨b1, b2, b3, b4, b5, b6, b7, b8⟩ := hU b hb
  obtain ⟨p1, p2, p3, p4, p5, p6, p7, p8⟩ := hU _ a7
  obtain ⟨q1, q2, q3, q4, q5, q6, q7, q8⟩ := hU _ b7
  have qe : (nI (r a) = nI (r b)) = (r a = r b) := nn_eq (by omega) (by omega)
  have fr : ∀ c k, c ≠ 177 → J2 c k = J c k := fun c k hc => by rw [u2 c k hc, u1 c k hc]
  by_cases hab : r a = r b
  · have er : (fun x => if r x = r a then r b else r x) = r := by
      funext x
      by_cases z : r x = r a
      · rw [if_pos z, z, hab]
      · rw [if_neg z]
    rw [er]
    refine ⟨J2, ?_, h2, fun c k h1 h2 => fr c k h1⟩
    unfold f_X9_join
    rw [xw_ck, kC174 hS, Option.bind_some, e1, Option.bind_some]
    dsimp only
    rw [xw_ck, kC174 hS, Option.bind_some, e2, Option.bind_some]
    dsimp only
    rw [if_pos (by rw [hab])]
  · have hrc := rc_join hU ha hb hab
    have hpos := rc_pos hU ha
    have es : nI (rc w r) - (1 : Int32) = nI (rc w (fun x => if r x = r a then r b else r x)) := by
      rw [show (1 : Int32) = nI 1 from rfl, nn_sub (by omega), ← hrc, Nat.add_sub_cancel]
    refine ⟨xup (xup J2 177 (r a) (nI (r b))) 174 9 (nI (rc w (fun x => if r x = r a then r b else r x))), ?_, ⟨_, _, R + 1, ?_, UF_join hU ha hb hab, by omega, ?_⟩, fun c k h1 h2 => ?_⟩
    · unfold f_X9_join
      rw [xw_ck, kC174 hS, Option.bind_some, e1, Option.bind_some]
      dsimp only
      rw [xw_ck, kC174 hS, Option.bind_some, e2, Option.bind_some]
      dsimp only
      rw [if_neg (by rw [qe]; exact hab), isSt_ok p1, Option.bind_some, if_neg (by decide)]
      simp (disch := first | assumption | omega) only [Option.bind_some, Option.map_some, xw_gR, xw_gN, xw_al, xw_ck, xw_uI, xw_ur, xup_at, xur_at, if_true, if_false, reduceIte, and_true, true_and, and_false, false_and, not_true_eq_false, not_false_eq_true, Nat.reduceEqDiff, eq_self, Nat.reduceAdd, Nat.reduceMul, kC1, kG1, kP1, kR1_0, kR1_1, kR1_2, kR1_3, kR1_4, kR1_5, kR1_6, kR1_7, kR1_8, kR1_9, kR1_10, kR1_11, kR1_12, kR1_13, kC2, kG2, kP2, kR2_0, kR2_1, kC3, kG3, kP3, kR3_0, kR3_1, kR3_2, kR3_3, kL4, kA4, kS4, kL5, kA5, kS5, kL6, kA6, kS6, kL7, kA7, kS7, kC8, kG8, kP8, kR8_0, kR8_1, kL9, kA9, kS9, kL10, kA10, kS10, kC11, kG11, kP11, kR11_0, kR11_1, kR11_2, kR11_3, kL12, kA12, kS12, kL13, kA13, kS13, kL14, kA14, kS14, kL15, kA15, kS15, kC16, kG16, kP16, kR16_0, kR16_1, kL17, kA17, kS17, kL18, kA18, kS18, kC19, kG19, kP19, kR19_0, kL20, kL141, kL146, kA146, kS146, kL151, kA151, kS151, kL156, kA156, kS156, kC157, kG157, kP157, kR157_0, kR157_1, kL158, kA158, kS158, kL159, kA159, kS159, kC161, kG161, kP161, kR161_0, kR161_1, kL162, kA162, kS162, kL163, kA163, kS163, kC165, kG165, kP165, kR165_0, kR165_1, kR165_2, kR165_3, kL166, kA166, kS166, kL167, kA167, kS167, kL168, kA168, kS168, kL169, kA169, kS169, kC170, kG170, kP170, kR170_0, kR170_1, kR170_2, kL171, kA171, kS171, kL172, kA172, kS172, kL173, kA173, kS173, kC174, kG174, kP174, kR174_0, kR174_1, kR174_2, kR174_3, kR174_4, kL175, kA175, kS175, kL176, kA176, kS176, kL177, kA177, kS177, kL178, kA178, kS178, kL179, kC180, kG180, kP180, kL181, kL182, kA182, kS182, kC183, kG183, kP183, kR183_1, kR183_3, kR183_5, kR183_6, kR183_7, kR183_8, kR183_9, kR183_21, kR183_26, kR183_27, kR183_30, kR183_31, kR183_33, kR183_34, kR183_36, kR183_37, kR183_38, kR183_39, kR183_40, kR183_41, kR183_42, kR183_43, kR183_44, kL184, kA184, kS184, kL185, kA185, kS185, kL186, kA186, kS186, kL187, kA187, kS187, kL188, kA188, kS188, kL189, kL190, kL191, kA191, kS191, kL192, kA192, kS192, kL193, kA193, kS193, kL194, kA194, kS194, kL195, kA195, kS195, kL196, kA196, kS196, kL197, kA197, kS197, kL198, kA198, kS198, kL199, kA199, kS199, kL200, kA200, kS200, kL201, kL202, kA202, kS202, kL203, kA203, kS203, kL204, kA204, kS204, kL205, kL206, kA206, kS206, h9, es]
    · intro x h1
      rw [xup_at, if_neg (by omega), xup_at]
      by_cases z : x = r a
      · rw [if_pos ⟨rfl, z⟩, z, a7, if_pos rfl]
        show nI (r b) = nI (if r a = r a then r b else T (r a))
        rw [if_pos rfl]
      · rw [if_neg (by omega), hJ x h1]
        show _ = if w x = true then nI (if x = r a then r b else T x) else -1
        rw [if_neg z]
    · rw [xup_at, if_pos ⟨rfl, rfl⟩]
    · rw [xup_at, if_neg h2, xup_at, if_neg (by omega)]; exact fr c k h1
end FOREST
