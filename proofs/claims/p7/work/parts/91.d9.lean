/-! the water rises -/
def Sw (w : Nat → Bool) (S : Nat → Nat → Prop) (a b : Nat) : Prop := w a = true ∧ w b = true ∧ S a b
def wA (w : Nat → Bool) (b : Nat) : Nat → Bool := fun x => w x || decide (b = x)
def wt (o : Nat → Nat) : Nat → Nat → Bool
  | 0 => fun _ => false
  | i + 1 => wA (wt o i) (o i)
theorem wA_b (w : Nat → Bool) (b : Nat) : wA w b b = true := by unfold wA; simp
theorem wA_o {w : Nat → Bool} {b x : Nat} (h : w x = true) : wA w b x = true := by unfold wA; simp [h]
theorem wA_iff {w : Nat → Bool} {b x : Nat} : wA w b x = true ↔ w x = true ∨ b = x := by unfold wA; simp
theorem wt_iff {o : Nat → Nat} {x : Nat} : ∀ {i : Nat}, wt o i x = true ↔ ∃ j, j < i ∧ o j = x := by
  intro i
  induction i with
  | zero =>
    constructor
    · intro h; cases h
    · rintro ⟨j, hj, -⟩; omega
  | succ i ih =>
    show wA (wt o i) (o i) x = true ↔ _
    rw [wA_iff, ih]
    constructor
    · rintro (⟨j, h1, h2⟩ | h)
      · exact ⟨j, by omega, h2⟩
      · exact ⟨i, by omega, h⟩
    · rintro ⟨j, h1, h2⟩
      by_cases z : j = i
      · right; rw [← z]; exact h2
      · left; exact ⟨j, by omega, h2⟩
section RISE
variable {w : Nat → Bool} {S : Nat → Nat → Prop} {r : Nat → Nat}
theorem Sw_y (hSy : ∀ a b, S a b → S b a) (a b : Nat) (h : Sw w S a b) : Sw w S b a := ⟨h.2.1, h.1, hSy a b h.2.2⟩
theorem snd_join (hSy : ∀ a b, S a b → S b a) {a b : Nat} (h : ∀ x, w x = true → cn (Sw w S) x (r x)) (ha : w a = true) (hb : w b = true) (hab : S a b) : ∀ x, w x = true → cn (Sw w S) x (if r x = r a then r b else r x) := by
  intro x hw
  by_cases z : r x = r a
  · rw [if_pos z]
    have h1 := h x hw
    rw [z] at h1
    exact cn_t h1 (cn_t (cn_y (Sw_y hSy) (h a ha)) (cn_t (cn_s (cn_r _ _) ⟨ha, hb, hab⟩) (h b hb)))
  · rw [if_neg z]; exact h x hw
theorem rc_addN {b n : Nat} (hwb : w b = false) (hn : b < n) : fb_ct (fun x => wA w b x && decide ((if x = b then b else r x) = x)) n = fb_ct (fun x => w x && decide (r x = x)) n + 1 := by
  have up : fb_ct (fun k => if k = b then true else (w k && decide (r k = k))) n + (if (w b && decide (r b = b)) = true then 1 else 0) = fb_ct (fun x => w x && decide (r x = x)) n + (if true = true then 1 else 0) := fb_ct_upd (fun x => w x && decide (r x = x)) true hn
  rw [hwb, Bool.false_and, if_neg (show ¬ (false = true) by decide), if_pos rfl, Nat.add_zero] at up
  rw [← up]
  refine fb_ct_cong (fun k hk => ?_)
  by_cases z : k = b
  · rw [if_pos z, z, wA_b, if_pos rfl]; simp
  · rw [if_neg z, if_neg z]
    have : wA w b k = w k := by
      unfold wA
      rw [decide_eq_false (fun y => z y.symm), Bool.or_false]
    rw [this]
theorem UFH_add {J : Nat → Nat → Int32} {N : Nat} (h : UFH J w r N) {b : Nat} (hb : b < 1024) (hwb : w b = false) : UFH (xup (xup J 177 b (nI b)) 174 9 (nI (rc w r + 1))) (wA w b) (fun x => if x = b then b else r x) (N + 1) := by
  obtain ⟨T, ρ, R, hJ, hU, hR, h9⟩ := h
  have hrc : rc (wA w b) (fun x => if x = b then b else r x) = rc w r + 1 := rc_addN hwb hb
  have nb : ∀ x, w x = true → x ≠ b := fun x hw z => by rw [z, hwb] at hw; cases hw
  refine ⟨fun x => if x = b then b else T x, fun x => if x = b then 0 else ρ x, R, fun x h1 => ?_, fun x hw => ?_, by rw [hrc]; omega, by rw [hrc, xup_at, if_pos ⟨rfl, rfl⟩]⟩
  · rw [xup_at, if_neg (by omega), xup_at]
    by_cases z : x = b
    · rw [if_pos ⟨rfl, z⟩, z, wA_b, if_pos rfl]
      show nI b = nI (if b = b then b else T b)
      rw [if_pos rfl]
    · rw [if_neg (by omega), hJ x h1]
      have : wA w b x = w x := by
        unfold wA
        rw [decide_eq_false (fun y => z y.symm), Bool.or_false]
      rw [this]
      show _ = if w x = true then nI (if x = b then b else T x) else -1
      rw [if_neg z]
  · show x < 1024 ∧ wA w b (if x = b then b else T x) = true ∧ (if (if x = b then b else T x) = b then b else r (if x = b then b else T x)) = (if x = b then b else r x) ∧ ((if x = b then b else T x) = x ∨ (if x = b then 0 else ρ x) < (if (if x = b then b else T x) = b then 0 else ρ (if x = b then b else T x))) ∧ ((if x = b then b else T x) = x → (if x = b then b else r x) = x) ∧ (if x = b then 0 else ρ x) ≤ R ∧ wA w b (if x = b then b else r x) = true ∧ (if (if x = b then b else r x) = b then b else T (if x = b then b else r x)) = (if x = b then b else r x)
    by_cases z : x = b
    · rw [if_pos z, if_pos z, if_pos z, if_pos rfl, if_pos rfl]
      exact ⟨by omega, wA_b w b, rfl, .inl z.symm, fun _ => z.symm, Nat.zero_le _, wA_b w b, if_pos rfl⟩
    · have hw' : w x = true := by
        rcases wA_iff.mp hw with y | y
        · exact y
        · exact absurd y.symm z
      obtain ⟨x1, x2, x3, x4, x5, x6, x7, x8⟩ := hU x hw'
      have t1 := nb _ x2
      have t2 := nb _ x7
      rw [if_neg z, if_neg z, if_neg z, if_neg t1, if_neg t1, if_neg t2]
      exact ⟨x1, wA_o x2, x3, x4, x5, x6, wA_o x7, x8⟩
variable {σ : XS} {J : Nat → Nat → Int32} {g : GD} {F : Nat → Int32} {c m M N : Nat} {o : Nat → Nat}
theorem dry_ok (hS : Shp σ) : ∃ J', f_X9_dry (xw σ J) 174 = some (xw σ J') ∧ UFH J' (fun _ => false) (fun x => x) 0 ∧ ∀ a k, ¬ (176 ≤ a ∧ a ≤ 182) → ¬ (a = 174 ∧ k = 9) → J' a k = J a k := by
  have K : σ.1 177 = (20, 1024) := xw_K hS (by decide) (by decide) (by decide)
  have fi := fillI_ok (σ := σ) (I := J) (v := -1) K (by decide)
  have z0 : rc (fun _ => false) (fun x => x) = 0 := fb_ct_zero.mpr (fun k _ => rfl)
  refine ⟨xup (xur J 177 (fun j => if j < 1024 then -1 else J 177 j)) 174 9 0, ?_, ⟨fun x => x, fun _ => 0, 0, fun x h1 => ?_, (fun x hw => absurd hw Bool.false_ne_true), by rw [z0], ?_⟩, fun a k h1 h2 => ?_⟩
  · unfold f_X9_dry
    simp (disch := first | assumption | omega) only [Option.bind_some, Option.map_some, xw_gR, xw_gN, xw_al, xw_ck, xw_uI, xw_ur, xup_at, xur_at, if_true, if_false, reduceIte, and_true, true_and, and_false, false_and, not_true_eq_false, not_false_eq_true, Nat.reduceEqDiff, eq_self, Nat.reduceAdd, Nat.reduceMul, kC1, kG1, kP1, kR1_0, kR1_1, kR1_2, kR1_3, kR1_4, kR1_5, kR1_6, kR1_7, kR1_8, kR1_9, kR1_10, kR1_11, kR1_12, kR1_13, kC2, kG2, kP2, kR2_0, kR2_1, kC3, kG3, kP3, kR3_0, kR3_1, kR3_2, kR3_3, kL4, kA4, kS4, kL5, kA5, kS5, kL6, kA6, kS6, kL7, kA7, kS7, kC8, kG8, kP8, kR8_0, kR8_1, kL9, kA9, kS9, kL10, kA10, kS10, kC11, kG11, kP11, kR11_0, kR11_1, kR11_2, kR11_3, kL12, kA12, kS12, kL13, kA13, kS13, kL14, kA14, kS14, kL15, kA15, kS15, kC16, kG16, kP16, kR16_0, kR16_1, kL17, kA17, kS17, kL18, kA18, kS18, kC19, kG19, kP19, kR19_0, kL20, kL141, kL146, kA146, kS146, kL151, kA151, kS151, kL156, kA156, kS156, kC157, kG157, kP157, kR157_0, kR157_1, kL158, kA158, kS158, kL159, kA159, kS159, kC161, kG161, kP161, kR161_0, kR161_1, kL162, kA162, kS162, kL163, kA163, kS163, kC165, kG165, kP165, kR165_0, kR165_1, kR165_2, kR165_3, kL166, kA166, kS166, kL167, kA167, kS167, kL168, kA168, kS168, kL169, kA169, kS169, kC170, kG170, kP170, kR170_0, kR170_1, kR170_2, kL171, kA171, kS171, kL172, kA172, kS172, kL173, kA173, kS173, kC174, kG174, kP174, kR174_0, kR174_1, kR174_2, kR174_3, kR174_4, kL175, kA175, kS175, kL176, kA176, kS176, kL177, kA177, kS177, kL178, kA178, kS178, kL179, kC180, kG180, kP180, kL181, kL182, kA182, kS182, kC183, kG183, kP183, kR183_1, kR183_3, kR183_5, kR183_6, kR183_7, kR183_8, kR183_9, kR183_21, kR183_26, kR183_27, kR183_30, kR183_31, kR183_33, kR183_34, kR183_36, kR183_37, kR183_38, kR183_39, kR183_40, kR183_41, kR183_42, kR183_43, kR183_44, kL184, kA184, kS184, kL185, kA185, kS185, kL186, kA186, kS186, kL187, kA187, kS187, kL188, kA188, kS188, kL189, kL190, kL191, kA191, kS191, kL192, kA192, kS192, kL193, kA193, kS193, kL194, kA194, kS194, kL195, kA195, kS195, kL196, kA196, kS196, kL197, kA197, kS197, kL198, kA198, kS198, kL199, kA199, kS199, kL200, kA200, kS200, kL201, kL202, kA202, kS202, kL203, kA203, kS203, kL204, kA204, kS204, kL205, kL206, kA206, kS206, fi]
  · rw [xup_at, if_neg (by omega), xur_at, if_pos rfl, if_pos h1]
    exact (if_neg Bool.false_ne_true).symm
  · rw [z0, xup_at, if_pos ⟨rfl, rfl⟩]; rfl
  · rw [xup_at, if_neg h2, xur_at, if_neg (by omega)]
theorem flood_ok (hT : TC σ J g F c m) (hSy : ∀ a b, S a b → S b a) (hSa : ∀ a b, aj g F a b → S a b) (hN : N < 1024) (h : UFH J w r N) {b : Nat} (hb : b < gSt g) (hwb : w b = false) (sd : ∀ x, w x = true → cn (Sw w S) x (r x)) :
    ∃ J' r', f_X9_flood (xw σ J) 174 (nI b) = some (xw σ J') ∧ UFH J' (wA w b) r' (N + 1) ∧ (∀ a k, ¬ (176 ≤ a ∧ a ≤ 182) → ¬ (a = 174 ∧ k = 9) → J' a k = J a k) ∧ (∀ x, wA w b x = true → cn (Sw (wA w b) S) x (r' x)) ∧ (∀ x y, w x = true → w y = true → r x = r y → r' x = r' y) ∧ ∀ i, i < gSz g → F (48 + i) = 0 → wA w b (b ^^^ 2 ^ i) = true → r' b = r' (b ^^^ 2 ^ i) := by
  have hst := hT.st
  have hS := hT.1
  have h9 : J 174 9 = nI (rc w r) := by
    obtain ⟨T, ρ, R, hJ, hU, hR, h9⟩ := h
    exact h9
  have nb : ∀ x, w x = true → x ≠ b := fun x hw z => by rw [z, hwb] at hw; cases hw
  have key := xforI (f := f_X9_flood_b27 174 (nI b)) (fun i x => ∃ (J' : Nat → Nat → Int32) (r' : Nat → Nat), x = (nI i, xw σ J') ∧ UFH J' (wA w b) r' (N + 1) ∧ (∀ a k, ¬ (176 ≤ a ∧ a ≤ 182) → ¬ (a = 174 ∧ k = 9) → J' a k = J a k) ∧ (∀ x, wA w b x = true → cn (Sw (wA w b) S) x (r' x)) ∧ (∀ x y, w x = true → w y = true → r x = r y → r' x = r' y) ∧ ∀ j, j < i → F (48 + j) = 0 → wA w b (b ^^^ 2 ^ j) = true → r' b = r' (b ^^^ 2 ^ j)) (gSz g) (Q := fun q => ∃ (J' : Nat → Nat → Int32) (r' : Nat → Nat), q = xw σ J' ∧ UFH J' (wA w b) r' (N + 1) ∧ (∀ a k, ¬ (176 ≤ a ∧ a ≤ 182) → ¬ (a = 174 ∧ k = 9) → J' a k = J a k) ∧ (∀ x, wA w b x = true → cn (Sw (wA w b) S) x (r' x)) ∧ (∀ x y, w x = true → w y = true → r x = r y → r' x = r' y) ∧ ∀ j, j < gSz g → F (48 + j) = 0 → wA w b (b ^^^ 2 ^ j) = true → r' b = r' (b ^^^ 2 ^ j)) (a0 := ((0 : Int32), xw σ (xup (xup J 177 b (nI b)) 174 9 (nI (rc w r + 1))))) ⟨_, _, rfl, UFH_add h (by omega) hwb, fun a k h1 h2 => by rw [xup_at, if_neg h2, xup_at, if_neg (by omega)], fun x hw => ?_, fun x y hwx hwy e => ?_, fun j hj => absurd hj (Nat.not_lt_zero _)⟩ ?_ ?_
  · obtain ⟨q, e, J', r', rfl, rest⟩ := key
    refine ⟨J', r', ?_, rest⟩
    unfold f_X9_flood
    rw [isSt_ok (by omega), Option.bind_some, if_neg (by decide)]
    have hb' : b < 1024 := by omega
    simp (disch := first | assumption | omega) only [Option.bind_some, Option.map_some, xw_gR, xw_gN, xw_al, xw_ck, xw_uI, xw_ur, xup_at, xur_at, if_true, if_false, reduceIte, and_true, true_and, and_false, false_and, not_true_eq_false, not_false_eq_true, Nat.reduceEqDiff, eq_self, Nat.reduceAdd, Nat.reduceMul, kC1, kG1, kP1, kR1_0, kR1_1, kR1_2, kR1_3, kR1_4, kR1_5, kR1_6, kR1_7, kR1_8, kR1_9, kR1_10, kR1_11, kR1_12, kR1_13, kC2, kG2, kP2, kR2_0, kR2_1, kC3, kG3, kP3, kR3_0, kR3_1, kR3_2, kR3_3, kL4, kA4, kS4, kL5, kA5, kS5, kL6, kA6, kS6, kL7, kA7, kS7, kC8, kG8, kP8, kR8_0, kR8_1, kL9, kA9, kS9, kL10, kA10, kS10, kC11, kG11, kP11, kR11_0, kR11_1, kR11_2, kR11_3, kL12, kA12, kS12, kL13, kA13, kS13, kL14, kA14, kS14, kL15, kA15, kS15, kC16, kG16, kP16, kR16_0, kR16_1, kL17, kA17, kS17, kL18, kA18, kS18, kC19, kG19, kP19, kR19_0, kL20, kL141, kL146, kA146, kS146, kL151, kA151, kS151, kL156, kA156, kS156, kC157, kG157, kP157, kR157_0, kR157_1, kL158, kA158, kS158, kL159, kA159, kS159, kC161, kG161, kP161, kR161_0, kR161_1, kL162, kA162, kS162, kL163, kA163, kS163, kC165, kG165, kP165, kR165_0, kR165_1, kR165_2, kR165_3, kL166, kA166, kS166, kL167, kA167, kS167, kL168, kA168, kS168, kL169, kA169, kS169, kC170, kG170, kP170, kR170_0, kR170_1, kR170_2, kL171, kA171, kS171, kL172, kA172, kS172, kL173, kA173, kS173, kC174, kG174, kP174, kR174_0, kR174_1, kR174_2, kR174_3, kR174_4, kL175, kA175, kS175, kL176, kA176, kS176, kL177, kA177, kS177, kL178, kA178, kS178, kL179, kC180, kG180, kP180, kL181, kL182, kA182, kS182, kC183, kG183, kP183, kR183_1, kR183_3, kR183_5, kR183_6, kR183_7, kR183_8, kR183_9, kR183_21, kR183_26, kR183_27, kR183_30, kR183_31, kR183_33, kR183_34, kR183_36, kR183_37, kR183_38, kR183_39, kR183_40, kR183_41, kR183_42, kR183_43, kR183_44, kL184, kA184, kS184, kL185, kA185, kS185, kL186, kA186, kS186, kL187, kA187, kS187, kL188, kA188, kS188, kL189, kL190, kL191, kA191, kS191, kL192, kA192, kS192, kL193, kA193, kS193, kL194, kA194, kS194, kL195, kA195, kS195, kL196, kA196, kS196, kL197, kA197, kS197, kL198, kA198, kS198, kL199, kA199, kS199, kL200, kA200, kS200, kL201, kL202, kA202, kS202, kL203, kA203, kS203, kL204, kA204, kS204, kL205, kL206, kA206, kS206, h9]
    rw [← nI_succ]
    exact e
  · show cn (Sw (wA w b) S) x (if x = b then b else r x)
    by_cases z : x = b
    · rw [if_pos z, z]; exact cn_r _ _
    · rw [if_neg z]
      rcases wA_iff.mp hw with y | y
      · exact cn_m (fun p q ⟨h1, h2, h3⟩ => ⟨wA_o h1, wA_o h2, h3⟩) (sd x y)
      · exact absurd y.symm z
  · show (if x = b then b else r x) = (if y = b then b else r y)
    rw [if_neg (nb x hwx), if_neg (nb y hwy)]; exact e
  · rintro i x hi ⟨J', r', rfl, hU, u, sd', mo, fl⟩
    have hT' : TC σ J' g F c m := TC_c u hT
    have ct := tCan_ok hT' hi
    have j7 : J' 174 7 = nI (gSz g) := hT'.2.2.2.2.2.2.2.2.2
    have hnb := gSt_flip hb hi
    have h10 := hT.2.2.2.1
    have we := hU.wet hS (show b ^^^ 2 ^ i < 1024 by omega)
    by_cases hp : F (48 + i) = 0
    · rw [if_pos hp] at ct
      cases hw : wA w b (b ^^^ 2 ^ i) with
      | false =>
        rw [hw, if_neg (by decide)] at we
        refine ⟨(nI (i + 1), xw σ J'), ?_, J', r', rfl, hU, u, sd', mo, fun j hj h0 hwj => ?_⟩
        · simp only [f_X9_flood_b27]
          simp (disch := first | assumption | omega) only [Option.bind_some, Option.map_some, xw_gR, xw_gN, xw_al, xw_ck, xw_uI, xw_ur, xup_at, xur_at, if_true, if_false, reduceIte, and_true, true_and, and_false, false_and, not_true_eq_false, not_false_eq_true, Nat.reduceEqDiff, eq_self, Nat.reduceAdd, Nat.reduceMul, kC1, kG1, kP1, kR1_0, kR1_1, kR1_2, kR1_3, kR1_4, kR1_5, kR1_6, kR1_7, kR1_8, kR1_9, kR1_10, kR1_11, kR1_12, kR1_13, kC2, kG2, kP2, kR2_0, kR2_1, kC3, kG3, kP3, kR3_0, kR3_1, kR3_2, kR3_3, kL4, kA4, kS4, kL5, kA5, kS5, kL6, kA6, kS6, kL7, kA7, kS7, kC8, kG8, kP8, kR8_0, kR8_1, kL9, kA9, kS9, kL10, kA10, kS10, kC11, kG11, kP11, kR11_0, kR11_1, kR11_2, kR11_3, kL12, kA12, kS12, kL13, kA13, kS13, kL14, kA14, kS14, kL15, kA15, kS15, kC16, kG16, kP16, kR16_0, kR16_1, kL17, kA17, kS17, kL18, kA18, kS18, kC19, kG19, kP19, kR19_0, kL20, kL141, kL146, kA146, kS146, kL151, kA151, kS151, kL156, kA156, kS156, kC157, kG157, kP157, kR157_0, kR157_1, kL158, kA158, kS158, kL159, kA159, kS159, kC161, kG161, kP161, kR161_0, kR161_1, kL162, kA162, kS162, kL163, kA163, kS163, kC165, kG165, kP165, kR165_0, kR165_1, kR165_2, kR165_3, kL166, kA166, kS166, kL167, kA167, kS167, kL168, kA168, kS168, kL169, kA169, kS169, kC170, kG170, kP170, kR170_0, kR170_1, kR170_2, kL171, kA171, kS171, kL172, kA172, kS172, kL173, kA173, kS173, kC174, kG174, kP174, kR174_0, kR174_1, kR174_2, kR174_3, kR174_4, kL175, kA175, kS175, kL176, kA176, kS176, kL177, kA177, kS177, kL178, kA178, kS178, kL179, kC180, kG180, kP180, kL181, kL182, kA182, kS182, kC183, kG183, kP183, kR183_1, kR183_3, kR183_5, kR183_6, kR183_7, kR183_8, kR183_9, kR183_21, kR183_26, kR183_27, kR183_30, kR183_31, kR183_33, kR183_34, kR183_36, kR183_37, kR183_38, kR183_39, kR183_40, kR183_41, kR183_42, kR183_43, kR183_44, kL184, kA184, kS184, kL185, kA185, kS185, kL186, kA186, kS186, kL187, kA187, kS187, kL188, kA188, kS188, kL189, kL190, kL191, kA191, kS191, kL192, kA192, kS192, kL193, kA193, kS193, kL194, kA194, kS194, kL195, kA195, kS195, kL196, kA196, kS196, kL197, kA197, kS197, kL198, kA198, kS198, kL199, kA199, kS199, kL200, kA200, kS200, kL201, kL202, kA202, kS202, kL203, kA203, kS203, kL204, kA204, kS204, kL205, kL206, kA206, kS206, j7, nn_le, show ¬ (gSz g ≤ i) by omega, ct, one0, nn_one, nn_xor, we]
          rw [nI_succ]
        · by_cases z : j = i
          · rw [z, hw] at hwj; cases hwj
          · exact fl j (by omega) h0 hwj
      | true =>
        rw [hw, if_pos rfl] at we
        obtain ⟨J2, e2, h2, u2⟩ := join_ok hS (show N + 1 ≤ 1024 by omega) hU (wA_b w b) hw
        refine ⟨(nI (i + 1), xw σ J2), ?_, J2, _, rfl, h2, fun a k h1 h3 => by rw [u2 a k (by omega) h3]; exact u a k h1 h3, snd_join hSy sd' (wA_b w b) hw (hSa _ _ ⟨i, hi, hp, rfl⟩), fun x y hwx hwy e => ?_, fun j hj h0 hwj => ?_⟩
        · simp only [f_X9_flood_b27]
          simp (disch := first | assumption | omega) only [Option.bind_some, Option.map_some, xw_gR, xw_gN, xw_al, xw_ck, xw_uI, xw_ur, xup_at, xur_at, if_true, if_false, reduceIte, and_true, true_and, and_false, false_and, not_true_eq_false, not_false_eq_true, Nat.reduceEqDiff, eq_self, Nat.reduceAdd, Nat.reduceMul, kC1, kG1, kP1, kR1_0, kR1_1, kR1_2, kR1_3, kR1_4, kR1_5, kR1_6, kR1_7, kR1_8, kR1_9, kR1_10, kR1_11, kR1_12, kR1_13, kC2, kG2, kP2, kR2_0, kR2_1, kC3, kG3, kP3, kR3_0, kR3_1, kR3_2, kR3_3, kL4, kA4, kS4, kL5, kA5, kS5, kL6, kA6, kS6, kL7, kA7, kS7, kC8, kG8, kP8, kR8_0, kR8_1, kL9, kA9, kS9, kL10, kA10, kS10, kC11, kG11, kP11, kR11_0, kR11_1, kR11_2, kR11_3, kL12, kA12, kS12, kL13, kA13, kS13, kL14, kA14, kS14, kL15, kA15, kS15, kC16, kG16, kP16, kR16_0, kR16_1, kL17, kA17, kS17, kL18, kA18, kS18, kC19, kG19, kP19, kR19_0, kL20, kL141, kL146, kA146, kS146, kL151, kA151, kS151, kL156, kA156, kS156, kC157, kG157, kP157, kR157_0, kR157_1, kL158, kA158, kS158, kL159, kA159, kS159, kC161, kG161, kP161, kR161_0, kR161_1, kL162, kA162, kS162, kL163, kA163, kS163, kC165, kG165, kP165, kR165_0, kR165_1, kR165_2, kR165_3, kL166, kA166, kS166, kL167, kA167, kS167, kL168, kA168, kS168, kL169, kA169, kS169, kC170, kG170, kP170, kR170_0, kR170_1, kR170_2, kL171, kA171, kS171, kL172, kA172, kS172, kL173, kA173, kS173, kC174, kG174, kP174, kR174_0, kR174_1, kR174_2, kR174_3, kR174_4, kL175, kA175, kS175, kL176, kA176, kS176, kL177, kA177, kS177, kL178, kA178, kS178, kL179, kC180, kG180, kP180, kL181, kL182, kA182, kS182, kC183, kG183, kP183, kR183_1, kR183_3, kR183_5, kR183_6, kR183_7, kR183_8, kR183_9, kR183_21, kR183_26, kR183_27, kR183_30, kR183_31, kR183_33, kR183_34, kR183_36, kR183_37, kR183_38, kR183_39, kR183_40, kR183_41, kR183_42, kR183_43, kR183_44, kL184, kA184, kS184, kL185, kA185, kS185, kL186, kA186, kS186, kL187, kA187, kS187, kL188, kA188, kS188, kL189, kL190, kL191, kA191, kS191, kL192, kA192, kS192, kL193, kA193, kS193, kL194, kA194, kS194, kL195, kA195, kS195, kL196, kA196, kS196, kL197, kA197, kS197, kL198, kA198, kS198, kL199, kA199, kS199, kL200, kA200, kS200, kL201, kL202, kA202, kS202, kL203, kA203, kS203, kL204, kA204, kS204, kL205, kL206, kA206, kS206, j7, nn_le, show ¬ (gSz g ≤ i) by omega, ct, one0, nn_one, nn_xor, we, e2]
          rw [nI_succ]
        · show (if r' x = r' b then _ else r' x) = (if r' y = r' b then _ else r' y)
          rw [mo x y hwx hwy e]
        · show (if r' b = r' b then r' (b ^^^ 2 ^ i) else r' b) = (if r' (b ^^^ 2 ^ j) = r' b then r' (b ^^^ 2 ^ i) else r' (b ^^^ 2 ^ j))
          rw [if_pos rfl]
          by_cases z : j = i
          · rw [z]
            split <;> rfl
          · rw [if_pos (fl j (by omega) h0 hwj).symm]
    · rw [if_neg hp] at ct
      refine ⟨(nI (i + 1), xw σ J'), ?_, J', r', rfl, hU, u, sd', mo, fun j hj h0 hwj => ?_⟩
      · simp only [f_X9_flood_b27]
        simp (disch := first | assumption | omega) only [Option.bind_some, Option.map_some, xw_gR, xw_gN, xw_al, xw_ck, xw_uI, xw_ur, xup_at, xur_at, if_true, if_false, reduceIte, and_true, true_and, and_false, false_and, not_true_eq_false, not_false_eq_true, Nat.reduceEqDiff, eq_self, Nat.reduceAdd, Nat.reduceMul, kC1, kG1, kP1, kR1_0, kR1_1, kR1_2, kR1_3, kR1_4, kR1_5, kR1_6, kR1_7, kR1_8, kR1_9, kR1_10, kR1_11, kR1_12, kR1_13, kC2, kG2, kP2, kR2_0, kR2_1, kC3, kG3, kP3, kR3_0, kR3_1, kR3_2, kR3_3, kL4, kA4, kS4, kL5, kA5, kS5, kL6, kA6, kS6, kL7, kA7, kS7, kC8, kG8, kP8, kR8_0, kR8_1, kL9, kA9, kS9, kL10, kA10, kS10, kC11, kG11, kP11, kR11_0, kR11_1, kR11_2, kR11_3, kL12, kA12, kS12, kL13, kA13, kS13, kL14, kA14, kS14, kL15, kA15, kS15, kC16, kG16, kP16, kR16_0, kR16_1, kL17, kA17, kS17, kL18, kA18, kS18, kC19, kG19, kP19, kR19_0, kL20, kL141, kL146, kA146, kS146, kL151, kA151, kS151, kL156, kA156, kS156, kC157, kG157, kP157, kR157_0, kR157_1, kL158, kA158, kS158, kL159, kA159, kS159, kC161, kG161, kP161, kR161_0, kR161_1, kL162, kA162, kS162, kL163, kA163, kS163, kC165, kG165, kP165, kR165_0, kR165_1, kR165_2, kR165_3, kL166, kA166, kS166, kL167, kA167, kS167, kL168, kA168, kS168, kL169, kA169, kS169, kC170, kG170, kP170, kR170_0, kR170_1, kR170_2, kL171, kA171, kS171, kL172, kA172, kS172, kL173, kA173, kS173, kC174, kG174, kP174, kR174_0, kR174_1, kR174_2, kR174_3, kR174_4, kL175, kA175, kS175, kL176, kA176, kS176, kL177, kA177, kS177, kL178, kA178, kS178, kL179, kC180, kG180, kP180, kL181, kL182, kA182, kS182, kC183, kG183, kP183, kR183_1, kR183_3, kR183_5, kR183_6, kR183_7, kR183_8, kR183_9, kR183_21, kR183_26, kR183_27, kR183_30, kR183_31, kR183_33, kR183_34, kR183_36, kR183_37, kR183_38, kR183_39, kR183_40, kR183_41, kR183_42, kR183_43, kR183_44, kL184, kA184, kS184, kL185, kA185, kS185, kL186, kA186, kS186, kL187, kA187, kS187, kL188, kA188, kS188, kL189, kL190, kL191, kA191, kS191, kL192, kA192, kS192, kL193, kA193, kS193, kL194, kA194, kS194, kL195, kA195, kS195, kL196, kA196, kS196, kL197, kA197, kS197, kL198, kA198, kS198, kL199, kA199, kS199, kL200, kA200, kS200, kL201, kL202, kA202, kS202, kL203, kA203, kS203, kL204, kA204, kS204, kL205, kL206, kA206, kS206, j7, nn_le, show ¬ (gSz g ≤ i) by omega, ct]
        rw [nI_succ]
      · by_cases z : j = i
        · rw [z] at h0; exact absurd h0 hp
        · exact fl j (by omega) h0 hwj
  · rintro x ⟨J', r', rfl, hU, u, rest⟩
    refine ⟨xw σ J', ?_, J', r', rfl, hU, u, rest⟩
    have hT' : TC σ J' g F c m := TC_c u hT
    have j7 : J' 174 7 = nI (gSz g) := hT'.2.2.2.2.2.2.2.2.2
    have h10 := hT.2.2.2.1
    simp only [f_X9_flood_b27]
    simp (disch := first | assumption | omega) only [Option.bind_some, Option.map_some, xw_gR, xw_gN, xw_al, xw_ck, xw_uI, xw_ur, xup_at, xur_at, if_true, if_false, reduceIte, and_true, true_and, and_false, false_and, not_true_eq_false, not_false_eq_true, Nat.reduceEqDiff, eq_self, Nat.reduceAdd, Nat.reduceMul, kC1, kG1, kP1, kR1_0, kR1_1, kR1_2, kR1_3, kR1_4, kR1_5, kR1_6, kR1_7, kR1_8, kR1_9, kR1_10, kR1_11, kR1_12, kR1_13, kC2, kG2, kP2, kR2_0, kR2_1, kC3, kG3, kP3, kR3_0, kR3_1, kR3_2, kR3_3, kL4, kA4, kS4, kL5, kA5, kS5, kL6, kA6, kS6, kL7, kA7, kS7, kC8, kG8, kP8, kR8_0, kR8_1, kL9, kA9, kS9, kL10, kA10, kS10, kC11, kG11, kP11, kR11_0, kR11_1, kR11_2, kR11_3, kL12, kA12, kS12, kL13, kA13, kS13, kL14, kA14, kS14, kL15, kA15, kS15, kC16, kG16, kP16, kR16_0, kR16_1, kL17, kA17, kS17, kL18, kA18, kS18, kC19, kG19, kP19, kR19_0, kL20, kL141, kL146, kA146, kS146, kL151, kA151, kS151, kL156, kA156, kS156, kC157, kG157, kP157, kR157_0, kR157_1, kL158, kA158, kS158, kL159, kA159, kS159, kC161, kG161, kP161, kR161_0, kR161_1, kL162, kA162, kS162, kL163, kA163, kS163, kC165, kG165, kP165, kR165_0, kR165_1, kR165_2, kR165_3, kL166, kA166, kS166, kL167, kA167, kS167, kL168, kA168, kS168, kL169, kA169, kS169, kC170, kG170, kP170, kR170_0, kR170_1, kR170_2, kL171, kA171, kS171, kL172, kA172, kS172, kL173, kA173, kS173, kC174, kG174, kP174, kR174_0, kR174_1, kR174_2, kR174_3, kR174_4, kL175, kA175, kS175, kL176, kA176, kS176, kL177, kA177, kS177, kL178, kA178, kS178, kL179, kC180, kG180, kP180, kL181, kL182, kA182, kS182, kC183, kG183, kP183, kR183_1, kR183_3, kR183_5, kR183_6, kR183_7, kR183_8, kR183_9, kR183_21, kR183_26, kR183_27, kR183_30, kR183_31, kR183_33, kR183_34, kR183_36, kR183_37, kR183_38, kR183_39, kR183_40, kR183_41, kR183_42, kR183_43, kR183_44, kL184, kA184, kS184, kL185, kA185, kS185, kL186, kA186, kS186, kL187, kA187, kS187, kL188, kA188, kS188, kL189, kL190, kL191, kA191, kS191, kL192, kA192, kS192, kL193, kA193, kS193, kL194, kA194, kS194, kL195, kA195, kS195, kL196, kA196, kS196, kL197, kA197, kS197, kL198, kA198, kS198, kL199, kA199, kS199, kL200, kA200, kS200, kL201, kL202, kA202, kS202, kL203, kA203, kS203, kL204, kA204, kS204, kL205, kL206, kA206, kS206, j7, nn_le, Nat.le_refl]
end RISE
