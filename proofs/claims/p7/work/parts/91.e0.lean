/-! where two lakes meet; how many lakes there are -/
section MEET
variable {σ : XS} {J : Nat → Nat → Int32} {g : GD} {F : Nat → Int32} {c m M : Nat} {o : Nat → Nat} {Q : Nat → Prop}
def sQ (g : GD) (F : Nat → Int32) (Q : Nat → Prop) (a b : Nat) : Prop := aj g F a b ∨ (Q a ∧ Q b)
theorem sQ_y (a b : Nat) (h : sQ g F Q a b) : sQ g F Q b a := by
  rcases h with h | h
  · exact .inl (aj_y h)
  · exact .inr ⟨h.2, h.1⟩
theorem wt_new (hO : TO J g F M o) {i : Nat} (hi : i < M) : wt o i (o i) = false := by
  cases h : wt o i (o i) with
  | false => rfl
  | true =>
    obtain ⟨j, h1, h2⟩ := wt_iff.mp h
    exact absurd h2 (hO.2.2.2.1 j i h1 hi).2
/-- what is known once i states are under water -/
def RS (J0 J : Nat → Nat → Int32) (g : GD) (F : Nat → Int32) (o : Nat → Nat) (Q : Nat → Prop) (i : Nat) (r : Nat → Nat) : Prop := UFH J (wt o i) r i ∧ (∀ a k, ¬ (176 ≤ a ∧ a ≤ 182) → ¬ (a = 174 ∧ k = 9) → J a k = J0 a k) ∧ (∀ x, wt o i x = true → cn (Sw (wt o i) (sQ g F Q)) x (r x)) ∧ ∀ x y, wt o i x = true → wt o i y = true → sQ g F Q x y → r x = r y
theorem flood_s (hT : TC σ J g F c m) (hO : TO J g F M o) {J' : Nat → Nat → Int32} {r : Nat → Nat} {i : Nat} (hi : i < M) (h : RS J J' g F o Q i r) :
    ∃ J2 r', f_X9_flood (xw σ J') 174 (nI (o i)) = some (xw σ J2) ∧ UFH J2 (wt o (i + 1)) r' (i + 1) ∧ (∀ a k, ¬ (176 ≤ a ∧ a ≤ 182) → ¬ (a = 174 ∧ k = 9) → J2 a k = J a k) ∧ (∀ x, wt o (i + 1) x = true → cn (Sw (wt o (i + 1)) (sQ g F Q)) x (r' x)) ∧ (∀ x y, wt o i x = true → wt o i y = true → sQ g F Q x y → r' x = r' y) ∧ ∀ x y, wt o (i + 1) x = true → wt o (i + 1) y = true → aj g F x y → r' x = r' y := by
  obtain ⟨h1, h2, h3, h4⟩ := h
  have hM := hO.1
  obtain ⟨J2, r', e, a1, a2, a3, a4, a5⟩ := flood_ok (TC_c h2 hT) (S := sQ g F Q) sQ_y (fun a b z => .inl z) (show i < 1024 by omega) h1 (hO.2.2.1 i hi).2.1 (wt_new hO hi) h3
  refine ⟨J2, r', e, a1, fun a k z1 z2 => by rw [a2 a k z1 z2]; exact h2 a k z1 z2, a3, fun x y hx1 hy1 hs => a4 x y hx1 hy1 (h4 x y hx1 hy1 hs), fun x y hx1 hy1 hs => ?_⟩
  have nw : ∀ y, wt o (i + 1) y = true → aj g F (o i) y → r' (o i) = r' y := by
    rintro y hy ⟨j, j1, j2, rfl⟩
    exact a5 j j1 j2 hy
  rcases wA_iff.mp (show wA (wt o i) (o i) x = true from hx1) with z | z
  · rcases wA_iff.mp (show wA (wt o i) (o i) y = true from hy1) with v | v
    · exact a4 x y z v (h4 x y z v (.inl hs))
    · rw [← v] at hs ⊢
      exact (nw x hx1 (aj_y hs)).symm
  · rw [← z] at hs ⊢
    exact nw y hy1 hs
def met (g : GD) (F : Nat → Int32) (o : Nat → Nat) (Q : Nat → Prop) (i one other : Nat) : Prop := wt o i one = true ∧ wt o i other = true ∧ cn (Sw (wt o i) (sQ g F Q)) one other
theorem met_iff {J0 : Nat → Nat → Int32} {r : Nat → Nat} {i one other : Nat} (h : RS J0 J g F o Q i r) (h1 : wt o i one = true) (h2 : wt o i other = true) : r one = r other ↔ met g F o Q i one other := by
  obtain ⟨a1, a2, a3, a4⟩ := h
  constructor
  · intro e
    have q := a3 one h1
    rw [e] at q
    exact ⟨h1, h2, cn_t q (cn_y (Sw_y sQ_y) (a3 other h2))⟩
  · rintro ⟨-, -, q⟩
    exact q (fun x => r one = r x) rfl (fun a b p ⟨s1, s2, s3⟩ => p.trans (a4 a b s1 s2 s3))
theorem j70_ok (hT : TC σ J g F c m) (hO : TO J g F M o) {J' : Nat → Nat → Int32} {r : Nat → Nat} {i one other : Nat} (hi : i < M) (h : RS J J' g F o Q (i + 1) r) (x3 : Int32) (h1 : one < 1024) (h2 : other < 1024) :
    ∃ J2, RS J J2 g F o Q (i + 1) r ∧ ((met g F o Q (i + 1) one other ∧ f_X9_meetingEnergy_j70 (xw σ J') 174 (nI one) (nI other) x3 (nI i) (nI (o i)) = some (.inr (iI (eE g (zR F) (o i)), xw σ J2))) ∨ (¬ met g F o Q (i + 1) one other ∧ f_X9_meetingEnergy_j70 (xw σ J') 174 (nI one) (nI other) x3 (nI i) (nI (o i)) = some (.inl (nI (i + 1), xw σ J2)))) := by
  have hM := hO.1
  have hS := hT.1
  obtain ⟨b1, b2, b3, b4⟩ := id h
  have we1 := b1.wet hS h1
  have we2 := b1.wet hS h2
  have st : f_X9_meetingEnergy_j70 (xw σ J') 174 (nI one) (nI other) x3 (nI i) (nI (o i)) = if wt o (i + 1) one = true ∧ wt o (i + 1) other = true then (xck (xw σ J') 174 9).bind fun _ => (f_X9_rootOf (xw σ J') 174 (nI one)).bind fun (v10, σ9) => (xck σ9 174 9).bind fun _ => (f_X9_rootOf σ9 174 (nI other)).bind fun (v14, σ13) => if v10 = v14 then (((xck σ13 174 9).bind fun _ => (f_X9_energyOf σ13 174 (nI (o i))).bind fun v17 => some (v17, σ13)).map .inr) else some (.inl (nI i + (1 : Int32), σ13)) else some (.inl (nI (i + 1), xw σ J')) := by
    unfold f_X9_meetingEnergy_j70
    rw [xw_ck, kC174 hS, Option.bind_some, we1, Option.bind_some]
    cases hw1 : wt o (i + 1) one with
    | false => simp [nI_succ]
    | true =>
      rw [if_pos rfl, if_neg (by decide), Option.bind_some, we2, Option.bind_some]
      cases hw2 : wt o (i + 1) other with
      | false => simp [nI_succ]
      | true => simp
  rw [st]
  by_cases hw : wt o (i + 1) one = true ∧ wt o (i + 1) other = true
  · rw [if_pos hw]
    obtain ⟨J1, e1, c1, u1⟩ := rootOf_ok hS (show i + 1 ≤ 1024 by omega) b1 hw.1
    obtain ⟨J2, e2, c2, u2⟩ := rootOf_ok hS (show i + 1 ≤ 1024 by omega) c1 hw.2
    have u : ∀ a k, ¬ (176 ≤ a ∧ a ≤ 182) → ¬ (a = 174 ∧ k = 9) → J2 a k = J a k := fun a k z1 z2 => by rw [u2 a k (by omega), u1 a k (by omega)]; exact b2 a k z1 z2
    have hR : RS J J2 g F o Q (i + 1) r := ⟨c2, u, b3, b4⟩
    refine ⟨J2, hR, ?_⟩
    obtain ⟨T, ρ, R, hJ, hU, -⟩ := c2
    have l1 := (hU _ (hU _ hw.1).2.2.2.2.2.2.1).1
    have l2 := (hU _ (hU _ hw.2).2.2.2.2.2.2.1).1
    have qe : (nI (r one) = nI (r other)) = (r one = r other) := nn_eq (by omega) (by omega)
    have en := tEn_ok (TC_c u hT) (gSt_pos (hO.2.2.1 i hi).2.1).2
    rw [xw_ck, kC174 hS, Option.bind_some, e1, Option.bind_some]
    dsimp only
    rw [xw_ck, kC174 hS, Option.bind_some, e2, Option.bind_some]
    dsimp only
    by_cases e : r one = r other
    · left
      refine ⟨(met_iff hR hw.1 hw.2).mp e, ?_⟩
      rw [if_pos (by rw [e]), xw_ck, kC174 hS, Option.bind_some, en, Option.bind_some]
      rfl
    · right
      refine ⟨fun z => e ((met_iff hR hw.1 hw.2).mpr z), ?_⟩
      rw [if_neg (by rw [qe]; exact e), nI_succ]
  · rw [if_neg hw]
    exact ⟨J', h, .inr ⟨fun z => hw ⟨z.1, z.2.1⟩, rfl⟩⟩
theorem met_M (hO : TO J g F M o) {one other : Nat} (h1 : lwS g F one) (h2 : lwS g F other) : met g F o Q M one other := by
  have hw : ∀ x, lwS g F x → wt o M x = true := fun x hl => wt_iff.mpr (hO.2.2.2.2 x hl.1 hl.2)
  exact ⟨hw _ h1, hw _ h2, cn_m (fun a b ⟨z1, z2, z3⟩ => ⟨hw a z1, hw b z2, .inl z3⟩) (cn_all h1 h2)⟩
/-- the loop, whatever the body does between the flood and the look -/
theorem meet_l (hT : TC σ J g F c m) (hO : TO J g F M o) {one other : Nat} {x3 : Int32} (h1 : lwS g F one) (h2 : lwS g F other)
    (hb : ∀ i J' r, i < M → RS J J' g F o Q i r → ∃ J2 r', f_X9_meetingEnergy_b7 174 (nI one) (nI other) x3 (nI i, xw σ J') = f_X9_meetingEnergy_j70 (xw σ J2) 174 (nI one) (nI other) x3 (nI i) (nI (o i)) ∧ RS J J2 g F o Q (i + 1) r') :
    ∃ i J', i < M ∧ f_X9_meetingEnergy (xw σ J) 174 (nI one) (nI other) x3 = some (iI (eE g (zR F) (o i)), xw σ J') ∧ met g F o Q (i + 1) one other ∧ ¬ met g F o Q i one other ∧ ∀ a k, ¬ (176 ≤ a ∧ a ≤ 182) → ¬ (a = 174 ∧ k = 9) → J' a k = J a k := by
  have hst := hT.st
  have hS := hT.1
  have hM := hO.1
  obtain ⟨J0, e0, d0, u0⟩ := dry_ok (σ := σ) (J := J) hS
  have key := xloop_run (f := f_X9_meetingEnergy_b7 174 (nI one) (nI other) x3) (fun k a => ∃ (i : Nat) (J' : Nat → Nat → Int32) (r : Nat → Nat), a = (nI i, xw σ J') ∧ k = M - i ∧ i ≤ M ∧ RS J J' g F o Q i r ∧ ¬ met g F o Q i one other) (fun b => ∃ (i : Nat) (J' : Nat → Nat → Int32), i < M ∧ b = (iI (eE g (zR F) (o i)), xw σ J') ∧ met g F o Q (i + 1) one other ∧ ¬ met g F o Q i one other ∧ ∀ a k, ¬ (176 ≤ a ∧ a ≤ 182) → ¬ (a = 174 ∧ k = 9) → J' a k = J a k) ?_ (M - 0) ((0 : Int32), xw σ J0) ⟨0, J0, fun x => x, rfl, rfl, Nat.zero_le _, ⟨d0, u0, fun x hw => absurd hw Bool.false_ne_true, fun x y hw => absurd hw Bool.false_ne_true⟩, fun z => absurd z.1 Bool.false_ne_true⟩
  · obtain ⟨b, e, i, J', i1, rfl, rest⟩ := key
    refine ⟨i, J', i1, ?_, rest⟩
    unfold f_X9_meetingEnergy
    rw [xw_ck, kC174 hS, Option.bind_some, e0, Option.bind_some]
    exact e
  · rintro k a ⟨i, J', r, rfl, rfl, hi, hR, hn⟩
    by_cases him : i = M
    · rw [him] at hn
      exact absurd (met_M hO h1 h2) hn
    · have hi' : i < M := by omega
      obtain ⟨J2, r', e2, R2⟩ := hb i J' r hi' hR
      obtain ⟨J3, R3, h3⟩ := j70_ok hT hO hi' R2 x3 (show one < 1024 by have := h1.1; omega) (show other < 1024 by have := h2.1; omega)
      rcases h3 with ⟨q1, q2⟩ | ⟨q1, q2⟩
      · left
        exact ⟨_, e2.trans q2, i, J3, hi', rfl, q1, hn, R3.2.1⟩
      · right
        exact ⟨M - (i + 1), _, by omega, e2.trans q2, i + 1, J3, r', rfl, rfl, by omega, R3, q1⟩
theorem meetP_ok (hT : TC σ J g F c m) (hO : TO J g F M o) {one other : Nat} (h1 : lwS g F one) (h2 : lwS g F other) :
    ∃ i J', i < M ∧ f_X9_meetingEnergy (xw σ J) 174 (nI one) (nI other) 0 = some (iI (eE g (zR F) (o i)), xw σ J') ∧ met g F o (fun x => x = other) (i + 1) one other ∧ ¬ met g F o (fun x => x = other) i one other ∧ ∀ a k, ¬ (176 ≤ a ∧ a ≤ 182) → ¬ (a = 174 ∧ k = 9) → J' a k = J a k := by
  refine meet_l hT hO h1 h2 (fun i J' r hi hR => ?_)
  have hM := hO.1
  have hS := hT.1
  obtain ⟨J2, r', e, a1, a2, a3, a4, a5⟩ := flood_s hT hO hi hR
  have v8 : J' 174 8 = nI M := by rw [hR.2.1 _ _ (by omega) (by omega)]; exact hO.2.1
  have v5 : J' 175 i = nI (o i) := by rw [hR.2.1 _ _ (by omega) (by omega)]; exact (hO.2.2.1 i hi).1
  refine ⟨J2, r', ?_, a1, a2, a3, fun x y hx1 hy1 hs => ?_⟩
  · have q1 : (nI M ≤ nI i) = False := by rw [nn_le (by omega) (by omega)]; exact eq_false (by omega)
    have q2 : ((1024 : Int32) ≤ nI i) = False := by rw [show (1024 : Int32) = nI 1024 from rfl, nn_le (by omega) (by omega)]; exact eq_false (by omega)
    have hi' : i < 1024 := by omega
    simp only [f_X9_meetingEnergy_b7]
    simp (disch := first | assumption | omega) only [Option.bind_some, Option.map_some, xw_gR, xw_gN, xw_al, xw_ck, xw_uI, xw_ur, xup_at, xur_at, if_true, if_false, reduceIte, and_true, true_and, and_false, false_and, not_true_eq_false, not_false_eq_true, Nat.reduceEqDiff, eq_self, Nat.reduceAdd, Nat.reduceMul, kC1, kG1, kP1, kR1_0, kR1_1, kR1_2, kR1_3, kR1_4, kR1_5, kR1_6, kR1_7, kR1_8, kR1_9, kR1_10, kR1_11, kR1_12, kR1_13, kC2, kG2, kP2, kR2_0, kR2_1, kC3, kG3, kP3, kR3_0, kR3_1, kR3_2, kR3_3, kL4, kA4, kS4, kL5, kA5, kS5, kL6, kA6, kS6, kL7, kA7, kS7, kC8, kG8, kP8, kR8_0, kR8_1, kL9, kA9, kS9, kL10, kA10, kS10, kC11, kG11, kP11, kR11_0, kR11_1, kR11_2, kR11_3, kL12, kA12, kS12, kL13, kA13, kS13, kL14, kA14, kS14, kL15, kA15, kS15, kC16, kG16, kP16, kR16_0, kR16_1, kL17, kA17, kS17, kL18, kA18, kS18, kC19, kG19, kP19, kR19_0, kL20, kL141, kL146, kA146, kS146, kL151, kA151, kS151, kL156, kA156, kS156, kC157, kG157, kP157, kR157_0, kR157_1, kL158, kA158, kS158, kL159, kA159, kS159, kC161, kG161, kP161, kR161_0, kR161_1, kL162, kA162, kS162, kL163, kA163, kS163, kC165, kG165, kP165, kR165_0, kR165_1, kR165_2, kR165_3, kL166, kA166, kS166, kL167, kA167, kS167, kL168, kA168, kS168, kL169, kA169, kS169, kC170, kG170, kP170, kR170_0, kR170_1, kR170_2, kL171, kA171, kS171, kL172, kA172, kS172, kL173, kA173, kS173, kC174, kG174, kP174, kR174_0, kR174_1, kR174_2, kR174_3, kR174_4, kL175, kA175, kS175, kL176, kA176, kS176, kL177, kA177, kS177, kL178, kA178, kS178, kL179, kC180, kG180, kP180, kL181, kL182, kA182, kS182, kC183, kG183, kP183, kR183_1, kR183_3, kR183_5, kR183_6, kR183_7, kR183_8, kR183_9, kR183_21, kR183_26, kR183_27, kR183_30, kR183_31, kR183_33, kR183_34, kR183_36, kR183_37, kR183_38, kR183_39, kR183_40, kR183_41, kR183_42, kR183_43, kR183_44, kL184, kA184, kS184, kL185, kA185, kS185, kL186, kA186, kS186, kL187, kA187, kS187, kL188, kA188, kS188, kL189, kL190, kL191, kA191, kS191, kL192, kA192, kS192, kL193, kA193, kS193, kL194, kA194, kS194, kL195, kA195, kS195, kL196, kA196, kS196, kL197, kA197, kS197, kL198, kA198, kS198, kL199, kA199, kS199, kL200, kA200, kS200, kL201, kL202, kA202, kS202, kL203, kA203, kS203, kL204, kA204, kS204, kL205, kL206, kA206, kS206, v8, q1, q2, v5, e]
  · rcases hs with z | ⟨z1, z2⟩
    · exact a5 x y hx1 hy1 z
    · rw [show x = other from z1, show y = other from z2]
theorem meetH_ok (hT : TC σ J g F c m) (hO : TO J g F M o) {one : Nat} (h1 : lwS g F one) (hM0 : 0 < M) :
    ∃ i J', i < M ∧ f_X9_meetingEnergy (xw σ J) 174 (nI one) (nI (o 0)) 1 = some (iI (eE g (zR F) (o i)), xw σ J') ∧ met g F o (fun x => eE g (zR F) x = eE g (zR F) (o 0)) (i + 1) one (o 0) ∧ ¬ met g F o (fun x => eE g (zR F) x = eE g (zR F) (o 0)) i one (o 0) ∧ ∀ a k, ¬ (176 ≤ a ∧ a ≤ 182) → ¬ (a = 174 ∧ k = 9) → J' a k = J a k := by
  refine meet_l hT hO h1 (hO.2.2.1 0 hM0).2 (fun i J' r hi hR => ?_)
  have hM := hO.1
  have hS := hT.1
  have hg := hT.2.1
  have ho := hT.2.2.1
  obtain ⟨J2, r', e, a1, a2, a3, a4, a5⟩ := flood_s hT hO hi hR
  have v8 : J' 174 8 = nI M := by rw [hR.2.1 _ _ (by omega) (by omega)]; exact hO.2.1
  have v5 : J' 175 i = nI (o i) := by rw [hR.2.1 _ _ (by omega) (by omega)]; exact (hO.2.2.1 i hi).1
  have v0 : J2 175 0 = nI (o 0) := by rw [a2 _ _ (by omega) (by omega)]; exact (hO.2.2.1 0 hM0).1
  have low : f_X9_lowest (xw σ J2) 174 = some (nI (o 0)) := by
    unfold f_X9_lowest
    have z0 : xaI (xw σ J2) 20 175 (0 : Int32) = some (J2 175 0) := kA175 hS (i := 0) (by decide)
    simp (disch := first | assumption | omega) only [Option.bind_some, Option.map_some, xw_gR, xw_gN, xw_al, xw_ck, xw_uI, xw_ur, xup_at, xur_at, if_true, if_false, reduceIte, and_true, true_and, and_false, false_and, not_true_eq_false, not_false_eq_true, Nat.reduceEqDiff, eq_self, Nat.reduceAdd, Nat.reduceMul, kC1, kG1, kP1, kR1_0, kR1_1, kR1_2, kR1_3, kR1_4, kR1_5, kR1_6, kR1_7, kR1_8, kR1_9, kR1_10, kR1_11, kR1_12, kR1_13, kC2, kG2, kP2, kR2_0, kR2_1, kC3, kG3, kP3, kR3_0, kR3_1, kR3_2, kR3_3, kL4, kA4, kS4, kL5, kA5, kS5, kL6, kA6, kS6, kL7, kA7, kS7, kC8, kG8, kP8, kR8_0, kR8_1, kL9, kA9, kS9, kL10, kA10, kS10, kC11, kG11, kP11, kR11_0, kR11_1, kR11_2, kR11_3, kL12, kA12, kS12, kL13, kA13, kS13, kL14, kA14, kS14, kL15, kA15, kS15, kC16, kG16, kP16, kR16_0, kR16_1, kL17, kA17, kS17, kL18, kA18, kS18, kC19, kG19, kP19, kR19_0, kL20, kL141, kL146, kA146, kS146, kL151, kA151, kS151, kL156, kA156, kS156, kC157, kG157, kP157, kR157_0, kR157_1, kL158, kA158, kS158, kL159, kA159, kS159, kC161, kG161, kP161, kR161_0, kR161_1, kL162, kA162, kS162, kL163, kA163, kS163, kC165, kG165, kP165, kR165_0, kR165_1, kR165_2, kR165_3, kL166, kA166, kS166, kL167, kA167, kS167, kL168, kA168, kS168, kL169, kA169, kS169, kC170, kG170, kP170, kR170_0, kR170_1, kR170_2, kL171, kA171, kS171, kL172, kA172, kS172, kL173, kA173, kS173, kC174, kG174, kP174, kR174_0, kR174_1, kR174_2, kR174_3, kR174_4, kL175, kA175, kS175, kL176, kA176, kS176, kL177, kA177, kS177, kL178, kA178, kS178, kL179, kC180, kG180, kP180, kL181, kL182, kA182, kS182, kC183, kG183, kP183, kR183_1, kR183_3, kR183_5, kR183_6, kR183_7, kR183_8, kR183_9, kR183_21, kR183_26, kR183_27, kR183_30, kR183_31, kR183_33, kR183_34, kR183_36, kR183_37, kR183_38, kR183_39, kR183_40, kR183_41, kR183_42, kR183_43, kR183_44, kL184, kA184, kS184, kL185, kA185, kS185, kL186, kA186, kS186, kL187, kA187, kS187, kL188, kA188, kS188, kL189, kL190, kL191, kA191, kS191, kL192, kA192, kS192, kL193, kA193, kS193, kL194, kA194, kS194, kL195, kA195, kS195, kL196, kA196, kS196, kL197, kA197, kS197, kL198, kA198, kS198, kL199, kA199, kS199, kL200, kA200, kS200, kL201, kL202, kA202, kS202, kL203, kA203, kS203, kL204, kA204, kS204, kL205, kL206, kA206, kS206, z0, v0]
  have en1 := tEn_ok (TC_c a2 hT) (gSt_pos (hO.2.2.1 i hi).2.1).2
  have en0 := tEn_ok (TC_c a2 hT) (gSt_pos (hO.2.2.1 0 hM0).2.1).2
  have b1 := eE_b hg ho (o i)
  have b0 := eE_b hg ho (o 0)
  have qe : (iI (eE g (zR F) (o i)) = iI (eE g (zR F) (o 0))) = (eE g (zR F) (o i) = eE g (zR F) (o 0)) := iI_eq (by omega) (by omega) (by omega) (by omega)
  have w0 : wt o (i + 1) (o 0) = true := wt_iff.mpr ⟨0, by omega, rfl⟩
  have wi : wt o (i + 1) (o i) = true := wt_iff.mpr ⟨i, by omega, rfl⟩
  have q1 : (nI M ≤ nI i) = False := by rw [nn_le (by omega) (by omega)]; exact eq_false (by omega)
  have q2 : ((1024 : Int32) ≤ nI i) = False := by rw [show (1024 : Int32) = nI 1024 from rfl, nn_le (by omega) (by omega)]; exact eq_false (by omega)
  have hi' : i < 1024 := by omega
  by_cases hq : eE g (zR F) (o i) = eE g (zR F) (o 0)
  · obtain ⟨J3, e3, c3, u3⟩ := join_ok hS (show i + 1 ≤ 1024 by omega) a1 wi w0
    refine ⟨J3, _, ?_, c3, fun a k z1 z2 => by rw [u3 a k (by omega) z2]; exact a2 a k z1 z2, snd_join sQ_y a3 wi w0 (.inr ⟨hq, rfl⟩), fun x y hx1 hy1 hs => ?_⟩
    · simp only [f_X9_meetingEnergy_b7]
      simp (disch := first | assumption | omega) only [Option.bind_some, Option.map_some, xw_gR, xw_gN, xw_al, xw_ck, xw_uI, xw_ur, xup_at, xur_at, if_true, if_false, reduceIte, and_true, true_and, and_false, false_and, not_true_eq_false, not_false_eq_true, Nat.reduceEqDiff, eq_self, Nat.reduceAdd, Nat.reduceMul, kC1, kG1, kP1, kR1_0, kR1_1, kR1_2, kR1_3, kR1_4, kR1_5, kR1_6, kR1_7, kR1_8, kR1_9, kR1_10, kR1_11, kR1_12, kR1_13, kC2, kG2, kP2, kR2_0, kR2_1, kC3, kG3, kP3, kR3_0, kR3_1, kR3_2, kR3_3, kL4, kA4, kS4, kL5, kA5, kS5, kL6, kA6, kS6, kL7, kA7, kS7, kC8, kG8, kP8, kR8_0, kR8_1, kL9, kA9, kS9, kL10, kA10, kS10, kC11, kG11, kP11, kR11_0, kR11_1, kR11_2, kR11_3, kL12, kA12, kS12, kL13, kA13, kS13, kL14, kA14, kS14, kL15, kA15, kS15, kC16, kG16, kP16, kR16_0, kR16_1, kL17, kA17, kS17, kL18, kA18, kS18, kC19, kG19, kP19, kR19_0, kL20, kL141, kL146, kA146, kS146, kL151, kA151, kS151, kL156, kA156, kS156, kC157, kG157, kP157, kR157_0, kR157_1, kL158, kA158, kS158, kL159, kA159, kS159, kC161, kG161, kP161, kR161_0, kR161_1, kL162, kA162, kS162, kL163, kA163, kS163, kC165, kG165, kP165, kR165_0, kR165_1, kR165_2, kR165_3, kL166, kA166, kS166, kL167, kA167, kS167, kL168, kA168, kS168, kL169, kA169, kS169, kC170, kG170, kP170, kR170_0, kR170_1, kR170_2, kL171, kA171, kS171, kL172, kA172, kS172, kL173, kA173, kS173, kC174, kG174, kP174, kR174_0, kR174_1, kR174_2, kR174_3, kR174_4, kL175, kA175, kS175, kL176, kA176, kS176, kL177, kA177, kS177, kL178, kA178, kS178, kL179, kC180, kG180, kP180, kL181, kL182, kA182, kS182, kC183, kG183, kP183, kR183_1, kR183_3, kR183_5, kR183_6, kR183_7, kR183_8, kR183_9, kR183_21, kR183_26, kR183_27, kR183_30, kR183_31, kR183_33, kR183_34, kR183_36, kR183_37, kR183_38, kR183_39, kR183_40, kR183_41, kR183_42, kR183_43, kR183_44, kL184, kA184, kS184, kL185, kA185, kS185, kL186, kA186, kS186, kL187, kA187, kS187, kL188, kA188, kS188, kL189, kL190, kL191, kA191, kS191, kL192, kA192, kS192, kL193, kA193, kS193, kL194, kA194, kS194, kL195, kA195, kS195, kL196, kA196, kS196, kL197, kA197, kS197, kL198, kA198, kS198, kL199, kA199, kS199, kL200, kA200, kS200, kL201, kL202, kA202, kS202, kL203, kA203, kS203, kL204, kA204, kS204, kL205, kL206, kA206, kS206, v8, q1, q2, v5, e, one0, en1, low, en0, qe, hq, e3]
    · show (if r' x = r' (o i) then r' (o 0) else r' x) = (if r' y = r' (o i) then r' (o 0) else r' y)
      have gr : ∀ x, wt o (i + 1) x = true → eE g (zR F) x = eE g (zR F) (o 0) → (if r' x = r' (o i) then r' (o 0) else r' x) = r' (o 0) := by
        intro x hx1 hxe
        rcases wA_iff.mp (show wA (wt o i) (o i) x = true from hx1) with z | z
        · have w00 : wt o i (o 0) = true := by
            obtain ⟨j, j1, j2⟩ := wt_iff.mp z
            exact wt_iff.mpr ⟨0, by omega, rfl⟩
          rw [a4 x (o 0) z w00 (.inr ⟨hxe, rfl⟩)]
          split <;> rfl
        · rw [← z, if_pos rfl]
      rcases hs with z | ⟨z1, z2⟩
      · rw [a5 x y hx1 hy1 z]
      · rw [gr x hx1 z1, gr y hy1 z2]
  · refine ⟨J2, r', ?_, a1, a2, a3, fun x y hx1 hy1 hs => ?_⟩
    · simp only [f_X9_meetingEnergy_b7]
      simp (disch := first | assumption | omega) only [Option.bind_some, Option.map_some, xw_gR, xw_gN, xw_al, xw_ck, xw_uI, xw_ur, xup_at, xur_at, if_true, if_false, reduceIte, and_true, true_and, and_false, false_and, not_true_eq_false, not_false_eq_true, Nat.reduceEqDiff, eq_self, Nat.reduceAdd, Nat.reduceMul, kC1, kG1, kP1, kR1_0, kR1_1, kR1_2, kR1_3, kR1_4, kR1_5, kR1_6, kR1_7, kR1_8, kR1_9, kR1_10, kR1_11, kR1_12, kR1_13, kC2, kG2, kP2, kR2_0, kR2_1, kC3, kG3, kP3, kR3_0, kR3_1, kR3_2, kR3_3, kL4, kA4, kS4, kL5, kA5, kS5, kL6, kA6, kS6, kL7, kA7, kS7, kC8, kG8, kP8, kR8_0, kR8_1, kL9, kA9, kS9, kL10, kA10, kS10, kC11, kG11, kP11, kR11_0, kR11_1, kR11_2, kR11_3, kL12, kA12, kS12, kL13, kA13, kS13, kL14, kA14, kS14, kL15, kA15, kS15, kC16, kG16, kP16, kR16_0, kR16_1, kL17, kA17, kS17, kL18, kA18, kS18, kC19, kG19, kP19, kR19_0, kL20, kL141, kL146, kA146, kS146, kL151, kA151, kS151, kL156, kA156, kS156, kC157, kG157, kP157, kR157_0, kR157_1, kL158, kA158, kS158, kL159, kA159, kS159, kC161, kG161, kP161, kR161_0, kR161_1, kL162, kA162, kS162, kL163, kA163, kS163, kC165, kG165, kP165, kR165_0, kR165_1, kR165_2, kR165_3, kL166, kA166, kS166, kL167, kA167, kS167, kL168, kA168, kS168, kL169, kA169, kS169, kC170, kG170, kP170, kR170_0, kR170_1, kR170_2, kL171, kA171, kS171, kL172, kA172, kS172, kL173, kA173, kS173, kC174, kG174, kP174, kR174_0, kR174_1, kR174_2, kR174_3, kR174_4, kL175, kA175, kS175, kL176, kA176, kS176, kL177, kA177, kS177, kL178, kA178, kS178, kL179, kC180, kG180, kP180, kL181, kL182, kA182, kS182, kC183, kG183, kP183, kR183_1, kR183_3, kR183_5, kR183_6, kR183_7, kR183_8, kR183_9, kR183_21, kR183_26, kR183_27, kR183_30, kR183_31, kR183_33, kR183_34, kR183_36, kR183_37, kR183_38, kR183_39, kR183_40, kR183_41, kR183_42, kR183_43, kR183_44, kL184, kA184, kS184, kL185, kA185, kS185, kL186, kA186, kS186, kL187, kA187, kS187, kL188, kA188, kS188, kL189, kL190, kL191, kA191, kS191, kL192, kA192, kS192, kL193, kA193, kS193, kL194, kA194, kS194, kL195, kA195, kS195, kL196, kA196, kS196, kL197, kA197, kS197, kL198, kA198, kS198, kL199, kA199, kS199, kL200, kA200, kS200, kL201, kL202, kA202, kS202, kL203, kA203, kS203, kL204, kA204, kS204, kL205, kL206, kA206, kS206, v8, q1, q2, v5, e, one0, en1, low, en0, qe, hq]
    · rcases hs with z | ⟨z1, z2⟩
      · exact a5 x y hx1 hy1 z
      · have old : ∀ x, wt o (i + 1) x = true → eE g (zR F) x = eE g (zR F) (o 0) → wt o i x = true := fun x hx1 hxe => by
          rcases wA_iff.mp (show wA (wt o i) (o i) x = true from hx1) with z | z
          · exact z
          · rw [← z] at hxe; exact absurd hxe hq
        exact a4 x y (old x hx1 z1) (old y hy1 z2) (.inr ⟨z1, z2⟩)
/-- the lakes below an energy -/
theorem lakesBelow_ok (hT : TC σ J g F c m) (hO : TO J g F M o) (x : Int32) : ∃ J' r w, f_X9_lakesBelow (xw σ J) 174 x = some (nI (rc w r), xw σ J') ∧ (∀ a k, ¬ (176 ≤ a ∧ a ≤ 182) → ¬ (a = 174 ∧ k = 9) → J' a k = J a k) ∧ (∀ s, w s = true ↔ lwS g F s ∧ eE g (zR F) s ≤ x.toInt) ∧ (∀ s, w s = true → s < 1024 ∧ w (r s) = true) ∧ (∀ a b, w a = true → w b = true → (r a = r b ↔ cn (Sw w (aj g F)) a b)) ∧ ∀ s, w s = true → r (r s) = r s := by
  have hst := hT.st
  have hS := hT.1
  have hM := hO.1
  have hg := hT.2.1
  have ho := hT.2.2.1
  obtain ⟨J0, e0, d0, u0⟩ := dry_ok (σ := σ) (J := J) hS
  have fin : ∀ i J' r, i ≤ M → RS J J' g F o (fun _ => False) i r → (∀ j, j < i → eE g (zR F) (o j) ≤ x.toInt) → (∀ j, i ≤ j → j < M → ¬ eE g (zR F) (o j) ≤ x.toInt) → ∃ r w, J' 174 9 = nI (rc w r) ∧ (∀ a k, ¬ (176 ≤ a ∧ a ≤ 182) → ¬ (a = 174 ∧ k = 9) → J' a k = J a k) ∧ (∀ s, w s = true ↔ lwS g F s ∧ eE g (zR F) s ≤ x.toInt) ∧ (∀ s, w s = true → s < 1024 ∧ w (r s) = true) ∧ (∀ a b, w a = true → w b = true → (r a = r b ↔ cn (Sw w (aj g F)) a b)) ∧ ∀ s, w s = true → r (r s) = r s := by
    intro i J' r hi hR hlo hhi
    have hR' := hR
    obtain ⟨⟨T, ρ, R, hJ, hU, -, h9⟩, u, sd, cp⟩ := hR'
    refine ⟨r, wt o i, h9, u, fun s => ?_, fun s hw => ⟨(hU s hw).1, (hU s hw).2.2.2.2.2.2.1⟩, fun a b ha hb => ?_, fun s hw => ?_⟩
    · rw [wt_iff]
      constructor
      · rintro ⟨j, j1, rfl⟩
        exact ⟨(hO.2.2.1 j (by omega)).2, hlo j j1⟩
      · rintro ⟨l1, l2⟩
        obtain ⟨j, j1, rfl⟩ := hO.2.2.2.2 s l1.1 l1.2
        refine ⟨j, ?_, rfl⟩
        apply Classical.byContradiction
        intro z
        exact hhi j (by omega) j1 l2
    · rw [met_iff hR ha hb]
      constructor
      · rintro ⟨-, -, q⟩
        exact cn_m (fun p q ⟨s1, s2, s3⟩ => ⟨s1, s2, s3.elim id (fun z => z.1.elim)⟩) q
      · intro q
        exact ⟨ha, hb, cn_m (fun p q ⟨s1, s2, s3⟩ => ⟨s1, s2, .inl s3⟩) q⟩
    · obtain ⟨x1, x2, x3, x4, x5, x6, x7, x8⟩ := hU s hw
      exact (hU _ x7).2.2.2.2.1 x8
  have key := xloop_run (f := f_X9_lakesBelow_b6 174 x) (fun k a => ∃ (i : Nat) (J' : Nat → Nat → Int32) (r : Nat → Nat), a = (nI i, xw σ J') ∧ k = M - i ∧ i ≤ M ∧ RS J J' g F o (fun _ => False) i r ∧ ∀ j, j < i → eE g (zR F) (o j) ≤ x.toInt) (fun b => ∃ (J' : Nat → Nat → Int32) (r : Nat → Nat) (w : Nat → Bool), b = (nI (rc w r), xw σ J') ∧ (∀ a k, ¬ (176 ≤ a ∧ a ≤ 182) → ¬ (a = 174 ∧ k = 9) → J' a k = J a k) ∧ (∀ s, w s = true ↔ lwS g F s ∧ eE g (zR F) s ≤ x.toInt) ∧ (∀ s, w s = true → s < 1024 ∧ w (r s) = true) ∧ (∀ a b, w a = true → w b = true → (r a = r b ↔ cn (Sw w (aj g F)) a b)) ∧ ∀ s, w s = true → r (r s) = r s) ?_ (M - 0) ((0 : Int32), xw σ J0) ⟨0, J0, fun x => x, rfl, rfl, Nat.zero_le _, ⟨d0, u0, fun x hw => absurd hw Bool.false_ne_true, fun x y hw => absurd hw Bool.false_ne_true⟩, fun j hj => absurd hj (Nat.not_lt_zero _)⟩
  · obtain ⟨b, e, J', r, w, rfl, rest⟩ := key
    refine ⟨J', r, w, ?_, rest⟩
    unfold f_X9_lakesBelow
    rw [xw_ck, kC174 hS, Option.bind_some, e0, Option.bind_some]
    exact e
  · rintro k a ⟨i, J', r, rfl, rfl, hi, hR, hlo⟩
    have v8 : J' 174 8 = nI M := by rw [hR.2.1 _ _ (by omega) (by omega)]; exact hO.2.1
    by_cases him : i = M
    · left
      obtain ⟨r2, w2, h9, rest⟩ := fin i J' r hi hR hlo (fun j z1 z2 => by omega)
      refine ⟨_, ?_, J', r2, w2, rfl, rest⟩
      simp only [f_X9_lakesBelow_b6]
      have q1 : (nI M ≤ nI i) = True := by rw [nn_le (by omega) (by omega)]; exact eq_true (by omega)
      simp (disch := first | assumption | omega) only [Option.bind_some, Option.map_some, xw_gR, xw_gN, xw_al, xw_ck, xw_uI, xw_ur, xup_at, xur_at, if_true, if_false, reduceIte, and_true, true_and, and_false, false_and, not_true_eq_false, not_false_eq_true, Nat.reduceEqDiff, eq_self, Nat.reduceAdd, Nat.reduceMul, kC1, kG1, kP1, kR1_0, kR1_1, kR1_2, kR1_3, kR1_4, kR1_5, kR1_6, kR1_7, kR1_8, kR1_9, kR1_10, kR1_11, kR1_12, kR1_13, kC2, kG2, kP2, kR2_0, kR2_1, kC3, kG3, kP3, kR3_0, kR3_1, kR3_2, kR3_3, kL4, kA4, kS4, kL5, kA5, kS5, kL6, kA6, kS6, kL7, kA7, kS7, kC8, kG8, kP8, kR8_0, kR8_1, kL9, kA9, kS9, kL10, kA10, kS10, kC11, kG11, kP11, kR11_0, kR11_1, kR11_2, kR11_3, kL12, kA12, kS12, kL13, kA13, kS13, kL14, kA14, kS14, kL15, kA15, kS15, kC16, kG16, kP16, kR16_0, kR16_1, kL17, kA17, kS17, kL18, kA18, kS18, kC19, kG19, kP19, kR19_0, kL20, kL141, kL146, kA146, kS146, kL151, kA151, kS151, kL156, kA156, kS156, kC157, kG157, kP157, kR157_0, kR157_1, kL158, kA158, kS158, kL159, kA159, kS159, kC161, kG161, kP161, kR161_0, kR161_1, kL162, kA162, kS162, kL163, kA163, kS163, kC165, kG165, kP165, kR165_0, kR165_1, kR165_2, kR165_3, kL166, kA166, kS166, kL167, kA167, kS167, kL168, kA168, kS168, kL169, kA169, kS169, kC170, kG170, kP170, kR170_0, kR170_1, kR170_2, kL171, kA171, kS171, kL172, kA172, kS172, kL173, kA173, kS173, kC174, kG174, kP174, kR174_0, kR174_1, kR174_2, kR174_3, kR174_4, kL175, kA175, kS175, kL176, kA176, kS176, kL177, kA177, kS177, kL178, kA178, kS178, kL179, kC180, kG180, kP180, kL181, kL182, kA182, kS182, kC183, kG183, kP183, kR183_1, kR183_3, kR183_5, kR183_6, kR183_7, kR183_8, kR183_9, kR183_21, kR183_26, kR183_27, kR183_30, kR183_31, kR183_33, kR183_34, kR183_36, kR183_37, kR183_38, kR183_39, kR183_40, kR183_41, kR183_42, kR183_43, kR183_44, kL184, kA184, kS184, kL185, kA185, kS185, kL186, kA186, kS186, kL187, kA187, kS187, kL188, kA188, kS188, kL189, kL190, kL191, kA191, kS191, kL192, kA192, kS192, kL193, kA193, kS193, kL194, kA194, kS194, kL195, kA195, kS195, kL196, kA196, kS196, kL197, kA197, kS197, kL198, kA198, kS198, kL199, kA199, kS199, kL200, kA200, kS200, kL201, kL202, kA202, kS202, kL203, kA203, kS203, kL204, kA204, kS204, kL205, kL206, kA206, kS206, v8, q1, h9]
    · have hi' : i < M := by omega
      have hi2 : i < 1024 := by omega
      have v5 : J' 175 i = nI (o i) := by rw [hR.2.1 _ _ (by omega) (by omega)]; exact (hO.2.2.1 i hi').1
      have en := tEn_ok (TC_c hR.2.1 hT) (gSt_pos (hO.2.2.1 i hi').2.1).2
      have bb := eE_b hg ho (o i)
      have q1 : (nI M ≤ nI i) = False := by rw [nn_le (by omega) (by omega)]; exact eq_false (by omega)
      have q2 : ((1024 : Int32) ≤ nI i) = False := by rw [show (1024 : Int32) = nI 1024 from rfl, nn_le (by omega) (by omega)]; exact eq_false (by omega)
      have q3 : (x < iI (eE g (zR F) (o i))) = (x.toInt < eE g (zR F) (o i)) := by rw [fa_lt, iI_ti (by omega) (by omega)]
      by_cases hlt : x.toInt < eE g (zR F) (o i)
      · left
        obtain ⟨r2, w2, h9, rest⟩ := fin i J' r hi hR hlo (fun j z1 z2 z3 => by
          by_cases z : j = i
          · rw [z] at z3; omega
          · have := (hO.2.2.2.1 i j (by omega) z2).1
            omega)
        refine ⟨_, ?_, J', r2, w2, rfl, rest⟩
        simp only [f_X9_lakesBelow_b6]
        simp (disch := first | assumption | omega) only [Option.bind_some, Option.map_some, xw_gR, xw_gN, xw_al, xw_ck, xw_uI, xw_ur, xup_at, xur_at, if_true, if_false, reduceIte, and_true, true_and, and_false, false_and, not_true_eq_false, not_false_eq_true, Nat.reduceEqDiff, eq_self, Nat.reduceAdd, Nat.reduceMul, kC1, kG1, kP1, kR1_0, kR1_1, kR1_2, kR1_3, kR1_4, kR1_5, kR1_6, kR1_7, kR1_8, kR1_9, kR1_10, kR1_11, kR1_12, kR1_13, kC2, kG2, kP2, kR2_0, kR2_1, kC3, kG3, kP3, kR3_0, kR3_1, kR3_2, kR3_3, kL4, kA4, kS4, kL5, kA5, kS5, kL6, kA6, kS6, kL7, kA7, kS7, kC8, kG8, kP8, kR8_0, kR8_1, kL9, kA9, kS9, kL10, kA10, kS10, kC11, kG11, kP11, kR11_0, kR11_1, kR11_2, kR11_3, kL12, kA12, kS12, kL13, kA13, kS13, kL14, kA14, kS14, kL15, kA15, kS15, kC16, kG16, kP16, kR16_0, kR16_1, kL17, kA17, kS17, kL18, kA18, kS18, kC19, kG19, kP19, kR19_0, kL20, kL141, kL146, kA146, kS146, kL151, kA151, kS151, kL156, kA156, kS156, kC157, kG157, kP157, kR157_0, kR157_1, kL158, kA158, kS158, kL159, kA159, kS159, kC161, kG161, kP161, kR161_0, kR161_1, kL162, kA162, kS162, kL163, kA163, kS163, kC165, kG165, kP165, kR165_0, kR165_1, kR165_2, kR165_3, kL166, kA166, kS166, kL167, kA167, kS167, kL168, kA168, kS168, kL169, kA169, kS169, kC170, kG170, kP170, kR170_0, kR170_1, kR170_2, kL171, kA171, kS171, kL172, kA172, kS172, kL173, kA173, kS173, kC174, kG174, kP174, kR174_0, kR174_1, kR174_2, kR174_3, kR174_4, kL175, kA175, kS175, kL176, kA176, kS176, kL177, kA177, kS177, kL178, kA178, kS178, kL179, kC180, kG180, kP180, kL181, kL182, kA182, kS182, kC183, kG183, kP183, kR183_1, kR183_3, kR183_5, kR183_6, kR183_7, kR183_8, kR183_9, kR183_21, kR183_26, kR183_27, kR183_30, kR183_31, kR183_33, kR183_34, kR183_36, kR183_37, kR183_38, kR183_39, kR183_40, kR183_41, kR183_42, kR183_43, kR183_44, kL184, kA184, kS184, kL185, kA185, kS185, kL186, kA186, kS186, kL187, kA187, kS187, kL188, kA188, kS188, kL189, kL190, kL191, kA191, kS191, kL192, kA192, kS192, kL193, kA193, kS193, kL194, kA194, kS194, kL195, kA195, kS195, kL196, kA196, kS196, kL197, kA197, kS197, kL198, kA198, kS198, kL199, kA199, kS199, kL200, kA200, kS200, kL201, kL202, kA202, kS202, kL203, kA203, kS203, kL204, kA204, kS204, kL205, kL206, kA206, kS206, v8, q1, q2, v5, en, q3, hlt, h9]
      · right
        obtain ⟨J2, r', e, a1, a2, a3, a4, a5⟩ := flood_s hT hO hi' hR
        refine ⟨M - (i + 1), (nI (i + 1), xw σ J2), by omega, ?_, i + 1, J2, r', rfl, rfl, by omega, ⟨a1, a2, a3, fun p q z1 z2 z3 => a5 p q z1 z2 (z3.elim id (fun z => z.1.elim))⟩, fun j hj => ?_⟩
        · simp only [f_X9_lakesBelow_b6]
          simp (disch := first | assumption | omega) only [Option.bind_some, Option.map_some, xw_gR, xw_gN, xw_al, xw_ck, xw_uI, xw_ur, xup_at, xur_at, if_true, if_false, reduceIte, and_true, true_and, and_false, false_and, not_true_eq_false, not_false_eq_true, Nat.reduceEqDiff, eq_self, Nat.reduceAdd, Nat.reduceMul, kC1, kG1, kP1, kR1_0, kR1_1, kR1_2, kR1_3, kR1_4, kR1_5, kR1_6, kR1_7, kR1_8, kR1_9, kR1_10, kR1_11, kR1_12, kR1_13, kC2, kG2, kP2, kR2_0, kR2_1, kC3, kG3, kP3, kR3_0, kR3_1, kR3_2, kR3_3, kL4, kA4, kS4, kL5, kA5, kS5, kL6, kA6, kS6, kL7, kA7, kS7, kC8, kG8, kP8, kR8_0, kR8_1, kL9, kA9, kS9, kL10, kA10, kS10, kC11, kG11, kP11, kR11_0, kR11_1, kR11_2, kR11_3, kL12, kA12, kS12, kL13, kA13, kS13, kL14, kA14, kS14, kL15, kA15, kS15, kC16, kG16, kP16, kR16_0, kR16_1, kL17, kA17, kS17, kL18, kA18, kS18, kC19, kG19, kP19, kR19_0, kL20, kL141, kL146, kA146, kS146, kL151, kA151, kS151, kL156, kA156, kS156, kC157, kG157, kP157, kR157_0, kR157_1, kL158, kA158, kS158, kL159, kA159, kS159, kC161, kG161, kP161, kR161_0, kR161_1, kL162, kA162, kS162, kL163, kA163, kS163, kC165, kG165, kP165, kR165_0, kR165_1, kR165_2, kR165_3, kL166, kA166, kS166, kL167, kA167, kS167, kL168, kA168, kS168, kL169, kA169, kS169, kC170, kG170, kP170, kR170_0, kR170_1, kR170_2, kL171, kA171, kS171, kL172, kA172, kS172, kL173, kA173, kS173, kC174, kG174, kP174, kR174_0, kR174_1, kR174_2, kR174_3, kR174_4, kL175, kA175, kS175, kL176, kA176, kS176, kL177, kA177, kS177, kL178, kA178, kS178, kL179, kC180, kG180, kP180, kL181, kL182, kA182, kS182, kC183, kG183, kP183, kR183_1, kR183_3, kR183_5, kR183_6, kR183_7, kR183_8, kR183_9, kR183_21, kR183_26, kR183_27, kR183_30, kR183_31, kR183_33, kR183_34, kR183_36, kR183_37, kR183_38, kR183_39, kR183_40, kR183_41, kR183_42, kR183_43, kR183_44, kL184, kA184, kS184, kL185, kA185, kS185, kL186, kA186, kS186, kL187, kA187, kS187, kL188, kA188, kS188, kL189, kL190, kL191, kA191, kS191, kL192, kA192, kS192, kL193, kA193, kS193, kL194, kA194, kS194, kL195, kA195, kS195, kL196, kA196, kS196, kL197, kA197, kS197, kL198, kA198, kS198, kL199, kA199, kS199, kL200, kA200, kS200, kL201, kL202, kA202, kS202, kL203, kA203, kS203, kL204, kA204, kS204, kL205, kL206, kA206, kS206, v8, q1, q2, v5, en, q3, hlt, e]
          rw [nI_succ]
        · by_cases z : j = i
          · rw [z]; omega
          · exact hlo j (by omega)
end MEET
