/-! clusters -/
def sub (S T : Nat) : Prop := ∀ i, S.testBit i = true → T.testBit i = true
/-- one tie's step of growing -/
def clS (g : GD) (b t S : Nat) : Nat := match gTo g t with
  | none => S
  | some e => if b.testBit (gFr t) = b.testBit e ∧ (S.testBit (gFr t) = true ∨ S.testBit e = true) then S ||| (2 ^ gFr t ||| 2 ^ e) else S
theorem clS_up (g : GD) (b t S : Nat) : sub S (clS g b t S) := by
  intro i h
  unfold clS
  split
  · exact h
  · split
    · rw [Nat.testBit_or, h]; rfl
    · exact h
theorem clS_in {g : GD} {b t S T : Nat} (h : sub S T) (hT : clS g b t T = T) : sub (clS g b t S) T := by
  intro i hi
  unfold clS at hi hT
  cases he : gTo g t with
  | none => rw [he] at hi; exact h i hi
  | some e =>
    rw [he] at hi hT
    dsimp only at hi hT
    split at hi
    · next hc =>
      rw [if_pos ⟨hc.1, by rcases hc.2 with z | z; exact .inl (h _ z); exact .inr (h _ z)⟩] at hT
      rw [Nat.testBit_or, Bool.or_eq_true] at hi
      rcases hi with z | z
      · exact h i z
      · rw [← hT, Nat.testBit_or, z]; simp
    · exact h i hi
theorem clS_b {g : GD} (hg : g ∈ gAll) {b t S : Nat} (ht : t < 32) (h : S < 65536) : clS g b t S < 65536 := by
  have h16 := (gAll_b g hg).2.2.1
  unfold clS
  cases he : gTo g t with
  | none => exact h
  | some e =>
    have heb := gTo_b g hg t ht e he
    dsimp only
    split
    · exact Nat.or_lt_two_pow (n := 16) h (Nat.or_lt_two_pow (Nat.pow_lt_pow_right (by decide) (by omega)) (Nat.pow_lt_pow_right (by decide) (by omega)))
    · exact h
/-- a pass over ties in some order -/
def clP (g : GD) (b : Nat) (f : Nat → Nat) (S : Nat) : Nat → Nat
  | 0 => S
  | k + 1 => clS g b (f k) (clP g b f S k)
theorem clP_up (g : GD) (b : Nat) (f : Nat → Nat) (S : Nat) : ∀ k, sub S (clP g b f S k)
  | 0 => fun _ h => h
  | k + 1 => fun i h => clS_up g b (f k) _ i (clP_up g b f S k i h)
theorem clP_in {g : GD} {b : Nat} {f : Nat → Nat} {S T : Nat} (h : sub S T) : ∀ k, (∀ j, j < k → clS g b (f j) T = T) → sub (clP g b f S k) T
  | 0, _ => h
  | k + 1, hT => clS_in (clP_in h k (fun j hj => hT j (by omega))) (hT k (by omega))
theorem clP_b {g : GD} (hg : g ∈ gAll) {b : Nat} {f : Nat → Nat} {S : Nat} (h : S < 65536) : ∀ k, (∀ j, j < k → f j < 32) → clP g b f S k < 65536
  | 0, _ => h
  | k + 1, hf => clS_b hg (hf k (by omega)) (clP_b hg h k (fun j hj => hf j (by omega)))
theorem sub_anti {S T : Nat} (h1 : sub S T) (h2 : sub T S) : S = T := by
  apply Nat.eq_of_testBit_eq
  intro i
  rw [Bool.eq_iff_iff]
  exact ⟨h1 i, h2 i⟩
theorem clP_fix {g : GD} {b : Nat} {f : Nat → Nat} {S : Nat} : ∀ k, clP g b f S k = S → ∀ j, j < k → clS g b (f j) S = S
  | 0, _ => fun j hj => by omega
  | k + 1, h => fun j hj => by
    have h1 : clP g b f S k = S := by
      apply sub_anti _ (clP_up g b f S k)
      intro i hi
      rw [← h]
      exact clS_up g b (f k) _ i hi
    have h2 : clS g b (f k) S = S := by
      have h' : clS g b (f k) (clP g b f S k) = S := h
      rw [h1] at h'; exact h'
    by_cases hjk : j = k
    · rw [hjk]; exact h2
    · exact clP_fix k h1 j (by omega)
theorem pC_sub {S T : Nat} (h : sub S T) (hT : T < 65536) (hne : S ≠ T) : pC S < pC T := by
  have key : ∀ n, fb_ct (fun i => S.testBit i) n ≤ fb_ct (fun i => T.testBit i) n ∧ (fb_ct (fun i => S.testBit i) n = fb_ct (fun i => T.testBit i) n → ∀ i, i < n → S.testBit i = T.testBit i) := by
    intro n
    induction n with
    | zero => exact ⟨Nat.le_refl _, fun _ i hi => by omega⟩
    | succ n ih =>
      rw [fb_ct_succ, fb_ct_succ]
      have hn := h n
      cases hS : S.testBit n with
      | false =>
        cases hTn : T.testBit n with
        | false =>
          simp only [Bool.false_eq_true, if_false]
          refine ⟨ih.1, fun e i hi => ?_⟩
          by_cases z : i = n
          · rw [z, hS, hTn]
          · exact ih.2 e i (by omega)
        | true =>
          simp only [Bool.false_eq_true, if_false, if_true]
          exact ⟨by omega, fun e => by omega⟩
      | true =>
        rw [hn hS]
        simp only [if_true]
        refine ⟨by omega, fun e i hi => ?_⟩
        by_cases z : i = n
        · rw [z, hS, hn hS]
        · exact ih.2 (by omega) i (by omega)
  have k := key 16
  unfold pC
  rcases Nat.lt_or_ge (fb_ct (fun i => S.testBit i) 16) (fb_ct (fun i => T.testBit i) 16) with z | z
  · exact z
  · exfalso
    apply hne
    have e := k.2 (by omega)
    apply Nat.eq_of_testBit_eq
    intro i
    by_cases hi : i < 16
    · exact e i hi
    · have h2 : T.testBit i = false := Nat.testBit_lt_two_pow (Nat.lt_of_lt_of_le hT (show 2 ^ 16 ≤ 2 ^ i from Nat.pow_le_pow_right (by decide) (by omega)))
      cases hS : S.testBit i with
      | false => rw [h2]
      | true => rw [h i hS] at h2; cases h2
/-- pass after pass -/
def clI (g : GD) (b : Nat) (f : Nat → Nat) (N S : Nat) : Nat → Nat
  | 0 => S
  | j + 1 => clP g b f (clI g b f N S j) N
theorem clI_b {g : GD} (hg : g ∈ gAll) {b : Nat} {f : Nat → Nat} {N S : Nat} (hf : ∀ j, j < N → f j < 32) (h : S < 65536) : ∀ j, clI g b f N S j < 65536
  | 0 => h
  | j + 1 => clP_b hg (clI_b hg hf h j) N hf
theorem clI_up {g : GD} {b : Nat} {f : Nat → Nat} {N S : Nat} : ∀ j, sub S (clI g b f N S j)
  | 0 => fun _ h => h
  | j + 1 => fun i h => clP_up g b f _ N i (clI_up j i h)
theorem clI_in {g : GD} {b : Nat} {f : Nat → Nat} {N S T : Nat} (h : sub S T) (hT : ∀ j, j < N → clS g b (f j) T = T) : ∀ j, sub (clI g b f N S j) T
  | 0 => h
  | j + 1 => clP_in (clI_in h hT j) N hT
theorem clI_end {g : GD} (hg : g ∈ gAll) {b : Nat} {f : Nat → Nat} {N S : Nat} (hf : ∀ j, j < N → f j < 32) (h : S < 65536) (h0 : S ≠ 0) : ∃ J, J ≤ 15 ∧ clI g b f N S (J + 1) = clI g b f N S J ∧ ∀ j, j < J → clI g b f N S (j + 1) ≠ clI g b f N S j := by
  have hp0 : 0 < pC S := by
    have := pC_sub (S := 0) (T := S) (fun i hi => by rw [Nat.zero_testBit] at hi; cases hi) h (fun z => h0 z.symm)
    omega
  have gr : ∀ m, (∀ j, j < m → clI g b f N S (j + 1) ≠ clI g b f N S j) → m + 1 ≤ pC (clI g b f N S m) := by
    intro m
    induction m with
    | zero => intro _; exact hp0
    | succ m ih =>
      intro hne
      have h1 := ih (fun j hj => hne j (by omega))
      have h2 := pC_sub (S := clI g b f N S m) (T := clI g b f N S (m + 1)) (clP_up g b f _ N) (clI_b hg hf h (m + 1)) (fun z => hne m (by omega) z.symm)
      omega
  have ex : ∃ j, j < 16 ∧ clI g b f N S (j + 1) = clI g b f N S j := by
    apply Classical.byContradiction
    intro hn
    have := gr 16 (fun j hj hz => hn ⟨j, hj, hz⟩)
    have := pC_16 (clI g b f N S 16)
    omega
  obtain ⟨J, h1, h2, h3⟩ := fb_first (p := fun j => clI g b f N S (j + 1) = clI g b f N S j) ex
  exact ⟨J, by omega, h2, h3⟩
def tk (k : Nat) : Nat := k / 2 + 16 * (k % 2)
/-- closed under both orders alike -/
theorem cl_both {g : GD} (hg : g ∈ gAll) {b S : Nat} : (∀ j, j < 32 → clS g b j S = S) ↔ (∀ j, j < 2 * gSz g → clS g b (tk j) S = S) := by
  have h16 := (gAll_b g hg).2.2.1
  constructor
  · intro h j hj
    exact h (tk j) (by unfold tk; omega)
  · intro h t ht
    by_cases hno : gTo g t = none
    · unfold clS; rw [hno]
    · have hlt : gFr t < gSz g := by
        rcases Nat.lt_or_ge (gFr t) (gSz g) with z | z
        · exact z
        · exact absurd (gap g hg t ht z) hno
      unfold gFr at hlt
      by_cases h1 : t < 16
      · rw [if_pos h1] at hlt
        have := h (2 * t) (by omega)
        unfold tk at this
        rw [show 2 * t / 2 + 16 * (2 * t % 2) = t by omega] at this
        exact this
      · rw [if_neg h1] at hlt
        have := h (2 * (t - 16) + 1) (by omega)
        unfold tk at this
        rw [show (2 * (t - 16) + 1) / 2 + 16 * ((2 * (t - 16) + 1) % 2) = t by omega] at this
        exact this
/-- both sides' clusters are one -/
theorem cl_same {g : GD} (hg : g ∈ gAll) {b S J K : Nat} (hJ : clI g b (fun j => j) 32 S (J + 1) = clI g b (fun j => j) 32 S J) (hK : clI g b tk (2 * gSz g) S (K + 1) = clI g b tk (2 * gSz g) S K) : clI g b (fun j => j) 32 S J = clI g b tk (2 * gSz g) S K := by
  have c1 : ∀ j, j < 32 → clS g b j (clI g b (fun j => j) 32 S J) = clI g b (fun j => j) 32 S J := clP_fix (f := fun j => j) 32 hJ
  have c2 : ∀ j, j < 2 * gSz g → clS g b (tk j) (clI g b tk (2 * gSz g) S K) = clI g b tk (2 * gSz g) S K := clP_fix _ hK
  apply sub_anti
  · exact clI_in (clI_up K) ((cl_both hg).mpr c2) J
  · exact clI_in (clI_up J) ((cl_both hg).mp c1) K
section CLUSTER
variable {σ : XS} {I : Nat → Nat → Int32} {g : GD}
theorem bits2 {S a e : Nat} (hS : S < 65536) (ha : a < 16) (he : e < 16) : (nI (S &&& (2 ^ a ||| 2 ^ e)) = 0) = ¬ (S.testBit a = true ∨ S.testBit e = true) := by
  have hb : S &&& (2 ^ a ||| 2 ^ e) < 65536 := Nat.lt_of_le_of_lt Nat.and_le_left hS
  have : (nI (S &&& (2 ^ a ||| 2 ^ e)) = 0) = (S &&& (2 ^ a ||| 2 ^ e) = 0) := nn_eq (b := 0) (by omega) (by decide)
  rw [this, Nat.and_or_distrib_left]
  apply propext
  have z1 := fb_bit_nat S a
  have z2 := fb_bit_nat S e
  constructor
  · intro h
    have h1 : S &&& 2 ^ a = 0 := by
      have := Nat.left_le_or (n := S &&& 2 ^ a) (m := S &&& 2 ^ e); omega
    have h2 : S &&& 2 ^ e = 0 := by
      have := Nat.right_le_or (n := S &&& 2 ^ a) (m := S &&& 2 ^ e); omega
    rw [z1.mp h1, z2.mp h2]; simp
  · intro h
    have h1 : S.testBit a = false := by
      cases q : S.testBit a with
      | false => rfl
      | true => exact absurd (.inl q) h
    have h2 : S.testBit e = false := by
      cases q : S.testBit e with
      | false => rfl
      | true => exact absurd (.inr q) h
    rw [z1.mpr h1, z2.mpr h2]; rfl
theorem grown_ok (hS : Shp σ) (hG : GRD I g) {b S : Nat} (hb : b < 65536) (hs : S < 65536) : f_X3_grownCluster (xw σ I) 11 (nI b) (nI S) = some (nI (clP g b (fun j => j) S 32)) := by
  have hg := hG.1
  have h16 := (gAll_b g hg).2.2.1
  unfold f_X3_grownCluster
  refine xforE (fun t : Nat => (nI (clP g b (fun j => j) S t), nI t)) 32 rfl (fun t ht => ?_) ?_
  · simp only [f_X3_grownCluster_b5]
    obtain ⟨T, hT⟩ : ∃ T, T = clP g b (fun j => j) S t := ⟨_, rfl⟩
    have hTb : T < 65536 := by rw [hT]; exact clP_b hg hs t (fun j hj => by omega)
    have e1 : clP g b (fun j => j) S (t + 1) = clS g b t T := by rw [clP, ← hT]
    rw [← hT, e1, if_neg (by rw [show (32 : Int32) = nI 32 from rfl, nn_le (by omega) (by omega)]; omega)]
    simp (disch := first | assumption | omega) only [Option.bind_some, Option.map_some, xw_gR, xw_gN, xw_al, xw_ck, xw_uI, xw_ur, xup_at, xur_at, if_true, if_false, reduceIte, and_true, true_and, and_false, false_and, not_true_eq_false, not_false_eq_true, Nat.reduceEqDiff, eq_self, Nat.reduceAdd, Nat.reduceMul, kC1, kG1, kP1, kR1_0, kR1_1, kR1_2, kR1_3, kR1_4, kR1_5, kR1_6, kR1_7, kR1_8, kR1_9, kR1_10, kR1_11, kR1_12, kR1_13, kC2, kG2, kP2, kR2_0, kR2_1, kC3, kG3, kP3, kR3_0, kR3_1, kR3_2, kR3_3, kL4, kA4, kS4, kL5, kA5, kS5, kL6, kA6, kS6, kL7, kA7, kS7, kC8, kG8, kP8, kR8_0, kR8_1, kL9, kA9, kS9, kL10, kA10, kS10, kC11, kG11, kP11, kR11_0, kR11_1, kR11_2, kR11_3, kL12, kA12, kS12, kL13, kA13, kS13, kL14, kA14, kS14, kL15, kA15, kS15, kC16, kG16, kP16, kR16_0, kR16_1, kL17, kA17, kS17, kL18, kA18, kS18, kC19, kG19, kP19, kR19_0, kL20, kL141, kL146, kA146, kS146, kL151, kA151, kS151, kL156, kA156, kS156, kC157, kG157, kP157, kR157_0, kR157_1, kL158, kA158, kS158, kL159, kA159, kS159, kC161, kG161, kP161, kR161_0, kR161_1, kL162, kA162, kS162, kL163, kA163, kS163, kC165, kG165, kP165, kR165_0, kR165_1, kR165_2, kR165_3, kL166, kA166, kS166, kL167, kA167, kS167, kL168, kA168, kS168, kL169, kA169, kS169, kC170, kG170, kP170, kR170_0, kR170_1, kR170_2, kL171, kA171, kS171, kL172, kA172, kS172, kL173, kA173, kS173, kC174, kG174, kP174, kR174_0, kR174_1, kR174_2, kR174_3, kR174_4, kL175, kA175, kS175, kL176, kA176, kS176, kL177, kA177, kS177, kL178, kA178, kS178, kL179, kC180, kG180, kP180, kL181, kL182, kA182, kS182, kC183, kG183, kP183, kR183_1, kR183_3, kR183_5, kR183_6, kR183_7, kR183_8, kR183_9, kR183_21, kR183_26, kR183_27, kR183_30, kR183_31, kR183_33, kR183_34, kR183_36, kR183_37, kR183_38, kR183_39, kR183_40, kR183_41, kR183_42, kR183_43, kR183_44, kL184, kA184, kS184, kL185, kA185, kS185, kL186, kA186, kS186, kL187, kA187, kS187, kL188, kA188, kS188, kL189, kL190, kL191, kA191, kS191, kL192, kA192, kS192, kL193, kA193, kS193, kL194, kA194, kS194, kL195, kA195, kS195, kL196, kA196, kS196, kL197, kA197, kS197, kL198, kA198, kS198, kL199, kA199, kS199, kL200, kA200, kS200, kL201, kL202, kA202, kS202, kL203, kA203, kS203, kL204, kA204, kS204, kL205, kL206, kA206, kS206, endAt_ok hS hG ht, oI_none (gTo_s hg ht)]
    rw [← nI_succ]
    unfold clS
    cases he : gTo g t with
    | none => simp
    | some e =>
      have heb := gTo_b g hg t ht e he
      rw [if_neg (by simp), isAlike_ok hS hG (show b < 2147483648 by omega) ht he, Option.bind_some, startOf_ok ht, Option.bind_some]
      simp only [oI, nn_one (show gFr t < 32 by omega), nn_one (show e < 32 by omega), fa_or, fa_and]
      by_cases h1 : b.testBit (gFr t) = b.testBit e
      · rw [if_pos h1, if_neg (by decide)]
        simp only [bits2 hTb (show gFr t < 16 by omega) (show e < 16 by omega)]
        by_cases h2 : T.testBit (gFr t) = true ∨ T.testBit e = true
        · rw [if_neg (fun z => z h2), if_pos ⟨h1, h2⟩]
        · rw [if_pos h2, if_neg (fun z => h2 z.2)]
      · rw [if_neg h1, if_pos (by decide), if_neg (fun z => h1 z.1)]
  · simp only [f_X3_grownCluster_b5]
    rw [if_pos (by decide)]
    rfl
theorem cluster11_ok (hS : Shp σ) (hG : GRD I g) {b i J : Nat} (hb : b < 65536) (hi : i < gSz g) (hJ : J ≤ 15) (h1 : clI g b (fun j => j) 32 (2 ^ i) (J + 1) = clI g b (fun j => j) 32 (2 ^ i) J) (h2 : ∀ j, j < J → clI g b (fun j => j) 32 (2 ^ i) (j + 1) ≠ clI g b (fun j => j) 32 (2 ^ i) j) : f_X3_clusterOf (xw σ I) 11 (nI b) (nI i) = some (nI (clI g b (fun j => j) 32 (2 ^ i) J)) := by
  have hg := hG.1
  have h16 := (gAll_b g hg).2.2.1
  have h2i : 2 ^ i < 65536 := Nat.pow_lt_pow_right (n := 16) (by decide) (by omega)
  have hIb := clI_b (b := b) (f := fun j => j) (N := 32) hg (fun j hj => hj) h2i
  unfold f_X3_clusterOf
  rw [nn_one (by omega)]
  refine xforE (fun j : Nat => (nI (clI g b (fun j => j) 32 (2 ^ i) j), (if j = 0 then (0 : Int32) else nI (clI g b (fun j => j) 32 (2 ^ i) (j - 1))), nI j)) (J + 1) rfl (fun j hj => ?_) ?_
  · simp only [f_X3_clusterOf_b10]
    have hne : ¬ nI (clI g b (fun j => j) 32 (2 ^ i) j) = (if j = 0 then (0 : Int32) else nI (clI g b (fun j => j) 32 (2 ^ i) (j - 1))) := by
      by_cases z : j = 0
      · subst z
        rw [if_pos rfl]
        exact nI_ne0 (Nat.two_pow_pos i) (by show 2 ^ i < 2 ^ 31; omega)
      · rw [if_neg z, nn_eq (by have := hIb j; omega) (by have := hIb (j - 1); omega)]
        have := h2 (j - 1) (by omega)
        rw [show j - 1 + 1 = j by omega] at this
        exact this
    rw [if_neg (by rw [show (16 : Int32) = nI 16 from rfl, nn_le (by omega) (by omega)]; omega), if_neg hne]
    simp (disch := first | assumption | omega) only [Option.bind_some, Option.map_some, xw_gR, xw_gN, xw_al, xw_ck, xw_uI, xw_ur, xup_at, xur_at, if_true, if_false, reduceIte, and_true, true_and, and_false, false_and, not_true_eq_false, not_false_eq_true, Nat.reduceEqDiff, eq_self, Nat.reduceAdd, Nat.reduceMul, kC1, kG1, kP1, kR1_0, kR1_1, kR1_2, kR1_3, kR1_4, kR1_5, kR1_6, kR1_7, kR1_8, kR1_9, kR1_10, kR1_11, kR1_12, kR1_13, kC2, kG2, kP2, kR2_0, kR2_1, kC3, kG3, kP3, kR3_0, kR3_1, kR3_2, kR3_3, kL4, kA4, kS4, kL5, kA5, kS5, kL6, kA6, kS6, kL7, kA7, kS7, kC8, kG8, kP8, kR8_0, kR8_1, kL9, kA9, kS9, kL10, kA10, kS10, kC11, kG11, kP11, kR11_0, kR11_1, kR11_2, kR11_3, kL12, kA12, kS12, kL13, kA13, kS13, kL14, kA14, kS14, kL15, kA15, kS15, kC16, kG16, kP16, kR16_0, kR16_1, kL17, kA17, kS17, kL18, kA18, kS18, kC19, kG19, kP19, kR19_0, kL20, kL141, kL146, kA146, kS146, kL151, kA151, kS151, kL156, kA156, kS156, kC157, kG157, kP157, kR157_0, kR157_1, kL158, kA158, kS158, kL159, kA159, kS159, kC161, kG161, kP161, kR161_0, kR161_1, kL162, kA162, kS162, kL163, kA163, kS163, kC165, kG165, kP165, kR165_0, kR165_1, kR165_2, kR165_3, kL166, kA166, kS166, kL167, kA167, kS167, kL168, kA168, kS168, kL169, kA169, kS169, kC170, kG170, kP170, kR170_0, kR170_1, kR170_2, kL171, kA171, kS171, kL172, kA172, kS172, kL173, kA173, kS173, kC174, kG174, kP174, kR174_0, kR174_1, kR174_2, kR174_3, kR174_4, kL175, kA175, kS175, kL176, kA176, kS176, kL177, kA177, kS177, kL178, kA178, kS178, kL179, kC180, kG180, kP180, kL181, kL182, kA182, kS182, kC183, kG183, kP183, kR183_1, kR183_3, kR183_5, kR183_6, kR183_7, kR183_8, kR183_9, kR183_21, kR183_26, kR183_27, kR183_30, kR183_31, kR183_33, kR183_34, kR183_36, kR183_37, kR183_38, kR183_39, kR183_40, kR183_41, kR183_42, kR183_43, kR183_44, kL184, kA184, kS184, kL185, kA185, kS185, kL186, kA186, kS186, kL187, kA187, kS187, kL188, kA188, kS188, kL189, kL190, kL191, kA191, kS191, kL192, kA192, kS192, kL193, kA193, kS193, kL194, kA194, kS194, kL195, kA195, kS195, kL196, kA196, kS196, kL197, kA197, kS197, kL198, kA198, kS198, kL199, kA199, kS199, kL200, kA200, kS200, kL201, kL202, kA202, kS202, kL203, kA203, kS203, kL204, kA204, kS204, kL205, kL206, kA206, kS206, grown_ok hS hG hb (hIb j)]
    rw [← nI_succ]
    rfl
  · simp only [f_X3_clusterOf_b10]
    by_cases h : (16 : Int32) ≤ nI (J + 1)
    · rw [if_pos h, h1]; rfl
    · rw [if_neg h, if_pos (by rw [if_neg (by omega), Nat.add_sub_cancel, h1]), h1]; rfl
end CLUSTER
